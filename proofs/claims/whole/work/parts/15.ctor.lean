/-! ===== constructors ===== -/
def ZI (n : Nat) (I : IM) : Prop := ∀ j, n ≤ j → ∀ k, I j k = 0
def ZJ (n : Nat) (J : JM) : Prop := ∀ j, n ≤ j → ∀ k, J j k = 0
def ZR (n : Nat) (R : RM) : Prop := ∀ j, n ≤ j → ∀ k, R j k = none
theorem ZI.mono {n n' : Nat} {I : IM} (h : ZI n I) (e : n ≤ n') : ZI n' I := fun j hj => h j (Nat.le_trans e hj)
theorem ZJ.mono {n n' : Nat} {J : JM} (h : ZJ n J) (e : n ≤ n') : ZJ n' J := fun j hj => h j (Nat.le_trans e hj)
theorem ZR.mono {n n' : Nat} {R : RM} (h : ZR n R) (e : n ≤ n') : ZR n' R := fun j hj => h j (Nat.le_trans e hj)
theorem ZI.u {n a k : Nat} {v : Int32} {I : IM} (h : ZI n I) (e : a < n) : ZI n (up2 I a k v) := fun j hj y => by rw [up2_a I v (by omega)]; exact h j hj y
theorem ZR.u {n a k : Nat} {v : Option Nat} {R : RM} (h : ZR n R) (e : a < n) : ZR n (up2 R a k v) := fun j hj y => by rw [up2_a R v (by omega)]; exact h j hj y
theorem ZI.s6 {n a : Nat} {v0 v1 v2 v3 v4 v5 : Int32} {I : IM} (h : ZI n I) (e : a < n) : ZI n (st6 I a v0 v1 v2 v3 v4 v5) := fun j hj y => by unfold st6; rw [if_neg (by omega)]; exact h j hj y
theorem ZI.i {n : Nat} {I : IM} (h : ZI n I) : ∀ k, I n k = 0 := h n (Nat.le_refl _)
theorem ZJ.i {n : Nat} {J : JM} (h : ZJ n J) : ∀ k, J n k = 0 := h n (Nat.le_refl _)
theorem ZR.i {n : Nat} {R : RM} (h : ZR n R) : ∀ k, R n k = none := h n (Nat.le_refl _)
section PCtor
variable {g : GL} {d n a : Nat} {I : IM} {J : JM} {R : RM} {Q : PQ}
set_option maxRecDepth 100000 in
set_option maxHeartbeats 4000000 in
theorem c_init_X8 (hsa : (LY a).1 = 7) (ha : a < n) (hQ : Q none (n) (up2 (up2 (up2 (up2 (up2 (up2 (I) (a) 0 (0)) (a) 1 (9)) (a) 2 (0)) (a) 3 (0)) (a) 4 (0)) (a) 5 (0)) J (R)) : E g mX8_init (d + 1) 0 0 0 (ent 1 [.ref a]) [] (n) I J R Q := by
  refine E_aload_n dX8_init_0 rfl ?_
  refine E_obj dX8_init_1 w_X8_3 oi_i oi_c (by omega) ?_
  refine E_aload_n dX8_init_4 rfl ?_
  refine E_ic (0) dX8_init_5 (by decide) ?_
  refine E_putI dX8_init_6 f_X8_9 (by first | assumption | rfl) (by omega) rfl ?_
  refine E_aload_n dX8_init_9 rfl ?_
  refine E_bp (9) dX8_init_10 (by decide) ?_
  refine E_putI dX8_init_12 f_X8_15 (by first | assumption | rfl) (by omega) rfl ?_
  refine E_aload_n dX8_init_15 rfl ?_
  refine E_ic (0) dX8_init_16 (by decide) ?_
  refine E_putI dX8_init_17 f_X8_18 (by first | assumption | rfl) (by omega) rfl ?_
  refine E_aload_n dX8_init_20 rfl ?_
  refine E_ic (0) dX8_init_21 (by decide) ?_
  refine E_putI dX8_init_22 f_X8_21 (by first | assumption | rfl) (by omega) rfl ?_
  refine E_aload_n dX8_init_25 rfl ?_
  refine E_ic (0) dX8_init_26 (by decide) ?_
  refine E_putZ dX8_init_27 f_X8_24 (by first | assumption | rfl) (by omega) rfl (by decide) ?_
  refine E_aload_n dX8_init_30 rfl ?_
  refine E_ic (0) dX8_init_31 (by decide) ?_
  refine E_putZ dX8_init_32 f_X8_28 (by first | assumption | rfl) (by omega) rfl (by decide) ?_
  exact E_ret dX8_init_35 rfl hQ
set_option maxRecDepth 100000 in
set_option maxHeartbeats 4000000 in
theorem c_init_X3 (hsa : (LY a).1 = 3) (ha : a < n) (l0 : LY (n) = (20, 240)) (l1 : LY (n + 1) = (20, 16)) (l2 : LY (n + 2) = (20, 16)) (l3 : LY (n + 3) = (20, 16)) (l4 : LY (n + 4) = (20, 16)) (l5 : LY (n + 5) = (20, 9)) (l6 : LY (n + 6) = (20, 32)) (hzI : ZI (n) I) (hzR : ZR (n) R) (hQ : Q none (n + 7) (up2 (I) (a) 7 (0)) J (up2 (up2 (up2 (up2 (up2 (up2 (up2 (R) (a) 0 (some (n))) (a) 1 (some (n + 1))) (a) 2 (some (n + 2))) (a) 3 (some (n + 3))) (a) 4 (some (n + 4))) (a) 5 (some (n + 5))) (a) 6 (some (n + 6)))) : E g mX3_init (d + 3) 7 345 0 (ent 1 [.ref a]) [] (n) I J R Q := by
  refine E_aload_n dX3_init_0 rfl ?_
  refine E_obj dX3_init_1 w_X3_3 oi_i oi_c (by omega) ?_
  refine E_aload_n dX3_init_4 rfl ?_
  refine E_sp (240) dX3_init_5 (by decide) ?_
  refine E_newi (kc := 6) (ks := 105) (L := 240) dX3_init_8 ac_int (by first | assumption | rfl) (by decide) rfl (by decide) (ZI.i (by repeat (first | exact hzI.mono (by omega) | refine ZI.u ?_ (by omega) | refine ZI.s6 ?_ (by omega)))) ?_
  refine E_putF dX3_init_10 f_X3_9 rfl (by first | assumption | rfl) (by omega) rfl (Or.inr ⟨_, rfl⟩) ?_
  refine E_aload_n dX3_init_13 rfl ?_
  refine E_bp (16) dX3_init_14 (by decide) ?_
  refine E_newi (kc := 5) (ks := 89) (L := 16) dX3_init_16 ac_int (by first | assumption | rfl) (by decide) rfl (by decide) (ZI.i (by repeat (first | exact hzI.mono (by omega) | refine ZI.u ?_ (by omega) | refine ZI.s6 ?_ (by omega)))) ?_
  refine E_putF dX3_init_18 f_X3_15 rfl (by first | assumption | rfl) (by omega) rfl (Or.inr ⟨_, rfl⟩) ?_
  refine E_aload_n dX3_init_21 rfl ?_
  refine E_bp (16) dX3_init_22 (by decide) ?_
  refine E_newi (kc := 4) (ks := 73) (L := 16) dX3_init_24 ac_int (by first | assumption | rfl) (by decide) rfl (by decide) (ZI.i (by repeat (first | exact hzI.mono (by omega) | refine ZI.u ?_ (by omega) | refine ZI.s6 ?_ (by omega)))) ?_
  refine E_putF dX3_init_26 f_X3_18 rfl (by first | assumption | rfl) (by omega) rfl (Or.inr ⟨_, rfl⟩) ?_
  refine E_aload_n dX3_init_29 rfl ?_
  refine E_bp (16) dX3_init_30 (by decide) ?_
  refine E_newi (kc := 3) (ks := 57) (L := 16) dX3_init_32 ac_int (by first | assumption | rfl) (by decide) rfl (by decide) (ZI.i (by repeat (first | exact hzI.mono (by omega) | refine ZI.u ?_ (by omega) | refine ZI.s6 ?_ (by omega)))) ?_
  refine E_putF dX3_init_34 f_X3_21 rfl (by first | assumption | rfl) (by omega) rfl (Or.inr ⟨_, rfl⟩) ?_
  refine E_aload_n dX3_init_37 rfl ?_
  refine E_bp (16) dX3_init_38 (by decide) ?_
  refine E_newi (kc := 2) (ks := 41) (L := 16) dX3_init_40 ac_int (by first | assumption | rfl) (by decide) rfl (by decide) (ZI.i (by repeat (first | exact hzI.mono (by omega) | refine ZI.u ?_ (by omega) | refine ZI.s6 ?_ (by omega)))) ?_
  refine E_putF dX3_init_42 f_X3_24 rfl (by first | assumption | rfl) (by omega) rfl (Or.inr ⟨_, rfl⟩) ?_
  refine E_aload_n dX3_init_45 rfl ?_
  refine E_ldcS (i := 0) dX3_init_46 rfl ?_
  refine E_callT (As := []) (kc' := 0) (ks' := 0) (kc := 2) (ks := 41) dX3_init_48 ok_J0_length_8abf5 rfl w_X3_29 i_J0_length_8abf5 s_J0_length_8abf5 (i := 0) rfl rfl rfl rfl (Nat.le_of_ble_eq_true rfl) (Nat.le_of_ble_eq_true rfl) (Nat.le_refl _) (c_String_length (i := 0) rfl ?_)
  refine E_newi (kc := 1) (ks := 32) (L := 9) dX3_init_51 ac_int (by first | assumption | rfl) (by decide) rfl (by decide) (ZI.i (by repeat (first | exact hzI.mono (by omega) | refine ZI.u ?_ (by omega) | refine ZI.s6 ?_ (by omega)))) ?_
  refine E_putF dX3_init_53 f_X3_35 rfl (by first | assumption | rfl) (by omega) rfl (Or.inr ⟨_, rfl⟩) ?_
  refine E_aload_n dX3_init_56 rfl ?_
  refine E_bp (32) dX3_init_57 (by decide) ?_
  refine E_newi (kc := 0) (ks := 0) (L := 32) dX3_init_59 ac_int (by first | assumption | rfl) (by decide) rfl (by decide) (ZI.i (by repeat (first | exact hzI.mono (by omega) | refine ZI.u ?_ (by omega) | refine ZI.s6 ?_ (by omega)))) ?_
  refine E_putF dX3_init_61 f_X3_38 rfl (by first | assumption | rfl) (by omega) rfl (Or.inr ⟨_, rfl⟩) ?_
  refine E_aload_n dX3_init_64 rfl ?_
  refine E_ic (0) dX3_init_65 (by decide) ?_
  refine E_putI dX3_init_66 f_X3_41 (by first | assumption | rfl) (by omega) rfl ?_
  exact E_ret dX3_init_69 rfl hQ
set_option maxRecDepth 100000 in
set_option maxHeartbeats 4000000 in
theorem c_init_X10 (hsa : (LY a).1 = 9) (ha : a < n) (l0 : LY (n) = (20, 24)) (l1 : LY (n + 1) = (20, 24)) (l2 : (LY (n + 2)).1 = 7) (l3 : (LY (n + 3)).1 = 7) (hzI : ZI (n) I) (hzR : ZR (n) R) (hQ : Q none (n + 4) (up2 (up2 (up2 (up2 (up2 (up2 (up2 (up2 ((up2 (up2 (up2 (up2 (up2 (up2 ((I)) (n + 2) 0 (0)) (n + 2) 1 (9)) (n + 2) 2 (0)) (n + 2) 3 (0)) (n + 2) 4 (0)) (n + 2) 5 (0))) (n + 3) 0 (0)) (n + 3) 1 (9)) (n + 3) 2 (0)) (n + 3) 3 (0)) (n + 3) 4 (0)) (n + 3) 5 (0)) (a) 4 (0)) (a) 5 (0)) J (up2 ((up2 ((up2 (up2 (R) (a) 0 (some (n))) (a) 1 (some (n + 1)))) (a) 2 (some (n + 2)))) (a) 3 (some (n + 3)))) : E g mX10_init (d + 2) 4 60 0 (ent 1 [.ref a]) [] (n) I J R Q := by
  refine E_aload_n dX10_init_0 rfl ?_
  refine E_obj dX10_init_1 w_X10_3 oi_i oi_c (by omega) ?_
  refine E_aload_n dX10_init_4 rfl ?_
  refine E_bp (24) dX10_init_5 (by decide) ?_
  refine E_newi (kc := 3) (ks := 36) (L := 24) dX10_init_7 ac_int (by first | assumption | rfl) (by decide) rfl (by decide) (ZI.i (by repeat (first | exact hzI.mono (by omega) | refine ZI.u ?_ (by omega) | refine ZI.s6 ?_ (by omega)))) ?_
  refine E_putF dX10_init_9 f_X10_9 rfl (by first | assumption | rfl) (by omega) rfl (Or.inr ⟨_, rfl⟩) ?_
  refine E_aload_n dX10_init_12 rfl ?_
  refine E_bp (24) dX10_init_13 (by decide) ?_
  refine E_newi (kc := 2) (ks := 12) (L := 24) dX10_init_15 ac_int (by first | assumption | rfl) (by decide) rfl (by decide) (ZI.i (by repeat (first | exact hzI.mono (by omega) | refine ZI.u ?_ (by omega) | refine ZI.s6 ?_ (by omega)))) ?_
  refine E_putF dX10_init_17 f_X10_15 rfl (by first | assumption | rfl) (by omega) rfl (Or.inr ⟨_, rfl⟩) ?_
  refine E_aload_n dX10_init_20 rfl ?_
  refine E_new (kc := 1) (ks := 6) (N := 6) dX10_init_21 ck7 cl_X10_18 in_X8 ii_X8 (by first | assumption | rfl) (ZI.i (by repeat (first | exact hzI.mono (by omega) | refine ZI.u ?_ (by omega) | refine ZI.s6 ?_ (by omega)))) (ZR.i (by repeat (first | exact hzR.mono (by omega) | refine ZR.u ?_ (by omega)))) ?_
  refine E_dup dX10_init_24 rfl ?_
  refine E_callIN (As := []) (kc' := 0) (ks' := 0) (kc := 1) (ks := 6) dX10_init_25 ok_X8_init rfl w_X10_20 i_X8_init rfl rfl rfl rfl (Nat.le_of_ble_eq_true rfl) (Nat.le_of_ble_eq_true rfl) (Nat.le_refl _) (c_init_X8 (by first | assumption | rfl) (by first | assumption | omega)  ?_)
  refine E_putF dX10_init_28 f_X10_21 rfl (by first | assumption | rfl) (by omega) rfl (Or.inl ⟨_, rfl⟩) ?_
  refine E_aload_n dX10_init_31 rfl ?_
  refine E_new (kc := 0) (ks := 0) (N := 6) dX10_init_32 ck7 cl_X10_18 in_X8 ii_X8 (by first | assumption | rfl) (ZI.i (by repeat (first | exact hzI.mono (by omega) | refine ZI.u ?_ (by omega) | refine ZI.s6 ?_ (by omega)))) (ZR.i (by repeat (first | exact hzR.mono (by omega) | refine ZR.u ?_ (by omega)))) ?_
  refine E_dup dX10_init_35 rfl ?_
  refine E_callIN (As := []) (kc' := 0) (ks' := 0) (kc := 0) (ks := 0) dX10_init_36 ok_X8_init rfl w_X10_20 i_X8_init rfl rfl rfl rfl (Nat.le_of_ble_eq_true rfl) (Nat.le_of_ble_eq_true rfl) (Nat.le_refl _) (c_init_X8 (by first | assumption | rfl) (by first | assumption | omega)  ?_)
  refine E_putF dX10_init_39 f_X10_25 rfl (by first | assumption | rfl) (by omega) rfl (Or.inl ⟨_, rfl⟩) ?_
  refine E_aload_n dX10_init_42 rfl ?_
  refine E_ic (0) dX10_init_43 (by decide) ?_
  refine E_putI dX10_init_44 f_X10_28 (by first | assumption | rfl) (by omega) rfl ?_
  refine E_aload_n dX10_init_47 rfl ?_
  refine E_ic (0) dX10_init_48 (by decide) ?_
  refine E_putZ dX10_init_49 f_X10_32 (by first | assumption | rfl) (by omega) rfl (by decide) ?_
  exact E_ret dX10_init_52 rfl hQ
set_option maxRecDepth 100000 in
set_option maxHeartbeats 4000000 in
theorem c_init_X5_8 (hsa : (LY a).1 = 8) (ha : a < n) (l0 : LY (n) = (20, 256)) (hzI : ZI (n) I) (hzR : ZR (n) R) (hQ : Q none (n + 1) (up2 (I) (a) 1 (0)) J (up2 (R) (a) 0 (some (n)))) : E g mX5_init (d + 1) 1 256 0 (ent 1 [.ref a]) [] (n) I J R Q := by
  refine E_aload_n dX5_init_0 rfl ?_
  refine E_obj dX5_init_1 w_X5_3 oi_i oi_c (by omega) ?_
  refine E_aload_n dX5_init_4 rfl ?_
  refine E_sp (256) dX5_init_5 (by decide) ?_
  refine E_newi (kc := 0) (ks := 0) (L := 256) dX5_init_8 ac_int (by first | assumption | rfl) (by decide) rfl (by decide) (ZI.i (by repeat (first | exact hzI.mono (by omega) | refine ZI.u ?_ (by omega) | refine ZI.s6 ?_ (by omega)))) ?_
  refine E_putF dX5_init_10 f_X5_9_8 rfl (by first | assumption | rfl) (by omega) rfl (Or.inr ⟨_, rfl⟩) ?_
  refine E_aload_n dX5_init_13 rfl ?_
  refine E_ic (0) dX5_init_14 (by decide) ?_
  refine E_putI dX5_init_15 f_X5_15_8 (by first | assumption | rfl) (by omega) rfl ?_
  exact E_ret dX5_init_18 rfl hQ
set_option maxRecDepth 100000 in
set_option maxHeartbeats 4000000 in
theorem c_init_X5_1 (hsa : (LY a).1 = 1) (ha : a < n) (l0 : LY (n) = (20, 256)) (hzI : ZI (n) I) (hzR : ZR (n) R) (hQ : Q none (n + 1) (up2 (I) (a) 1 (0)) J (up2 (R) (a) 0 (some (n)))) : E g mX5_init (d + 1) 1 256 0 (ent 1 [.ref a]) [] (n) I J R Q := by
  refine E_aload_n dX5_init_0 rfl ?_
  refine E_obj dX5_init_1 w_X5_3 oi_i oi_c (by omega) ?_
  refine E_aload_n dX5_init_4 rfl ?_
  refine E_sp (256) dX5_init_5 (by decide) ?_
  refine E_newi (kc := 0) (ks := 0) (L := 256) dX5_init_8 ac_int (by first | assumption | rfl) (by decide) rfl (by decide) (ZI.i (by repeat (first | exact hzI.mono (by omega) | refine ZI.u ?_ (by omega) | refine ZI.s6 ?_ (by omega)))) ?_
  refine E_putF dX5_init_10 f_X5_9_1 rfl (by first | assumption | rfl) (by omega) rfl (Or.inr ⟨_, rfl⟩) ?_
  refine E_aload_n dX5_init_13 rfl ?_
  refine E_ic (0) dX5_init_14 (by decide) ?_
  refine E_putI dX5_init_15 f_X5_15_1 (by first | assumption | rfl) (by omega) rfl ?_
  exact E_ret dX5_init_18 rfl hQ
set_option maxRecDepth 100000 in
set_option maxHeartbeats 4000000 in
theorem c_init_X4 (hsa : (LY 11).1 = 4) (ha : 11 < 12) (hzI : ZI (12) I) (hzR : ZR (12) R) (hQ : Q none (20) (up2 (up2 (up2 (up2 (up2 ((I)) (12) 7 (0)) (11) 2 (0)) (11) 3 (0)) (11) 4 (0)) (11) 5 (0)) J (up2 (up2 (up2 (up2 (up2 (up2 (up2 (up2 (up2 ((R)) (12) 0 (some (13))) (12) 1 (some (14))) (12) 2 (some (15))) (12) 3 (some (16))) (12) 4 (some (17))) (12) 5 (some (18))) (12) 6 (some (19))) (11) 0 (some (12))) (11) 1 (some (13)))) : E g mX4_init (d + 4) 8 353 0 (ent 1 [.ref 11]) [] (12) I J R Q := by
  refine E_aload_n dX4_init_0 rfl ?_
  refine E_obj dX4_init_1 w_X4_3 oi_i oi_c (by omega) ?_
  refine E_aload_n dX4_init_4 rfl ?_
  refine E_new (kc := 7) (ks := 345) (N := 8) dX4_init_5 ck3 cl_X4_9 in_X3 ii_X3 (by first | assumption | rfl) (ZI.i (by repeat (first | exact hzI.mono (by omega) | refine ZI.u ?_ (by omega) | refine ZI.s6 ?_ (by omega)))) (ZR.i (by repeat (first | exact hzR.mono (by omega) | refine ZR.u ?_ (by omega)))) ?_
  refine E_dup dX4_init_8 rfl ?_
  refine E_callIN (As := []) (kc' := 7) (ks' := 345) (kc := 0) (ks := 0) dX4_init_9 ok_X3_init rfl w_X4_11 i_X3_init rfl rfl rfl rfl (Nat.le_of_ble_eq_true rfl) (Nat.le_of_ble_eq_true rfl) (Nat.le_refl _) (c_init_X3 (by first | assumption | rfl) (by first | assumption | omega) (by first | assumption | rfl) (by first | assumption | rfl) (by first | assumption | rfl) (by first | assumption | rfl) (by first | assumption | rfl) (by first | assumption | rfl) (by first | assumption | rfl) (by repeat (first | exact hzI.mono (by omega) | refine ZI.u ?_ (by omega) | refine ZI.s6 ?_ (by omega))) (by repeat (first | exact hzR.mono (by omega) | refine ZR.u ?_ (by omega))) ?_)
  refine E_putF dX4_init_12 f_X4_12 rfl (by first | assumption | rfl) (by omega) rfl (Or.inl ⟨_, rfl⟩) ?_
  refine E_aload_n dX4_init_15 rfl ?_
  refine E_aload_n dX4_init_16 rfl ?_
  refine E_getR (b := 12) dX4_init_17 f_X4_12 (by first | assumption | rfl) (by omega) rfl (by first | rfl | simp [up2]) ?_
  refine E_getR (b := 13) dX4_init_20 f_X4_18 (by first | assumption | rfl) (by omega) rfl (by first | rfl | simp [up2]) ?_
  refine E_putR dX4_init_23 f_X4_22 (by first | assumption | rfl) (by omega) rfl (Or.inr ⟨_, rfl⟩) ?_
  refine E_aload_n dX4_init_26 rfl ?_
  refine E_ic (0) dX4_init_27 (by decide) ?_
  refine E_putI dX4_init_28 f_X4_25 (by first | assumption | rfl) (by omega) rfl ?_
  refine E_aload_n dX4_init_31 rfl ?_
  refine E_ic (0) dX4_init_32 (by decide) ?_
  refine E_putI dX4_init_33 f_X4_29 (by first | assumption | rfl) (by omega) rfl ?_
  refine E_aload_n dX4_init_36 rfl ?_
  refine E_ic (0) dX4_init_37 (by decide) ?_
  refine E_putI dX4_init_38 f_X4_32 (by first | assumption | rfl) (by omega) rfl ?_
  refine E_aload_n dX4_init_41 rfl ?_
  refine E_ic (0) dX4_init_42 (by decide) ?_
  refine E_putI dX4_init_43 f_X4_35 (by first | assumption | rfl) (by omega) rfl ?_
  exact E_ret dX4_init_46 rfl hQ
set_option maxRecDepth 100000 in
set_option maxHeartbeats 4000000 in
theorem c_init_X7 (hsa : (LY 20).1 = 6) (ha : 20 < 21) (hzI : ZI (21) I) (hzR : ZR (21) R) (hQ : Q none (22) (up2 (up2 (up2 (up2 (up2 (up2 (I) (20) 2 (0)) (20) 3 (0)) (20) 4 (0)) (20) 5 (0)) (20) 6 (0)) (20) 7 (0)) J (up2 (up2 (R) (20) 0 (some (21))) (20) 1 (some (21)))) : E g mX7_init (d + 1) 1 96 0 (ent 1 [.ref 20]) [] (21) I J R Q := by
  refine E_aload_n dX7_init_0 rfl ?_
  refine E_obj dX7_init_1 w_X7_3 oi_i oi_c (by omega) ?_
  refine E_aload_n dX7_init_4 rfl ?_
  refine E_bp (96) dX7_init_5 (by decide) ?_
  refine E_newi (kc := 0) (ks := 0) (L := 96) dX7_init_7 ac_int (by first | assumption | rfl) (by decide) rfl (by decide) (ZI.i (by repeat (first | exact hzI.mono (by omega) | refine ZI.u ?_ (by omega) | refine ZI.s6 ?_ (by omega)))) ?_
  refine E_putF dX7_init_9 f_X7_9 rfl (by first | assumption | rfl) (by omega) rfl (Or.inr ⟨_, rfl⟩) ?_
  refine E_aload_n dX7_init_12 rfl ?_
  refine E_aload_n dX7_init_13 rfl ?_
  refine E_getR (b := 21) dX7_init_14 f_X7_9 (by first | assumption | rfl) (by omega) rfl (by first | rfl | simp [up2]) ?_
  refine E_putR dX7_init_17 f_X7_15 (by first | assumption | rfl) (by omega) rfl (Or.inr ⟨_, rfl⟩) ?_
  refine E_aload_n dX7_init_20 rfl ?_
  refine E_ic (0) dX7_init_21 (by decide) ?_
  refine E_putI dX7_init_22 f_X7_18 (by first | assumption | rfl) (by omega) rfl ?_
  refine E_aload_n dX7_init_25 rfl ?_
  refine E_ic (0) dX7_init_26 (by decide) ?_
  refine E_putI dX7_init_27 f_X7_22 (by first | assumption | rfl) (by omega) rfl ?_
  refine E_aload_n dX7_init_30 rfl ?_
  refine E_ic (0) dX7_init_31 (by decide) ?_
  refine E_putI dX7_init_32 f_X7_25 (by first | assumption | rfl) (by omega) rfl ?_
  refine E_aload_n dX7_init_35 rfl ?_
  refine E_ic (0) dX7_init_36 (by decide) ?_
  refine E_putI dX7_init_37 f_X7_28 (by first | assumption | rfl) (by omega) rfl ?_
  refine E_aload_n dX7_init_40 rfl ?_
  refine E_ic (0) dX7_init_41 (by decide) ?_
  refine E_putI dX7_init_42 f_X7_31 (by first | assumption | rfl) (by omega) rfl ?_
  refine E_aload_n dX7_init_45 rfl ?_
  refine E_ic (0) dX7_init_46 (by decide) ?_
  refine E_putZ dX7_init_47 f_X7_34 (by first | assumption | rfl) (by omega) rfl (by decide) ?_
  exact E_ret dX7_init_50 rfl hQ
set_option maxRecDepth 100000 in
set_option maxHeartbeats 4000000 in
theorem c_init_X0 (hsa : (LY 22).1 = 0) (ha : 22 < 23) (hzI : ZI (23) I) (hzR : ZR (23) R) (hQ : Q none (37) (up2 (up2 (up2 (up2 (up2 (up2 ((up2 (up2 (up2 (up2 (up2 (up2 (up2 (up2 ((up2 (up2 (up2 (up2 (up2 (up2 (((up2 (up2 (up2 (up2 (up2 (up2 ((I)) (23) 0 (0)) (23) 1 (9)) (23) 2 (0)) (23) 3 (0)) (23) 4 (0)) (23) 5 (0)))) (27) 0 (0)) (27) 1 (9)) (27) 2 (0)) (27) 3 (0)) (27) 4 (0)) (27) 5 (0))) (28) 0 (0)) (28) 1 (9)) (28) 2 (0)) (28) 3 (0)) (28) 4 (0)) (28) 5 (0)) (24) 4 (0)) (24) 5 (0))) (29) 7 (0)) (22) 3 (0)) (22) 4 (0)) (22) 5 (0)) (22) 6 (0)) (22) 7 (-2)) J (up2 (up2 (up2 (up2 (up2 (up2 (up2 (up2 ((up2 (up2 ((up2 ((up2 (up2 ((up2 ((R)) (22) 0 (some (23)))) (24) 0 (some (25))) (24) 1 (some (26)))) (24) 2 (some (27)))) (24) 3 (some (28))) (22) 1 (some (24)))) (29) 0 (some (30))) (29) 1 (some (31))) (29) 2 (some (32))) (29) 3 (some (33))) (29) 4 (some (34))) (29) 5 (some (35))) (29) 6 (some (36))) (22) 2 (some (29)))) : E g mX0_init (d + 4) 14 425 0 (ent 1 [.ref 22]) [] (23) I J R Q := by
  refine E_aload_n dX0_init_0 rfl ?_
  refine E_obj dX0_init_1 w_X0_3 oi_i oi_c (by omega) ?_
  refine E_aload_n dX0_init_4 rfl ?_
  refine E_new (kc := 13) (ks := 419) (N := 6) dX0_init_5 ck7 cl_X0_9 in_X8 ii_X8 (by first | assumption | rfl) (ZI.i (by repeat (first | exact hzI.mono (by omega) | refine ZI.u ?_ (by omega) | refine ZI.s6 ?_ (by omega)))) (ZR.i (by repeat (first | exact hzR.mono (by omega) | refine ZR.u ?_ (by omega)))) ?_
  refine E_dup dX0_init_8 rfl ?_
  refine E_callIN (As := []) (kc' := 0) (ks' := 0) (kc := 13) (ks := 419) dX0_init_9 ok_X8_init rfl w_X0_11 i_X8_init rfl rfl rfl rfl (Nat.le_of_ble_eq_true rfl) (Nat.le_of_ble_eq_true rfl) (Nat.le_refl _) (c_init_X8 (by first | assumption | rfl) (by first | assumption | omega)  ?_)
  refine E_putF dX0_init_12 f_X0_12 rfl (by first | assumption | rfl) (by omega) rfl (Or.inl ⟨_, rfl⟩) ?_
  refine E_aload_n dX0_init_15 rfl ?_
  refine E_new (kc := 12) (ks := 413) (N := 6) dX0_init_16 ck9 cl_X0_18 in_X10 ii_X10 (by first | assumption | rfl) (ZI.i (by repeat (first | exact hzI.mono (by omega) | refine ZI.u ?_ (by omega) | refine ZI.s6 ?_ (by omega)))) (ZR.i (by repeat (first | exact hzR.mono (by omega) | refine ZR.u ?_ (by omega)))) ?_
  refine E_dup dX0_init_19 rfl ?_
  refine E_callIN (As := []) (kc' := 4) (ks' := 60) (kc := 8) (ks := 353) dX0_init_20 ok_X10_init rfl w_X0_20 i_X10_init rfl rfl rfl rfl (Nat.le_of_ble_eq_true rfl) (Nat.le_of_ble_eq_true rfl) (Nat.le_refl _) (c_init_X10 (by first | assumption | rfl) (by first | assumption | omega) (by first | assumption | rfl) (by first | assumption | rfl) (by first | assumption | rfl) (by first | assumption | rfl) (by repeat (first | exact hzI.mono (by omega) | refine ZI.u ?_ (by omega) | refine ZI.s6 ?_ (by omega))) (by repeat (first | exact hzR.mono (by omega) | refine ZR.u ?_ (by omega))) ?_)
  refine E_putR dX0_init_23 f_X0_21 (by first | assumption | rfl) (by omega) rfl (Or.inl ⟨_, rfl⟩) ?_
  refine E_aload_n dX0_init_26 rfl ?_
  refine E_new (kc := 7) (ks := 345) (N := 8) dX0_init_27 ck3 cl_X0_25 in_X3 ii_X3 (by first | assumption | rfl) (ZI.i (by repeat (first | exact hzI.mono (by omega) | refine ZI.u ?_ (by omega) | refine ZI.s6 ?_ (by omega)))) (ZR.i (by repeat (first | exact hzR.mono (by omega) | refine ZR.u ?_ (by omega)))) ?_
  refine E_dup dX0_init_30 rfl ?_
  refine E_callIN (As := []) (kc' := 7) (ks' := 345) (kc := 0) (ks := 0) dX0_init_31 ok_X3_init rfl w_X0_27 i_X3_init rfl rfl rfl rfl (Nat.le_of_ble_eq_true rfl) (Nat.le_of_ble_eq_true rfl) (Nat.le_refl _) (c_init_X3 (by first | assumption | rfl) (by first | assumption | omega) (by first | assumption | rfl) (by first | assumption | rfl) (by first | assumption | rfl) (by first | assumption | rfl) (by first | assumption | rfl) (by first | assumption | rfl) (by first | assumption | rfl) (by repeat (first | exact hzI.mono (by omega) | refine ZI.u ?_ (by omega) | refine ZI.s6 ?_ (by omega))) (by repeat (first | exact hzR.mono (by omega) | refine ZR.u ?_ (by omega))) ?_)
  refine E_putR dX0_init_34 f_X0_28 (by first | assumption | rfl) (by omega) rfl (Or.inl ⟨_, rfl⟩) ?_
  refine E_aload_n dX0_init_37 rfl ?_
  refine E_ic (0) dX0_init_38 (by decide) ?_
  refine E_putI dX0_init_39 f_X0_32 (by first | assumption | rfl) (by omega) rfl ?_
  refine E_aload_n dX0_init_42 rfl ?_
  refine E_ic (0) dX0_init_43 (by decide) ?_
  refine E_putI dX0_init_44 f_X0_36 (by first | assumption | rfl) (by omega) rfl ?_
  refine E_aload_n dX0_init_47 rfl ?_
  refine E_ic (0) dX0_init_48 (by decide) ?_
  refine E_putI dX0_init_49 f_X0_39 (by first | assumption | rfl) (by omega) rfl ?_
  refine E_aload_n dX0_init_52 rfl ?_
  refine E_ic (0) dX0_init_53 (by decide) ?_
  refine E_putI dX0_init_54 f_X0_42 (by first | assumption | rfl) (by omega) rfl ?_
  refine E_aload_n dX0_init_57 rfl ?_
  refine E_bp (-2) dX0_init_58 (by decide) ?_
  refine E_putI dX0_init_60 f_X0_45 (by first | assumption | rfl) (by omega) rfl ?_
  exact E_ret dX0_init_63 rfl hQ
set_option maxRecDepth 100000 in
set_option maxHeartbeats 4000000 in
theorem c_init_X6 (hsa : (LY 37).1 = 5) (ha : 37 < 38) (hzI : ZI (38) I) (hzR : ZR (38) R) (hQ : Q none (40) (up2 (up2 (up2 (I) (37) 2 (0)) (37) 3 (0)) (37) 4 (0)) J (up2 (up2 (R) (37) 0 (some (38))) (37) 1 (some (39)))) : E g mX6_init (d + 1) 2 1547 0 (ent 1 [.ref 37]) [] (38) I J R Q := by
  refine E_aload_n dX6_init_0 rfl ?_
  refine E_obj dX6_init_1 w_X6_5 oi_i oi_c (by omega) ?_
  refine E_aload_n dX6_init_4 rfl ?_
  refine E_sp (1547) dX6_init_5 (by decide) ?_
  refine E_newi (kc := 1) (ks := 0) (L := 1547) dX6_init_8 ac_int (by first | assumption | rfl) (by decide) rfl (by decide) (ZI.i (by repeat (first | exact hzI.mono (by omega) | refine ZI.u ?_ (by omega) | refine ZI.s6 ?_ (by omega)))) ?_
  refine E_putF dX6_init_10 f_X6_11 rfl (by first | assumption | rfl) (by omega) rfl (Or.inr ⟨_, rfl⟩) ?_
  refine E_aload_n dX6_init_13 rfl ?_
  refine E_ic (0) dX6_init_14 (by decide) ?_
  refine E_newi (kc := 0) (ks := 0) (L := 0) dX6_init_15 ac_int (by first | assumption | rfl) (by decide) rfl (by decide) (ZI.i (by repeat (first | exact hzI.mono (by omega) | refine ZI.u ?_ (by omega) | refine ZI.s6 ?_ (by omega)))) ?_
  refine E_putR dX6_init_17 f_X6_15 (by first | assumption | rfl) (by omega) rfl (Or.inr ⟨_, rfl⟩) ?_
  refine E_aload_n dX6_init_20 rfl ?_
  refine E_ic (0) dX6_init_21 (by decide) ?_
  refine E_putI dX6_init_22 f_X6_18 (by first | assumption | rfl) (by omega) rfl ?_
  refine E_aload_n dX6_init_25 rfl ?_
  refine E_ic (0) dX6_init_26 (by decide) ?_
  refine E_putI dX6_init_27 f_X6_22 (by first | assumption | rfl) (by omega) rfl ?_
  refine E_aload_n dX6_init_30 rfl ?_
  refine E_ic (0) dX6_init_31 (by decide) ?_
  refine E_putI dX6_init_32 f_X6_25 (by first | assumption | rfl) (by omega) rfl ?_
  exact E_ret dX6_init_35 rfl hQ
set_option maxRecDepth 100000 in
set_option maxHeartbeats 4000000 in
theorem c_init_X9 (hsa : (LY 40).1 = 8) (ha : 40 < 41) (hzI : ZI (41) I) (hzR : ZR (41) R) (hQ : Q none (43) (up2 (up2 ((I)) (40) 1 (0)) (40) 3 (0)) J (up2 (up2 ((R)) (40) 0 (some (41))) (40) 2 (some (42)))) : E g mX9_init (d + 2) 2 292 0 (ent 1 [.ref 40]) [] (41) I J R Q := by
  refine E_aload_n dX9_init_0 rfl ?_
  refine E_callIN (As := []) (kc' := 1) (ks' := 256) (kc := 1) (ks := 36) dX9_init_1 ok_X5_init rfl w_X9_3 i_X5_init rfl rfl rfl rfl (Nat.le_of_ble_eq_true rfl) (Nat.le_of_ble_eq_true rfl) (Nat.le_refl _) (c_init_X5_8 (by first | assumption | rfl) (by first | assumption | omega) (by first | assumption | rfl) (by repeat (first | exact hzI.mono (by omega) | refine ZI.u ?_ (by omega) | refine ZI.s6 ?_ (by omega))) (by repeat (first | exact hzR.mono (by omega) | refine ZR.u ?_ (by omega))) ?_)
  refine E_aload_n dX9_init_4 rfl ?_
  refine E_bp (36) dX9_init_5 (by decide) ?_
  refine E_newi (kc := 0) (ks := 0) (L := 36) dX9_init_7 ac_int (by first | assumption | rfl) (by decide) rfl (by decide) (ZI.i (by repeat (first | exact hzI.mono (by omega) | refine ZI.u ?_ (by omega) | refine ZI.s6 ?_ (by omega)))) ?_
  refine E_putF dX9_init_9 f_X9_9 rfl (by first | assumption | rfl) (by omega) rfl (Or.inr ⟨_, rfl⟩) ?_
  refine E_aload_n dX9_init_12 rfl ?_
  refine E_ic (0) dX9_init_13 (by decide) ?_
  refine E_putI dX9_init_14 f_X9_15 (by first | assumption | rfl) (by omega) rfl ?_
  exact E_ret dX9_init_17 rfl hQ
set_option maxRecDepth 100000 in
set_option maxHeartbeats 4000000 in
theorem c_init_X1 (hsa : (LY 43).1 = 1) (ha : 43 < 44) (hzI : ZI (44) I) (hzR : ZR (44) R) (hQ : Q none (47) (up2 (up2 ((I)) (43) 1 (0)) (43) 4 (0)) J (up2 (up2 (up2 ((R)) (43) 0 (some (44))) (43) 2 (some (45))) (43) 3 (some (46)))) : E g mX1_init (d + 2) 3 272 0 (ent 1 [.ref 43]) [] (44) I J R Q := by
  refine E_aload_n dX1_init_0 rfl ?_
  refine E_callIN (As := []) (kc' := 1) (ks' := 256) (kc := 2) (ks := 16) dX1_init_1 ok_X5_init rfl w_X1_3 i_X5_init rfl rfl rfl rfl (Nat.le_of_ble_eq_true rfl) (Nat.le_of_ble_eq_true rfl) (Nat.le_refl _) (c_init_X5_1 (by first | assumption | rfl) (by first | assumption | omega) (by first | assumption | rfl) (by repeat (first | exact hzI.mono (by omega) | refine ZI.u ?_ (by omega) | refine ZI.s6 ?_ (by omega))) (by repeat (first | exact hzR.mono (by omega) | refine ZR.u ?_ (by omega))) ?_)
  refine E_aload_n dX1_init_4 rfl ?_
  refine E_bp (8) dX1_init_5 (by decide) ?_
  refine E_newi (kc := 1) (ks := 8) (L := 8) dX1_init_7 ac_int (by first | assumption | rfl) (by decide) rfl (by decide) (ZI.i (by repeat (first | exact hzI.mono (by omega) | refine ZI.u ?_ (by omega) | refine ZI.s6 ?_ (by omega)))) ?_
  refine E_putF dX1_init_9 f_X1_9 rfl (by first | assumption | rfl) (by omega) rfl (Or.inr ⟨_, rfl⟩) ?_
  refine E_aload_n dX1_init_12 rfl ?_
  refine E_bp (8) dX1_init_13 (by decide) ?_
  refine E_newi (kc := 0) (ks := 0) (L := 8) dX1_init_15 ac_int (by first | assumption | rfl) (by decide) rfl (by decide) (ZI.i (by repeat (first | exact hzI.mono (by omega) | refine ZI.u ?_ (by omega) | refine ZI.s6 ?_ (by omega)))) ?_
  refine E_putF dX1_init_17 f_X1_15 rfl (by first | assumption | rfl) (by omega) rfl (Or.inr ⟨_, rfl⟩) ?_
  refine E_aload_n dX1_init_20 rfl ?_
  refine E_ic (0) dX1_init_21 (by decide) ?_
  refine E_putI dX1_init_22 f_X1_18 (by first | assumption | rfl) (by omega) rfl ?_
  exact E_ret dX1_init_25 rfl hQ
set_option maxRecDepth 100000 in
set_option maxHeartbeats 4000000 in
theorem c_init_X2 (hsa : (LY 47).1 = 2) (ha : 47 < 48) (hzI : ZI (48) I) (hzR : ZR (48) R) (hQ : Q none (52) (up2 (up2 (I) (47) 4 (0)) (47) 5 (0)) J (up2 (up2 (up2 (up2 (R) (47) 0 (some (48))) (47) 1 (some (49))) (47) 2 (some (50))) (47) 3 (some (51)))) : E g mX2_init (d + 1) 4 888 0 (ent 1 [.ref 47]) [] (48) I J R Q := by
  refine E_aload_n dX2_init_0 rfl ?_
  refine E_obj dX2_init_1 w_X2_3 oi_i oi_c (by omega) ?_
  refine E_aload_n dX2_init_4 rfl ?_
  refine E_ic (3) dX2_init_5 (by decide) ?_
  refine E_newi (kc := 3) (ks := 885) (L := 3) dX2_init_6 ac_int (by first | assumption | rfl) (by decide) rfl (by decide) (ZI.i (by repeat (first | exact hzI.mono (by omega) | refine ZI.u ?_ (by omega) | refine ZI.s6 ?_ (by omega)))) ?_
  refine E_putF dX2_init_8 f_X2_9 rfl (by first | assumption | rfl) (by omega) rfl (Or.inr ⟨_, rfl⟩) ?_
  refine E_aload_n dX2_init_11 rfl ?_
  refine E_ic (3) dX2_init_12 (by decide) ?_
  refine E_newi (kc := 2) (ks := 882) (L := 3) dX2_init_13 ac_int (by first | assumption | rfl) (by decide) rfl (by decide) (ZI.i (by repeat (first | exact hzI.mono (by omega) | refine ZI.u ?_ (by omega) | refine ZI.s6 ?_ (by omega)))) ?_
  refine E_putF dX2_init_15 f_X2_15 rfl (by first | assumption | rfl) (by omega) rfl (Or.inr ⟨_, rfl⟩) ?_
  refine E_aload_n dX2_init_18 rfl ?_
  refine E_sp (441) dX2_init_19 (by decide) ?_
  refine E_newi (kc := 1) (ks := 441) (L := 441) dX2_init_22 ac_int (by first | assumption | rfl) (by decide) rfl (by decide) (ZI.i (by repeat (first | exact hzI.mono (by omega) | refine ZI.u ?_ (by omega) | refine ZI.s6 ?_ (by omega)))) ?_
  refine E_putF dX2_init_24 f_X2_18 rfl (by first | assumption | rfl) (by omega) rfl (Or.inr ⟨_, rfl⟩) ?_
  refine E_aload_n dX2_init_27 rfl ?_
  refine E_sp (441) dX2_init_28 (by decide) ?_
  refine E_newi (kc := 0) (ks := 0) (L := 441) dX2_init_31 ac_int (by first | assumption | rfl) (by decide) rfl (by decide) (ZI.i (by repeat (first | exact hzI.mono (by omega) | refine ZI.u ?_ (by omega) | refine ZI.s6 ?_ (by omega)))) ?_
  refine E_putF dX2_init_33 f_X2_21 rfl (by first | assumption | rfl) (by omega) rfl (Or.inr ⟨_, rfl⟩) ?_
  refine E_aload_n dX2_init_36 rfl ?_
  refine E_ic (0) dX2_init_37 (by decide) ?_
  refine E_putI dX2_init_38 f_X2_24 (by first | assumption | rfl) (by omega) rfl ?_
  refine E_aload_n dX2_init_41 rfl ?_
  refine E_ic (0) dX2_init_42 (by decide) ?_
  refine E_putI dX2_init_43 f_X2_28 (by first | assumption | rfl) (by omega) rfl ?_
  exact E_ret dX2_init_46 rfl hQ
set_option maxRecDepth 100000 in
set_option maxHeartbeats 4000000 in
theorem c_init_X11 (hsa : (LY 0).1 = 10) (ha : 0 < 1) (hzI : ZI (1) I) (hzR : ZR (1) R) (hzJ : ZJ (1) J) (hQ : Q none (114) (up2 (up2 (up2 (up2 (up2 (up2 (up2 (up2 ((up2 (up2 (up2 (up2 (up2 (up2 (((up2 (up2 (up2 (up2 (up2 (up2 (up2 (up2 ((up2 (up2 (up2 (up2 (up2 (up2 (((up2 (up2 (up2 (up2 (up2 (up2 (up2 (up2 ((up2 (up2 (up2 (up2 (up2 (up2 (((up2 (up2 (up2 (up2 (up2 (up2 (up2 (up2 ((up2 (up2 (up2 (up2 (up2 (up2 (((up2 (up2 (up2 (up2 (up2 (up2 (up2 (up2 ((up2 (up2 (up2 (up2 (up2 (up2 (((up2 (up2 (up2 (up2 (up2 (up2 (up2 (up2 ((up2 (up2 (up2 (up2 (up2 (up2 (((up2 (up2 (up2 (up2 (up2 (up2 (up2 (up2 ((up2 (up2 (up2 (up2 (up2 (up2 (((up2 (up2 (up2 (up2 (up2 (up2 (up2 (up2 ((up2 (up2 (up2 (up2 (up2 (up2 (((up2 (up2 (up2 (up2 (up2 (up2 (up2 (up2 ((up2 (up2 (up2 (up2 (up2 (up2 (((up2 (up2 (up2 (up2 (up2 (up2 (up2 (up2 ((up2 (up2 (up2 (up2 (up2 (up2 (((up2 (up2 (up2 (up2 (up2 (up2 (up2 (up2 ((up2 (up2 (up2 (up2 (up2 (up2 (((up2 (up2 (up2 (up2 (up2 (up2 (up2 (up2 ((up2 (up2 (up2 (up2 (up2 (up2 (((up2 (up2 (up2 (up2 (up2 (up2 (up2 (up2 (up2 ((up2 (up2 (((up2 (up2 (((up2 (up2 (up2 ((up2 (up2 (up2 (up2 (up2 (up2 ((up2 (up2 (up2 (up2 (up2 (up2 (up2 (up2 ((up2 (up2 (up2 (up2 (up2 (up2 (((up2 (up2 (up2 (up2 (up2 (up2 (((up2 (up2 (up2 (up2 (up2 (up2 ((up2 (up2 (up2 (up2 (up2 (((up2 ((up2 (I) (0) 2 (0))) (3) 7 (0)))) (12) 7 (0)) (11) 2 (0)) (11) 3 (0)) (11) 4 (0)) (11) 5 (0))) (20) 2 (0)) (20) 3 (0)) (20) 4 (0)) (20) 5 (0)) (20) 6 (0)) (20) 7 (0)))) (23) 0 (0)) (23) 1 (9)) (23) 2 (0)) (23) 3 (0)) (23) 4 (0)) (23) 5 (0)))) (27) 0 (0)) (27) 1 (9)) (27) 2 (0)) (27) 3 (0)) (27) 4 (0)) (27) 5 (0))) (28) 0 (0)) (28) 1 (9)) (28) 2 (0)) (28) 3 (0)) (28) 4 (0)) (28) 5 (0)) (24) 4 (0)) (24) 5 (0))) (29) 7 (0)) (22) 3 (0)) (22) 4 (0)) (22) 5 (0)) (22) 6 (0)) (22) 7 (-2))) (37) 2 (0)) (37) 3 (0)) (37) 4 (0)))) (40) 1 (0)) (40) 3 (0)))) (43) 1 (0)) (43) 4 (0))) (47) 4 (0)) (47) 5 (0)) (0) 13 (99)) (0) 14 (0)) (0) 15 (1)) (0) 16 (0)) (0) 17 (0)) (0) 18 (0)) (0) 19 (0)))) (57) 0 (0)) (57) 1 (9)) (57) 2 (0)) (57) 3 (0)) (57) 4 (0)) (57) 5 (0))) (58) 0 (0)) (58) 1 (9)) (58) 2 (0)) (58) 3 (0)) (58) 4 (0)) (58) 5 (0)) (54) 4 (0)) (54) 5 (0)))) (62) 0 (0)) (62) 1 (9)) (62) 2 (0)) (62) 3 (0)) (62) 4 (0)) (62) 5 (0))) (63) 0 (0)) (63) 1 (9)) (63) 2 (0)) (63) 3 (0)) (63) 4 (0)) (63) 5 (0)) (59) 4 (0)) (59) 5 (0)))) (67) 0 (0)) (67) 1 (9)) (67) 2 (0)) (67) 3 (0)) (67) 4 (0)) (67) 5 (0))) (68) 0 (0)) (68) 1 (9)) (68) 2 (0)) (68) 3 (0)) (68) 4 (0)) (68) 5 (0)) (64) 4 (0)) (64) 5 (0)))) (72) 0 (0)) (72) 1 (9)) (72) 2 (0)) (72) 3 (0)) (72) 4 (0)) (72) 5 (0))) (73) 0 (0)) (73) 1 (9)) (73) 2 (0)) (73) 3 (0)) (73) 4 (0)) (73) 5 (0)) (69) 4 (0)) (69) 5 (0)))) (77) 0 (0)) (77) 1 (9)) (77) 2 (0)) (77) 3 (0)) (77) 4 (0)) (77) 5 (0))) (78) 0 (0)) (78) 1 (9)) (78) 2 (0)) (78) 3 (0)) (78) 4 (0)) (78) 5 (0)) (74) 4 (0)) (74) 5 (0)))) (82) 0 (0)) (82) 1 (9)) (82) 2 (0)) (82) 3 (0)) (82) 4 (0)) (82) 5 (0))) (83) 0 (0)) (83) 1 (9)) (83) 2 (0)) (83) 3 (0)) (83) 4 (0)) (83) 5 (0)) (79) 4 (0)) (79) 5 (0)))) (87) 0 (0)) (87) 1 (9)) (87) 2 (0)) (87) 3 (0)) (87) 4 (0)) (87) 5 (0))) (88) 0 (0)) (88) 1 (9)) (88) 2 (0)) (88) 3 (0)) (88) 4 (0)) (88) 5 (0)) (84) 4 (0)) (84) 5 (0)))) (92) 0 (0)) (92) 1 (9)) (92) 2 (0)) (92) 3 (0)) (92) 4 (0)) (92) 5 (0))) (93) 0 (0)) (93) 1 (9)) (93) 2 (0)) (93) 3 (0)) (93) 4 (0)) (93) 5 (0)) (89) 4 (0)) (89) 5 (0)))) (97) 0 (0)) (97) 1 (9)) (97) 2 (0)) (97) 3 (0)) (97) 4 (0)) (97) 5 (0))) (98) 0 (0)) (98) 1 (9)) (98) 2 (0)) (98) 3 (0)) (98) 4 (0)) (98) 5 (0)) (94) 4 (0)) (94) 5 (0)))) (102) 0 (0)) (102) 1 (9)) (102) 2 (0)) (102) 3 (0)) (102) 4 (0)) (102) 5 (0))) (103) 0 (0)) (103) 1 (9)) (103) 2 (0)) (103) 3 (0)) (103) 4 (0)) (103) 5 (0)) (99) 4 (0)) (99) 5 (0)))) (107) 0 (0)) (107) 1 (9)) (107) 2 (0)) (107) 3 (0)) (107) 4 (0)) (107) 5 (0))) (108) 0 (0)) (108) 1 (9)) (108) 2 (0)) (108) 3 (0)) (108) 4 (0)) (108) 5 (0)) (104) 4 (0)) (104) 5 (0)))) (112) 0 (0)) (112) 1 (9)) (112) 2 (0)) (112) 3 (0)) (112) 4 (0)) (112) 5 (0))) (113) 0 (0)) (113) 1 (9)) (113) 2 (0)) (113) 3 (0)) (113) 4 (0)) (113) 5 (0)) (109) 4 (0)) (109) 5 (0)) J (up2 (up2 ((up2 ((up2 (up2 ((up2 (up2 ((up2 ((up2 (up2 ((up2 (up2 ((up2 ((up2 (up2 ((up2 (up2 ((up2 ((up2 (up2 ((up2 (up2 ((up2 ((up2 (up2 ((up2 (up2 ((up2 ((up2 (up2 ((up2 (up2 ((up2 ((up2 (up2 ((up2 (up2 ((up2 ((up2 (up2 ((up2 (up2 ((up2 ((up2 (up2 ((up2 (up2 ((up2 ((up2 (up2 ((up2 (up2 ((up2 ((up2 (up2 ((up2 (up2 ((up2 ((up2 (up2 ((up2 (up2 (up2 (up2 (up2 (up2 (up2 ((up2 (up2 (up2 (up2 (((up2 (up2 (up2 (((up2 (up2 (up2 ((up2 (up2 (up2 (up2 (up2 (up2 (up2 (up2 (up2 ((up2 (up2 ((up2 ((up2 (up2 ((up2 (((up2 (up2 (up2 ((up2 (up2 (up2 (up2 (up2 (up2 (up2 (up2 (up2 (up2 (((up2 (up2 (up2 (up2 (up2 (up2 (up2 (up2 ((up2 (up2 (R) (0) 0 (some (1))) (0) 1 (some (2)))) (3) 0 (some (4))) (3) 1 (some (5))) (3) 2 (some (6))) (3) 3 (some (7))) (3) 4 (some (8))) (3) 5 (some (9))) (3) 6 (some (10))) (0) 3 (some (3))))) (12) 0 (some (13))) (12) 1 (some (14))) (12) 2 (some (15))) (12) 3 (some (16))) (12) 4 (some (17))) (12) 5 (some (18))) (12) 6 (some (19))) (11) 0 (some (12))) (11) 1 (some (13))) (0) 4 (some (11)))) (20) 0 (some (21))) (20) 1 (some (21))) (0) 5 (some (20))))) (22) 0 (some (23)))) (24) 0 (some (25))) (24) 1 (some (26)))) (24) 2 (some (27)))) (24) 3 (some (28))) (22) 1 (some (24)))) (29) 0 (some (30))) (29) 1 (some (31))) (29) 2 (some (32))) (29) 3 (some (33))) (29) 4 (some (34))) (29) 5 (some (35))) (29) 6 (some (36))) (22) 2 (some (29))) (0) 6 (some (22)))) (37) 0 (some (38))) (37) 1 (some (39))) (0) 7 (some (37))))) (40) 0 (some (41))) (40) 2 (some (42))) (0) 8 (some (40))))) (43) 0 (some (44))) (43) 2 (some (45))) (43) 3 (some (46))) (0) 9 (some (43)))) (47) 0 (some (48))) (47) 1 (some (49))) (47) 2 (some (50))) (47) 3 (some (51))) (0) 10 (some (47))) (0) 11 (some (52))) (0) 12 (some (53)))) (54) 0 (some (55))) (54) 1 (some (56)))) (54) 2 (some (57)))) (54) 3 (some (58))) (1) 0 (some (54)))) (59) 0 (some (60))) (59) 1 (some (61)))) (59) 2 (some (62)))) (59) 3 (some (63))) (1) 1 (some (59)))) (64) 0 (some (65))) (64) 1 (some (66)))) (64) 2 (some (67)))) (64) 3 (some (68))) (1) 2 (some (64)))) (69) 0 (some (70))) (69) 1 (some (71)))) (69) 2 (some (72)))) (69) 3 (some (73))) (1) 3 (some (69)))) (74) 0 (some (75))) (74) 1 (some (76)))) (74) 2 (some (77)))) (74) 3 (some (78))) (1) 4 (some (74)))) (79) 0 (some (80))) (79) 1 (some (81)))) (79) 2 (some (82)))) (79) 3 (some (83))) (1) 5 (some (79)))) (84) 0 (some (85))) (84) 1 (some (86)))) (84) 2 (some (87)))) (84) 3 (some (88))) (1) 6 (some (84)))) (89) 0 (some (90))) (89) 1 (some (91)))) (89) 2 (some (92)))) (89) 3 (some (93))) (1) 7 (some (89)))) (94) 0 (some (95))) (94) 1 (some (96)))) (94) 2 (some (97)))) (94) 3 (some (98))) (1) 8 (some (94)))) (99) 0 (some (100))) (99) 1 (some (101)))) (99) 2 (some (102)))) (99) 3 (some (103))) (1) 9 (some (99)))) (104) 0 (some (105))) (104) 1 (some (106)))) (104) 2 (some (107)))) (104) 3 (some (108))) (1) 10 (some (104)))) (109) 0 (some (110))) (109) 1 (some (111)))) (109) 2 (some (112)))) (109) 3 (some (113))) (1) 11 (some (109)))) : E g mX11_init (d + 5) 113 5445 0 (ent 2 [.ref 0]) [] (1) I J R Q := by
  refine E_aload_n dX11_init_0 rfl ?_
  refine E_obj dX11_init_1 w_X11_1 oi_i oi_c (by omega) ?_
  refine E_aload_n dX11_init_4 rfl ?_
  refine E_bp (12) dX11_init_5 (by decide) ?_
  refine E_anew (kc := 112) (ks := 5433) (L := 12) dX11_init_7 cl_X11_9 (by first | assumption | rfl) (by decide) rfl (by decide) (ZR.i (by repeat (first | exact hzR.mono (by omega) | refine ZR.u ?_ (by omega)))) ?_
  refine E_putF dX11_init_10 f_X11_11 rfl (by first | assumption | rfl) (by omega) rfl (Or.inr ⟨_, rfl⟩) ?_
  refine E_aload_n dX11_init_13 rfl ?_
  refine E_sp (260) dX11_init_14 (by decide) ?_
  refine E_newi (kc := 111) (ks := 5173) (L := 260) dX11_init_17 ac_int (by first | assumption | rfl) (by decide) rfl (by decide) (ZI.i (by repeat (first | exact hzI.mono (by omega) | refine ZI.u ?_ (by omega) | refine ZI.s6 ?_ (by omega)))) ?_
  refine E_putF dX11_init_19 f_X11_15 rfl (by first | assumption | rfl) (by omega) rfl (Or.inr ⟨_, rfl⟩) ?_
  refine E_aload_n dX11_init_22 rfl ?_
  refine E_ic (0) dX11_init_23 (by decide) ?_
  refine E_putI dX11_init_24 f_X11_19 (by first | assumption | rfl) (by omega) rfl ?_
  refine E_aload_n dX11_init_27 rfl ?_
  refine E_new (kc := 110) (ks := 5165) (N := 8) dX11_init_28 ck3 cl_X11_23 in_X3 ii_X3 (by first | assumption | rfl) (ZI.i (by repeat (first | exact hzI.mono (by omega) | refine ZI.u ?_ (by omega) | refine ZI.s6 ?_ (by omega)))) (ZR.i (by repeat (first | exact hzR.mono (by omega) | refine ZR.u ?_ (by omega)))) ?_
  refine E_dup dX11_init_31 rfl ?_
  refine E_callIN (As := []) (kc' := 7) (ks' := 345) (kc := 103) (ks := 4820) dX11_init_32 ok_X3_init rfl w_X11_25 i_X3_init rfl rfl rfl rfl (Nat.le_of_ble_eq_true rfl) (Nat.le_of_ble_eq_true rfl) (Nat.le_refl _) (c_init_X3 (by first | assumption | rfl) (by first | assumption | omega) (by first | assumption | rfl) (by first | assumption | rfl) (by first | assumption | rfl) (by first | assumption | rfl) (by first | assumption | rfl) (by first | assumption | rfl) (by first | assumption | rfl) (by repeat (first | exact hzI.mono (by omega) | refine ZI.u ?_ (by omega) | refine ZI.s6 ?_ (by omega))) (by repeat (first | exact hzR.mono (by omega) | refine ZR.u ?_ (by omega))) ?_)
  refine E_putF dX11_init_35 f_X11_26 rfl (by first | assumption | rfl) (by omega) rfl (Or.inl ⟨_, rfl⟩) ?_
  refine E_aload_n dX11_init_38 rfl ?_
  refine E_new (kc := 102) (ks := 4814) (N := 6) dX11_init_39 ck4 cl_X11_30 in_X4 ii_X4 (by first | assumption | rfl) (ZI.i (by repeat (first | exact hzI.mono (by omega) | refine ZI.u ?_ (by omega) | refine ZI.s6 ?_ (by omega)))) (ZR.i (by repeat (first | exact hzR.mono (by omega) | refine ZR.u ?_ (by omega)))) ?_
  refine E_dup dX11_init_42 rfl ?_
  refine E_callIN (As := []) (kc' := 8) (ks' := 353) (kc := 94) (ks := 4461) dX11_init_43 ok_X4_init rfl w_X11_32 i_X4_init rfl rfl rfl rfl (Nat.le_of_ble_eq_true rfl) (Nat.le_of_ble_eq_true rfl) (Nat.le_refl _) (c_init_X4 (by first | assumption | rfl) (by first | assumption | omega)  (by repeat (first | exact hzI.mono (by omega) | refine ZI.u ?_ (by omega) | refine ZI.s6 ?_ (by omega))) (by repeat (first | exact hzR.mono (by omega) | refine ZR.u ?_ (by omega))) ?_)
  refine E_putF dX11_init_46 f_X11_33 rfl (by first | assumption | rfl) (by omega) rfl (Or.inl ⟨_, rfl⟩) ?_
  refine E_aload_n dX11_init_49 rfl ?_
  refine E_new (kc := 93) (ks := 4453) (N := 8) dX11_init_50 ck6 cl_X11_37 in_X7 ii_X7 (by first | assumption | rfl) (ZI.i (by repeat (first | exact hzI.mono (by omega) | refine ZI.u ?_ (by omega) | refine ZI.s6 ?_ (by omega)))) (ZR.i (by repeat (first | exact hzR.mono (by omega) | refine ZR.u ?_ (by omega)))) ?_
  refine E_dup dX11_init_53 rfl ?_
  refine E_callIN (As := []) (kc' := 1) (ks' := 96) (kc := 92) (ks := 4357) dX11_init_54 ok_X7_init rfl w_X11_39 i_X7_init rfl rfl rfl rfl (Nat.le_of_ble_eq_true rfl) (Nat.le_of_ble_eq_true rfl) (Nat.le_refl _) (c_init_X7 (by first | assumption | rfl) (by first | assumption | omega)  (by repeat (first | exact hzI.mono (by omega) | refine ZI.u ?_ (by omega) | refine ZI.s6 ?_ (by omega))) (by repeat (first | exact hzR.mono (by omega) | refine ZR.u ?_ (by omega))) ?_)
  refine E_putF dX11_init_57 f_X11_40 rfl (by first | assumption | rfl) (by omega) rfl (Or.inl ⟨_, rfl⟩) ?_
  refine E_aload_n dX11_init_60 rfl ?_
  refine E_new (kc := 91) (ks := 4349) (N := 8) dX11_init_61 ck0 cl_X11_44 in_X0 ii_X0 (by first | assumption | rfl) (ZI.i (by repeat (first | exact hzI.mono (by omega) | refine ZI.u ?_ (by omega) | refine ZI.s6 ?_ (by omega)))) (ZR.i (by repeat (first | exact hzR.mono (by omega) | refine ZR.u ?_ (by omega)))) ?_
  refine E_dup dX11_init_64 rfl ?_
  refine E_callIN (As := []) (kc' := 14) (ks' := 425) (kc := 77) (ks := 3924) dX11_init_65 ok_X0_init rfl w_X11_46 i_X0_init rfl rfl rfl rfl (Nat.le_of_ble_eq_true rfl) (Nat.le_of_ble_eq_true rfl) (Nat.le_refl _) (c_init_X0 (by first | assumption | rfl) (by first | assumption | omega)  (by repeat (first | exact hzI.mono (by omega) | refine ZI.u ?_ (by omega) | refine ZI.s6 ?_ (by omega))) (by repeat (first | exact hzR.mono (by omega) | refine ZR.u ?_ (by omega))) ?_)
  refine E_putF dX11_init_68 f_X11_47 rfl (by first | assumption | rfl) (by omega) rfl (Or.inl ⟨_, rfl⟩) ?_
  refine E_aload_n dX11_init_71 rfl ?_
  refine E_new (kc := 76) (ks := 3919) (N := 5) dX11_init_72 ck5 cl_X11_51 in_X6 ii_X6 (by first | assumption | rfl) (ZI.i (by repeat (first | exact hzI.mono (by omega) | refine ZI.u ?_ (by omega) | refine ZI.s6 ?_ (by omega)))) (ZR.i (by repeat (first | exact hzR.mono (by omega) | refine ZR.u ?_ (by omega)))) ?_
  refine E_dup dX11_init_75 rfl ?_
  refine E_callIN (As := []) (kc' := 2) (ks' := 1547) (kc := 74) (ks := 2372) dX11_init_76 ok_X6_init rfl w_X11_53 i_X6_init rfl rfl rfl rfl (Nat.le_of_ble_eq_true rfl) (Nat.le_of_ble_eq_true rfl) (Nat.le_refl _) (c_init_X6 (by first | assumption | rfl) (by first | assumption | omega)  (by repeat (first | exact hzI.mono (by omega) | refine ZI.u ?_ (by omega) | refine ZI.s6 ?_ (by omega))) (by repeat (first | exact hzR.mono (by omega) | refine ZR.u ?_ (by omega))) ?_)
  refine E_putF dX11_init_79 f_X11_54 rfl (by first | assumption | rfl) (by omega) rfl (Or.inl ⟨_, rfl⟩) ?_
  refine E_aload_n dX11_init_82 rfl ?_
  refine E_new (kc := 73) (ks := 2368) (N := 4) dX11_init_83 ck8 cl_X11_58 in_X9 ii_X9 (by first | assumption | rfl) (ZI.i (by repeat (first | exact hzI.mono (by omega) | refine ZI.u ?_ (by omega) | refine ZI.s6 ?_ (by omega)))) (ZR.i (by repeat (first | exact hzR.mono (by omega) | refine ZR.u ?_ (by omega)))) ?_
  refine E_dup dX11_init_86 rfl ?_
  refine E_callIN (As := []) (kc' := 2) (ks' := 292) (kc := 71) (ks := 2076) dX11_init_87 ok_X9_init rfl w_X11_60 i_X9_init rfl rfl rfl rfl (Nat.le_of_ble_eq_true rfl) (Nat.le_of_ble_eq_true rfl) (Nat.le_refl _) (c_init_X9 (by first | assumption | rfl) (by first | assumption | omega)  (by repeat (first | exact hzI.mono (by omega) | refine ZI.u ?_ (by omega) | refine ZI.s6 ?_ (by omega))) (by repeat (first | exact hzR.mono (by omega) | refine ZR.u ?_ (by omega))) ?_)
  refine E_putF dX11_init_90 f_X11_61 rfl (by first | assumption | rfl) (by omega) rfl (Or.inl ⟨_, rfl⟩) ?_
  refine E_aload_n dX11_init_93 rfl ?_
  refine E_new (kc := 70) (ks := 2071) (N := 5) dX11_init_94 ck1 cl_X11_65 in_X1 ii_X1 (by first | assumption | rfl) (ZI.i (by repeat (first | exact hzI.mono (by omega) | refine ZI.u ?_ (by omega) | refine ZI.s6 ?_ (by omega)))) (ZR.i (by repeat (first | exact hzR.mono (by omega) | refine ZR.u ?_ (by omega)))) ?_
  refine E_dup dX11_init_97 rfl ?_
  refine E_callIN (As := []) (kc' := 3) (ks' := 272) (kc := 67) (ks := 1799) dX11_init_98 ok_X1_init rfl w_X11_67 i_X1_init rfl rfl rfl rfl (Nat.le_of_ble_eq_true rfl) (Nat.le_of_ble_eq_true rfl) (Nat.le_refl _) (c_init_X1 (by first | assumption | rfl) (by first | assumption | omega)  (by repeat (first | exact hzI.mono (by omega) | refine ZI.u ?_ (by omega) | refine ZI.s6 ?_ (by omega))) (by repeat (first | exact hzR.mono (by omega) | refine ZR.u ?_ (by omega))) ?_)
  refine E_putF dX11_init_101 f_X11_68 rfl (by first | assumption | rfl) (by omega) rfl (Or.inl ⟨_, rfl⟩) ?_
  refine E_aload_n dX11_init_104 rfl ?_
  refine E_new (kc := 66) (ks := 1793) (N := 6) dX11_init_105 ck2 cl_X11_72 in_X2 ii_X2 (by first | assumption | rfl) (ZI.i (by repeat (first | exact hzI.mono (by omega) | refine ZI.u ?_ (by omega) | refine ZI.s6 ?_ (by omega)))) (ZR.i (by repeat (first | exact hzR.mono (by omega) | refine ZR.u ?_ (by omega)))) ?_
  refine E_dup dX11_init_108 rfl ?_
  refine E_callIN (As := []) (kc' := 4) (ks' := 888) (kc := 62) (ks := 905) dX11_init_109 ok_X2_init rfl w_X11_74 i_X2_init rfl rfl rfl rfl (Nat.le_of_ble_eq_true rfl) (Nat.le_of_ble_eq_true rfl) (Nat.le_refl _) (c_init_X2 (by first | assumption | rfl) (by first | assumption | omega)  (by repeat (first | exact hzI.mono (by omega) | refine ZI.u ?_ (by omega) | refine ZI.s6 ?_ (by omega))) (by repeat (first | exact hzR.mono (by omega) | refine ZR.u ?_ (by omega))) ?_)
  refine E_putF dX11_init_112 f_X11_75 rfl (by first | assumption | rfl) (by omega) rfl (Or.inl ⟨_, rfl⟩) ?_
  refine E_aload_n dX11_init_115 rfl ?_
  refine E_bp (100) dX11_init_116 (by decide) ?_
  refine E_newi (kc := 61) (ks := 805) (L := 100) dX11_init_118 ac_int (by first | assumption | rfl) (by decide) rfl (by decide) (ZI.i (by repeat (first | exact hzI.mono (by omega) | refine ZI.u ?_ (by omega) | refine ZI.s6 ?_ (by omega)))) ?_
  refine E_putF dX11_init_120 f_X11_79 rfl (by first | assumption | rfl) (by omega) rfl (Or.inr ⟨_, rfl⟩) ?_
  refine E_aload_n dX11_init_123 rfl ?_
  refine E_bp (13) dX11_init_124 (by decide) ?_
  refine E_newl (kc := 60) (ks := 792) (L := 13) dX11_init_126 ac_long (by first | assumption | rfl) (by decide) rfl (by decide) (ZJ.i (hzJ.mono (by omega))) ?_
  refine E_putF dX11_init_128 f_X11_82 rfl (by first | assumption | rfl) (by omega) rfl (Or.inr ⟨_, rfl⟩) ?_
  refine E_aload_n dX11_init_131 rfl ?_
  refine E_bp (99) dX11_init_132 (by decide) ?_
  refine E_putI dX11_init_134 f_X11_86 (by first | assumption | rfl) (by omega) rfl ?_
  refine E_aload_n dX11_init_137 rfl ?_
  refine E_ic (0) dX11_init_138 (by decide) ?_
  refine E_putI dX11_init_139 f_X11_89 (by first | assumption | rfl) (by omega) rfl ?_
  refine E_aload_n dX11_init_142 rfl ?_
  refine E_ic (1) dX11_init_143 (by decide) ?_
  refine E_putI dX11_init_144 f_X11_92 (by first | assumption | rfl) (by omega) rfl ?_
  refine E_aload_n dX11_init_147 rfl ?_
  refine E_ic (0) dX11_init_148 (by decide) ?_
  refine E_putZ dX11_init_149 f_X11_95 (by first | assumption | rfl) (by omega) rfl (by decide) ?_
  refine E_aload_n dX11_init_152 rfl ?_
  refine E_ic (0) dX11_init_153 (by decide) ?_
  refine E_putI dX11_init_154 f_X11_99 (by first | assumption | rfl) (by omega) rfl ?_
  refine E_aload_n dX11_init_157 rfl ?_
  refine E_ic (0) dX11_init_158 (by decide) ?_
  refine E_putI dX11_init_159 f_X11_102 (by first | assumption | rfl) (by omega) rfl ?_
  refine E_aload_n dX11_init_162 rfl ?_
  refine E_ic (0) dX11_init_163 (by decide) ?_
  refine E_putI dX11_init_164 f_X11_105 (by first | assumption | rfl) (by omega) rfl ?_
  refine E_ic (0) dX11_init_167 (by decide) ?_
  refine E_istore_n dX11_init_168 (Nat.le_of_ble_eq_true rfl) ?_
  refine E_iload_n dX11_init_169 rfl ?_
  refine E_bp (12) dX11_init_170 (by decide) ?_
  refine E_icmp_ge (tgt := 194) dX11_init_172 (by decide) (fun c => absurd c (by decide)) (fun c => ?_)
  refine E_aload_n dX11_init_175 rfl ?_
  refine E_getR (b := 1) dX11_init_176 f_X11_11 (by first | assumption | rfl) (by omega) rfl (by first | rfl | simp [up2]) ?_
  refine E_iload_n dX11_init_179 rfl ?_
  refine E_new (kc := 59) (ks := 786) (N := 6) dX11_init_180 ck9 cl_X11_9 in_X10 ii_X10 (by first | assumption | rfl) (ZI.i (by repeat (first | exact hzI.mono (by omega) | refine ZI.u ?_ (by omega) | refine ZI.s6 ?_ (by omega)))) (ZR.i (by repeat (first | exact hzR.mono (by omega) | refine ZR.u ?_ (by omega)))) ?_
  refine E_dup dX11_init_183 rfl ?_
  refine E_callIN (As := []) (kc' := 4) (ks' := 60) (kc := 55) (ks := 726) dX11_init_184 ok_X10_init rfl w_X11_108 i_X10_init rfl rfl rfl rfl (Nat.le_of_ble_eq_true rfl) (Nat.le_of_ble_eq_true rfl) (Nat.le_refl _) (c_init_X10 (by first | assumption | rfl) (by first | assumption | omega) (by first | assumption | rfl) (by first | assumption | rfl) (by first | assumption | rfl) (by first | assumption | rfl) (by repeat (first | exact hzI.mono (by omega) | refine ZI.u ?_ (by omega) | refine ZI.s6 ?_ (by omega))) (by repeat (first | exact hzR.mono (by omega) | refine ZR.u ?_ (by omega))) ?_)
  refine E_aast dX11_init_187 rfl (by omega) (by unfold vp_in; decide) rfl (by omega) ?_
  refine E_inc (1) dX11_init_188 rfl (by decide) ?_
  refine E_goto (tgt := 169) dX11_init_191 (by decide) ?_
  refine E_iload_n dX11_init_169 rfl ?_
  refine E_bp (12) dX11_init_170 (by decide) ?_
  refine E_icmp_ge (tgt := 194) dX11_init_172 (by decide) (fun c => absurd c (by decide)) (fun c => ?_)
  refine E_aload_n dX11_init_175 rfl ?_
  refine E_getR (b := 1) dX11_init_176 f_X11_11 (by first | assumption | rfl) (by omega) rfl (by first | rfl | simp [up2]) ?_
  refine E_iload_n dX11_init_179 rfl ?_
  refine E_new (kc := 54) (ks := 720) (N := 6) dX11_init_180 ck9 cl_X11_9 in_X10 ii_X10 (by first | assumption | rfl) (ZI.i (by repeat (first | exact hzI.mono (by omega) | refine ZI.u ?_ (by omega) | refine ZI.s6 ?_ (by omega)))) (ZR.i (by repeat (first | exact hzR.mono (by omega) | refine ZR.u ?_ (by omega)))) ?_
  refine E_dup dX11_init_183 rfl ?_
  refine E_callIN (As := []) (kc' := 4) (ks' := 60) (kc := 50) (ks := 660) dX11_init_184 ok_X10_init rfl w_X11_108 i_X10_init rfl rfl rfl rfl (Nat.le_of_ble_eq_true rfl) (Nat.le_of_ble_eq_true rfl) (Nat.le_refl _) (c_init_X10 (by first | assumption | rfl) (by first | assumption | omega) (by first | assumption | rfl) (by first | assumption | rfl) (by first | assumption | rfl) (by first | assumption | rfl) (by repeat (first | exact hzI.mono (by omega) | refine ZI.u ?_ (by omega) | refine ZI.s6 ?_ (by omega))) (by repeat (first | exact hzR.mono (by omega) | refine ZR.u ?_ (by omega))) ?_)
  refine E_aast dX11_init_187 rfl (by omega) (by unfold vp_in; decide) rfl (by omega) ?_
  refine E_inc (1) dX11_init_188 rfl (by decide) ?_
  refine E_goto (tgt := 169) dX11_init_191 (by decide) ?_
  refine E_iload_n dX11_init_169 rfl ?_
  refine E_bp (12) dX11_init_170 (by decide) ?_
  refine E_icmp_ge (tgt := 194) dX11_init_172 (by decide) (fun c => absurd c (by decide)) (fun c => ?_)
  refine E_aload_n dX11_init_175 rfl ?_
  refine E_getR (b := 1) dX11_init_176 f_X11_11 (by first | assumption | rfl) (by omega) rfl (by first | rfl | simp [up2]) ?_
  refine E_iload_n dX11_init_179 rfl ?_
  refine E_new (kc := 49) (ks := 654) (N := 6) dX11_init_180 ck9 cl_X11_9 in_X10 ii_X10 (by first | assumption | rfl) (ZI.i (by repeat (first | exact hzI.mono (by omega) | refine ZI.u ?_ (by omega) | refine ZI.s6 ?_ (by omega)))) (ZR.i (by repeat (first | exact hzR.mono (by omega) | refine ZR.u ?_ (by omega)))) ?_
  refine E_dup dX11_init_183 rfl ?_
  refine E_callIN (As := []) (kc' := 4) (ks' := 60) (kc := 45) (ks := 594) dX11_init_184 ok_X10_init rfl w_X11_108 i_X10_init rfl rfl rfl rfl (Nat.le_of_ble_eq_true rfl) (Nat.le_of_ble_eq_true rfl) (Nat.le_refl _) (c_init_X10 (by first | assumption | rfl) (by first | assumption | omega) (by first | assumption | rfl) (by first | assumption | rfl) (by first | assumption | rfl) (by first | assumption | rfl) (by repeat (first | exact hzI.mono (by omega) | refine ZI.u ?_ (by omega) | refine ZI.s6 ?_ (by omega))) (by repeat (first | exact hzR.mono (by omega) | refine ZR.u ?_ (by omega))) ?_)
  refine E_aast dX11_init_187 rfl (by omega) (by unfold vp_in; decide) rfl (by omega) ?_
  refine E_inc (1) dX11_init_188 rfl (by decide) ?_
  refine E_goto (tgt := 169) dX11_init_191 (by decide) ?_
  refine E_iload_n dX11_init_169 rfl ?_
  refine E_bp (12) dX11_init_170 (by decide) ?_
  refine E_icmp_ge (tgt := 194) dX11_init_172 (by decide) (fun c => absurd c (by decide)) (fun c => ?_)
  refine E_aload_n dX11_init_175 rfl ?_
  refine E_getR (b := 1) dX11_init_176 f_X11_11 (by first | assumption | rfl) (by omega) rfl (by first | rfl | simp [up2]) ?_
  refine E_iload_n dX11_init_179 rfl ?_
  refine E_new (kc := 44) (ks := 588) (N := 6) dX11_init_180 ck9 cl_X11_9 in_X10 ii_X10 (by first | assumption | rfl) (ZI.i (by repeat (first | exact hzI.mono (by omega) | refine ZI.u ?_ (by omega) | refine ZI.s6 ?_ (by omega)))) (ZR.i (by repeat (first | exact hzR.mono (by omega) | refine ZR.u ?_ (by omega)))) ?_
  refine E_dup dX11_init_183 rfl ?_
  refine E_callIN (As := []) (kc' := 4) (ks' := 60) (kc := 40) (ks := 528) dX11_init_184 ok_X10_init rfl w_X11_108 i_X10_init rfl rfl rfl rfl (Nat.le_of_ble_eq_true rfl) (Nat.le_of_ble_eq_true rfl) (Nat.le_refl _) (c_init_X10 (by first | assumption | rfl) (by first | assumption | omega) (by first | assumption | rfl) (by first | assumption | rfl) (by first | assumption | rfl) (by first | assumption | rfl) (by repeat (first | exact hzI.mono (by omega) | refine ZI.u ?_ (by omega) | refine ZI.s6 ?_ (by omega))) (by repeat (first | exact hzR.mono (by omega) | refine ZR.u ?_ (by omega))) ?_)
  refine E_aast dX11_init_187 rfl (by omega) (by unfold vp_in; decide) rfl (by omega) ?_
  refine E_inc (1) dX11_init_188 rfl (by decide) ?_
  refine E_goto (tgt := 169) dX11_init_191 (by decide) ?_
  refine E_iload_n dX11_init_169 rfl ?_
  refine E_bp (12) dX11_init_170 (by decide) ?_
  refine E_icmp_ge (tgt := 194) dX11_init_172 (by decide) (fun c => absurd c (by decide)) (fun c => ?_)
  refine E_aload_n dX11_init_175 rfl ?_
  refine E_getR (b := 1) dX11_init_176 f_X11_11 (by first | assumption | rfl) (by omega) rfl (by first | rfl | simp [up2]) ?_
  refine E_iload_n dX11_init_179 rfl ?_
  refine E_new (kc := 39) (ks := 522) (N := 6) dX11_init_180 ck9 cl_X11_9 in_X10 ii_X10 (by first | assumption | rfl) (ZI.i (by repeat (first | exact hzI.mono (by omega) | refine ZI.u ?_ (by omega) | refine ZI.s6 ?_ (by omega)))) (ZR.i (by repeat (first | exact hzR.mono (by omega) | refine ZR.u ?_ (by omega)))) ?_
  refine E_dup dX11_init_183 rfl ?_
  refine E_callIN (As := []) (kc' := 4) (ks' := 60) (kc := 35) (ks := 462) dX11_init_184 ok_X10_init rfl w_X11_108 i_X10_init rfl rfl rfl rfl (Nat.le_of_ble_eq_true rfl) (Nat.le_of_ble_eq_true rfl) (Nat.le_refl _) (c_init_X10 (by first | assumption | rfl) (by first | assumption | omega) (by first | assumption | rfl) (by first | assumption | rfl) (by first | assumption | rfl) (by first | assumption | rfl) (by repeat (first | exact hzI.mono (by omega) | refine ZI.u ?_ (by omega) | refine ZI.s6 ?_ (by omega))) (by repeat (first | exact hzR.mono (by omega) | refine ZR.u ?_ (by omega))) ?_)
  refine E_aast dX11_init_187 rfl (by omega) (by unfold vp_in; decide) rfl (by omega) ?_
  refine E_inc (1) dX11_init_188 rfl (by decide) ?_
  refine E_goto (tgt := 169) dX11_init_191 (by decide) ?_
  refine E_iload_n dX11_init_169 rfl ?_
  refine E_bp (12) dX11_init_170 (by decide) ?_
  refine E_icmp_ge (tgt := 194) dX11_init_172 (by decide) (fun c => absurd c (by decide)) (fun c => ?_)
  refine E_aload_n dX11_init_175 rfl ?_
  refine E_getR (b := 1) dX11_init_176 f_X11_11 (by first | assumption | rfl) (by omega) rfl (by first | rfl | simp [up2]) ?_
  refine E_iload_n dX11_init_179 rfl ?_
  refine E_new (kc := 34) (ks := 456) (N := 6) dX11_init_180 ck9 cl_X11_9 in_X10 ii_X10 (by first | assumption | rfl) (ZI.i (by repeat (first | exact hzI.mono (by omega) | refine ZI.u ?_ (by omega) | refine ZI.s6 ?_ (by omega)))) (ZR.i (by repeat (first | exact hzR.mono (by omega) | refine ZR.u ?_ (by omega)))) ?_
  refine E_dup dX11_init_183 rfl ?_
  refine E_callIN (As := []) (kc' := 4) (ks' := 60) (kc := 30) (ks := 396) dX11_init_184 ok_X10_init rfl w_X11_108 i_X10_init rfl rfl rfl rfl (Nat.le_of_ble_eq_true rfl) (Nat.le_of_ble_eq_true rfl) (Nat.le_refl _) (c_init_X10 (by first | assumption | rfl) (by first | assumption | omega) (by first | assumption | rfl) (by first | assumption | rfl) (by first | assumption | rfl) (by first | assumption | rfl) (by repeat (first | exact hzI.mono (by omega) | refine ZI.u ?_ (by omega) | refine ZI.s6 ?_ (by omega))) (by repeat (first | exact hzR.mono (by omega) | refine ZR.u ?_ (by omega))) ?_)
  refine E_aast dX11_init_187 rfl (by omega) (by unfold vp_in; decide) rfl (by omega) ?_
  refine E_inc (1) dX11_init_188 rfl (by decide) ?_
  refine E_goto (tgt := 169) dX11_init_191 (by decide) ?_
  refine E_iload_n dX11_init_169 rfl ?_
  refine E_bp (12) dX11_init_170 (by decide) ?_
  refine E_icmp_ge (tgt := 194) dX11_init_172 (by decide) (fun c => absurd c (by decide)) (fun c => ?_)
  refine E_aload_n dX11_init_175 rfl ?_
  refine E_getR (b := 1) dX11_init_176 f_X11_11 (by first | assumption | rfl) (by omega) rfl (by first | rfl | simp [up2]) ?_
  refine E_iload_n dX11_init_179 rfl ?_
  refine E_new (kc := 29) (ks := 390) (N := 6) dX11_init_180 ck9 cl_X11_9 in_X10 ii_X10 (by first | assumption | rfl) (ZI.i (by repeat (first | exact hzI.mono (by omega) | refine ZI.u ?_ (by omega) | refine ZI.s6 ?_ (by omega)))) (ZR.i (by repeat (first | exact hzR.mono (by omega) | refine ZR.u ?_ (by omega)))) ?_
  refine E_dup dX11_init_183 rfl ?_
  refine E_callIN (As := []) (kc' := 4) (ks' := 60) (kc := 25) (ks := 330) dX11_init_184 ok_X10_init rfl w_X11_108 i_X10_init rfl rfl rfl rfl (Nat.le_of_ble_eq_true rfl) (Nat.le_of_ble_eq_true rfl) (Nat.le_refl _) (c_init_X10 (by first | assumption | rfl) (by first | assumption | omega) (by first | assumption | rfl) (by first | assumption | rfl) (by first | assumption | rfl) (by first | assumption | rfl) (by repeat (first | exact hzI.mono (by omega) | refine ZI.u ?_ (by omega) | refine ZI.s6 ?_ (by omega))) (by repeat (first | exact hzR.mono (by omega) | refine ZR.u ?_ (by omega))) ?_)
  refine E_aast dX11_init_187 rfl (by omega) (by unfold vp_in; decide) rfl (by omega) ?_
  refine E_inc (1) dX11_init_188 rfl (by decide) ?_
  refine E_goto (tgt := 169) dX11_init_191 (by decide) ?_
  refine E_iload_n dX11_init_169 rfl ?_
  refine E_bp (12) dX11_init_170 (by decide) ?_
  refine E_icmp_ge (tgt := 194) dX11_init_172 (by decide) (fun c => absurd c (by decide)) (fun c => ?_)
  refine E_aload_n dX11_init_175 rfl ?_
  refine E_getR (b := 1) dX11_init_176 f_X11_11 (by first | assumption | rfl) (by omega) rfl (by first | rfl | simp [up2]) ?_
  refine E_iload_n dX11_init_179 rfl ?_
  refine E_new (kc := 24) (ks := 324) (N := 6) dX11_init_180 ck9 cl_X11_9 in_X10 ii_X10 (by first | assumption | rfl) (ZI.i (by repeat (first | exact hzI.mono (by omega) | refine ZI.u ?_ (by omega) | refine ZI.s6 ?_ (by omega)))) (ZR.i (by repeat (first | exact hzR.mono (by omega) | refine ZR.u ?_ (by omega)))) ?_
  refine E_dup dX11_init_183 rfl ?_
  refine E_callIN (As := []) (kc' := 4) (ks' := 60) (kc := 20) (ks := 264) dX11_init_184 ok_X10_init rfl w_X11_108 i_X10_init rfl rfl rfl rfl (Nat.le_of_ble_eq_true rfl) (Nat.le_of_ble_eq_true rfl) (Nat.le_refl _) (c_init_X10 (by first | assumption | rfl) (by first | assumption | omega) (by first | assumption | rfl) (by first | assumption | rfl) (by first | assumption | rfl) (by first | assumption | rfl) (by repeat (first | exact hzI.mono (by omega) | refine ZI.u ?_ (by omega) | refine ZI.s6 ?_ (by omega))) (by repeat (first | exact hzR.mono (by omega) | refine ZR.u ?_ (by omega))) ?_)
  refine E_aast dX11_init_187 rfl (by omega) (by unfold vp_in; decide) rfl (by omega) ?_
  refine E_inc (1) dX11_init_188 rfl (by decide) ?_
  refine E_goto (tgt := 169) dX11_init_191 (by decide) ?_
  refine E_iload_n dX11_init_169 rfl ?_
  refine E_bp (12) dX11_init_170 (by decide) ?_
  refine E_icmp_ge (tgt := 194) dX11_init_172 (by decide) (fun c => absurd c (by decide)) (fun c => ?_)
  refine E_aload_n dX11_init_175 rfl ?_
  refine E_getR (b := 1) dX11_init_176 f_X11_11 (by first | assumption | rfl) (by omega) rfl (by first | rfl | simp [up2]) ?_
  refine E_iload_n dX11_init_179 rfl ?_
  refine E_new (kc := 19) (ks := 258) (N := 6) dX11_init_180 ck9 cl_X11_9 in_X10 ii_X10 (by first | assumption | rfl) (ZI.i (by repeat (first | exact hzI.mono (by omega) | refine ZI.u ?_ (by omega) | refine ZI.s6 ?_ (by omega)))) (ZR.i (by repeat (first | exact hzR.mono (by omega) | refine ZR.u ?_ (by omega)))) ?_
  refine E_dup dX11_init_183 rfl ?_
  refine E_callIN (As := []) (kc' := 4) (ks' := 60) (kc := 15) (ks := 198) dX11_init_184 ok_X10_init rfl w_X11_108 i_X10_init rfl rfl rfl rfl (Nat.le_of_ble_eq_true rfl) (Nat.le_of_ble_eq_true rfl) (Nat.le_refl _) (c_init_X10 (by first | assumption | rfl) (by first | assumption | omega) (by first | assumption | rfl) (by first | assumption | rfl) (by first | assumption | rfl) (by first | assumption | rfl) (by repeat (first | exact hzI.mono (by omega) | refine ZI.u ?_ (by omega) | refine ZI.s6 ?_ (by omega))) (by repeat (first | exact hzR.mono (by omega) | refine ZR.u ?_ (by omega))) ?_)
  refine E_aast dX11_init_187 rfl (by omega) (by unfold vp_in; decide) rfl (by omega) ?_
  refine E_inc (1) dX11_init_188 rfl (by decide) ?_
  refine E_goto (tgt := 169) dX11_init_191 (by decide) ?_
  refine E_iload_n dX11_init_169 rfl ?_
  refine E_bp (12) dX11_init_170 (by decide) ?_
  refine E_icmp_ge (tgt := 194) dX11_init_172 (by decide) (fun c => absurd c (by decide)) (fun c => ?_)
  refine E_aload_n dX11_init_175 rfl ?_
  refine E_getR (b := 1) dX11_init_176 f_X11_11 (by first | assumption | rfl) (by omega) rfl (by first | rfl | simp [up2]) ?_
  refine E_iload_n dX11_init_179 rfl ?_
  refine E_new (kc := 14) (ks := 192) (N := 6) dX11_init_180 ck9 cl_X11_9 in_X10 ii_X10 (by first | assumption | rfl) (ZI.i (by repeat (first | exact hzI.mono (by omega) | refine ZI.u ?_ (by omega) | refine ZI.s6 ?_ (by omega)))) (ZR.i (by repeat (first | exact hzR.mono (by omega) | refine ZR.u ?_ (by omega)))) ?_
  refine E_dup dX11_init_183 rfl ?_
  refine E_callIN (As := []) (kc' := 4) (ks' := 60) (kc := 10) (ks := 132) dX11_init_184 ok_X10_init rfl w_X11_108 i_X10_init rfl rfl rfl rfl (Nat.le_of_ble_eq_true rfl) (Nat.le_of_ble_eq_true rfl) (Nat.le_refl _) (c_init_X10 (by first | assumption | rfl) (by first | assumption | omega) (by first | assumption | rfl) (by first | assumption | rfl) (by first | assumption | rfl) (by first | assumption | rfl) (by repeat (first | exact hzI.mono (by omega) | refine ZI.u ?_ (by omega) | refine ZI.s6 ?_ (by omega))) (by repeat (first | exact hzR.mono (by omega) | refine ZR.u ?_ (by omega))) ?_)
  refine E_aast dX11_init_187 rfl (by omega) (by unfold vp_in; decide) rfl (by omega) ?_
  refine E_inc (1) dX11_init_188 rfl (by decide) ?_
  refine E_goto (tgt := 169) dX11_init_191 (by decide) ?_
  refine E_iload_n dX11_init_169 rfl ?_
  refine E_bp (12) dX11_init_170 (by decide) ?_
  refine E_icmp_ge (tgt := 194) dX11_init_172 (by decide) (fun c => absurd c (by decide)) (fun c => ?_)
  refine E_aload_n dX11_init_175 rfl ?_
  refine E_getR (b := 1) dX11_init_176 f_X11_11 (by first | assumption | rfl) (by omega) rfl (by first | rfl | simp [up2]) ?_
  refine E_iload_n dX11_init_179 rfl ?_
  refine E_new (kc := 9) (ks := 126) (N := 6) dX11_init_180 ck9 cl_X11_9 in_X10 ii_X10 (by first | assumption | rfl) (ZI.i (by repeat (first | exact hzI.mono (by omega) | refine ZI.u ?_ (by omega) | refine ZI.s6 ?_ (by omega)))) (ZR.i (by repeat (first | exact hzR.mono (by omega) | refine ZR.u ?_ (by omega)))) ?_
  refine E_dup dX11_init_183 rfl ?_
  refine E_callIN (As := []) (kc' := 4) (ks' := 60) (kc := 5) (ks := 66) dX11_init_184 ok_X10_init rfl w_X11_108 i_X10_init rfl rfl rfl rfl (Nat.le_of_ble_eq_true rfl) (Nat.le_of_ble_eq_true rfl) (Nat.le_refl _) (c_init_X10 (by first | assumption | rfl) (by first | assumption | omega) (by first | assumption | rfl) (by first | assumption | rfl) (by first | assumption | rfl) (by first | assumption | rfl) (by repeat (first | exact hzI.mono (by omega) | refine ZI.u ?_ (by omega) | refine ZI.s6 ?_ (by omega))) (by repeat (first | exact hzR.mono (by omega) | refine ZR.u ?_ (by omega))) ?_)
  refine E_aast dX11_init_187 rfl (by omega) (by unfold vp_in; decide) rfl (by omega) ?_
  refine E_inc (1) dX11_init_188 rfl (by decide) ?_
  refine E_goto (tgt := 169) dX11_init_191 (by decide) ?_
  refine E_iload_n dX11_init_169 rfl ?_
  refine E_bp (12) dX11_init_170 (by decide) ?_
  refine E_icmp_ge (tgt := 194) dX11_init_172 (by decide) (fun c => absurd c (by decide)) (fun c => ?_)
  refine E_aload_n dX11_init_175 rfl ?_
  refine E_getR (b := 1) dX11_init_176 f_X11_11 (by first | assumption | rfl) (by omega) rfl (by first | rfl | simp [up2]) ?_
  refine E_iload_n dX11_init_179 rfl ?_
  refine E_new (kc := 4) (ks := 60) (N := 6) dX11_init_180 ck9 cl_X11_9 in_X10 ii_X10 (by first | assumption | rfl) (ZI.i (by repeat (first | exact hzI.mono (by omega) | refine ZI.u ?_ (by omega) | refine ZI.s6 ?_ (by omega)))) (ZR.i (by repeat (first | exact hzR.mono (by omega) | refine ZR.u ?_ (by omega)))) ?_
  refine E_dup dX11_init_183 rfl ?_
  refine E_callIN (As := []) (kc' := 4) (ks' := 60) (kc := 0) (ks := 0) dX11_init_184 ok_X10_init rfl w_X11_108 i_X10_init rfl rfl rfl rfl (Nat.le_of_ble_eq_true rfl) (Nat.le_of_ble_eq_true rfl) (Nat.le_refl _) (c_init_X10 (by first | assumption | rfl) (by first | assumption | omega) (by first | assumption | rfl) (by first | assumption | rfl) (by first | assumption | rfl) (by first | assumption | rfl) (by repeat (first | exact hzI.mono (by omega) | refine ZI.u ?_ (by omega) | refine ZI.s6 ?_ (by omega))) (by repeat (first | exact hzR.mono (by omega) | refine ZR.u ?_ (by omega))) ?_)
  refine E_aast dX11_init_187 rfl (by omega) (by unfold vp_in; decide) rfl (by omega) ?_
  refine E_inc (1) dX11_init_188 rfl (by decide) ?_
  refine E_goto (tgt := 169) dX11_init_191 (by decide) ?_
  refine E_iload_n dX11_init_169 rfl ?_
  refine E_bp (12) dX11_init_170 (by decide) ?_
  refine E_icmp_ge (tgt := 194) dX11_init_172 (by decide) (fun c => ?_) (fun c => absurd (by decide) c)
  exact E_ret dX11_init_194 rfl hQ
set_option maxRecDepth 100000 in
set_option maxHeartbeats 4000000 in
theorem c_init_X12 (hsa : (LY 114).1 = 11) (ha : 114 < 115) (hzI : ZI (115) I) (hzR : ZR (115) R) (hzJ : ZJ (115) J) (hQ : Q none (152) (up2 (up2 (up2 (up2 (up2 (up2 (up2 (up2 (up2 (up2 (up2 (up2 (up2 (up2 (I) (115) 74 (1)) (115) 72 (99)) (115) 12 (9)) (115) 13 (9)) (115) 14 (9)) (115) 15 (9)) (115) 16 (9)) (115) 17 (9)) (115) 18 (9)) (115) 19 (9)) (115) 20 (9)) (115) 21 (9)) (115) 22 (9)) (115) 23 (9)) J (up2 (up2 (up2 (up2 (up2 (up2 (up2 (up2 (up2 (up2 (up2 (up2 (up2 (up2 (up2 (up2 (up2 (up2 (up2 (up2 (up2 (up2 (up2 (up2 (up2 (up2 (up2 (up2 (up2 (up2 (up2 (up2 (up2 (up2 (up2 (up2 (up2 (R) (114) 0 (some (115))) (114) 1 (some (116))) (114) 2 (some (117))) (114) 3 (some (118))) (114) 4 (some (119))) (114) 5 (some (120))) (114) 6 (some (121))) (114) 17 (some (122))) (114) 18 (some (123))) (114) 19 (some (124))) (114) 20 (some (125))) (114) 21 (some (126))) (114) 22 (some (127))) (114) 23 (some (128))) (114) 24 (some (129))) (114) 25 (some (130))) (114) 26 (some (131))) (114) 27 (some (132))) (114) 28 (some (133))) (114) 29 (some (134))) (114) 30 (some (135))) (114) 31 (some (136))) (114) 32 (some (137))) (114) 33 (some (138))) (114) 43 (some (139))) (114) 44 (some (140))) (114) 45 (some (141))) (114) 48 (some (142))) (114) 49 (some (143))) (114) 50 (some (144))) (114) 51 (some (145))) (114) 52 (some (146))) (114) 53 (some (147))) (114) 54 (some (148))) (114) 55 (some (149))) (114) 56 (some (150))) (114) 57 (some (151)))) : E g mX12_init (d + 1) 37 321240 0 (ent 2 [.ref 114]) [] (115) I J R Q := by
  refine E_aload_n dX12_init_0 rfl ?_
  refine E_obj dX12_init_1 w_X12_1 oi_i oi_c (by omega) ?_
  refine E_aload_n dX12_init_4 rfl ?_
  refine E_bp (75) dX12_init_5 (by decide) ?_
  refine E_newi (kc := 36) (ks := 321165) (L := 75) dX12_init_7 ac_int (by first | assumption | rfl) (by decide) rfl (by decide) (ZI.i (by repeat (first | exact hzI.mono (by omega) | refine ZI.u ?_ (by omega) | refine ZI.s6 ?_ (by omega)))) ?_
  refine E_putF dX12_init_9 f_X12_7 rfl (by first | assumption | rfl) (by omega) rfl (Or.inr ⟨_, rfl⟩) ?_
  refine E_aload_n dX12_init_12 rfl ?_
  refine E_bp (75) dX12_init_13 (by decide) ?_
  refine E_newi (kc := 35) (ks := 321090) (L := 75) dX12_init_15 ac_int (by first | assumption | rfl) (by decide) rfl (by decide) (ZI.i (by repeat (first | exact hzI.mono (by omega) | refine ZI.u ?_ (by omega) | refine ZI.s6 ?_ (by omega)))) ?_
  refine E_putF dX12_init_17 f_X12_13 rfl (by first | assumption | rfl) (by omega) rfl (Or.inr ⟨_, rfl⟩) ?_
  refine E_aload_n dX12_init_20 rfl ?_
  refine E_bp (75) dX12_init_21 (by decide) ?_
  refine E_newi (kc := 34) (ks := 321015) (L := 75) dX12_init_23 ac_int (by first | assumption | rfl) (by decide) rfl (by decide) (ZI.i (by repeat (first | exact hzI.mono (by omega) | refine ZI.u ?_ (by omega) | refine ZI.s6 ?_ (by omega)))) ?_
  refine E_putF dX12_init_25 f_X12_16 rfl (by first | assumption | rfl) (by omega) rfl (Or.inr ⟨_, rfl⟩) ?_
  refine E_aload_n dX12_init_28 rfl ?_
  refine E_bp (12) dX12_init_29 (by decide) ?_
  refine E_newi (kc := 33) (ks := 321003) (L := 12) dX12_init_31 ac_int (by first | assumption | rfl) (by decide) rfl (by decide) (ZI.i (by repeat (first | exact hzI.mono (by omega) | refine ZI.u ?_ (by omega) | refine ZI.s6 ?_ (by omega)))) ?_
  refine E_putF dX12_init_33 f_X12_19 rfl (by first | assumption | rfl) (by omega) rfl (Or.inr ⟨_, rfl⟩) ?_
  refine E_aload_n dX12_init_36 rfl ?_
  refine E_sp (288) dX12_init_37 (by decide) ?_
  refine E_newi (kc := 32) (ks := 320715) (L := 288) dX12_init_40 ac_int (by first | assumption | rfl) (by decide) rfl (by decide) (ZI.i (by repeat (first | exact hzI.mono (by omega) | refine ZI.u ?_ (by omega) | refine ZI.s6 ?_ (by omega)))) ?_
  refine E_putF dX12_init_42 f_X12_22 rfl (by first | assumption | rfl) (by omega) rfl (Or.inr ⟨_, rfl⟩) ?_
  refine E_aload_n dX12_init_45 rfl ?_
  refine E_sp (288) dX12_init_46 (by decide) ?_
  refine E_newi (kc := 31) (ks := 320427) (L := 288) dX12_init_49 ac_int (by first | assumption | rfl) (by decide) rfl (by decide) (ZI.i (by repeat (first | exact hzI.mono (by omega) | refine ZI.u ?_ (by omega) | refine ZI.s6 ?_ (by omega)))) ?_
  refine E_putF dX12_init_51 f_X12_25 rfl (by first | assumption | rfl) (by omega) rfl (Or.inr ⟨_, rfl⟩) ?_
  refine E_aload_n dX12_init_54 rfl ?_
  refine E_sp (260) dX12_init_55 (by decide) ?_
  refine E_newb (kc := 30) (ks := 320167) (L := 260) dX12_init_58 ac_byte (by first | assumption | rfl) (by decide) rfl (by decide) (ZI.i (by repeat (first | exact hzI.mono (by omega) | refine ZI.u ?_ (by omega) | refine ZI.s6 ?_ (by omega)))) ?_
  refine E_putF dX12_init_60 f_X12_28 rfl (by first | assumption | rfl) (by omega) rfl (Or.inr ⟨_, rfl⟩) ?_
  refine E_aload_n dX12_init_63 rfl ?_
  refine E_sp (260) dX12_init_64 (by decide) ?_
  refine E_newi (kc := 29) (ks := 319907) (L := 260) dX12_init_67 ac_int (by first | assumption | rfl) (by decide) rfl (by decide) (ZI.i (by repeat (first | exact hzI.mono (by omega) | refine ZI.u ?_ (by omega) | refine ZI.s6 ?_ (by omega)))) ?_
  refine E_putF dX12_init_69 f_X12_32 rfl (by first | assumption | rfl) (by omega) rfl (Or.inr ⟨_, rfl⟩) ?_
  refine E_aload_n dX12_init_72 rfl ?_
  refine E_sp (260) dX12_init_73 (by decide) ?_
  refine E_newi (kc := 28) (ks := 319647) (L := 260) dX12_init_76 ac_int (by first | assumption | rfl) (by decide) rfl (by decide) (ZI.i (by repeat (first | exact hzI.mono (by omega) | refine ZI.u ?_ (by omega) | refine ZI.s6 ?_ (by omega)))) ?_
  refine E_putF dX12_init_78 f_X12_35 rfl (by first | assumption | rfl) (by omega) rfl (Or.inr ⟨_, rfl⟩) ?_
  refine E_aload_n dX12_init_81 rfl ?_
  refine E_bp (16) dX12_init_82 (by decide) ?_
  refine E_newi (kc := 27) (ks := 319631) (L := 16) dX12_init_84 ac_int (by first | assumption | rfl) (by decide) rfl (by decide) (ZI.i (by repeat (first | exact hzI.mono (by omega) | refine ZI.u ?_ (by omega) | refine ZI.s6 ?_ (by omega)))) ?_
  refine E_putF dX12_init_86 f_X12_38 rfl (by first | assumption | rfl) (by omega) rfl (Or.inr ⟨_, rfl⟩) ?_
  refine E_aload_n dX12_init_89 rfl ?_
  refine E_bp (16) dX12_init_90 (by decide) ?_
  refine E_newi (kc := 26) (ks := 319615) (L := 16) dX12_init_92 ac_int (by first | assumption | rfl) (by decide) rfl (by decide) (ZI.i (by repeat (first | exact hzI.mono (by omega) | refine ZI.u ?_ (by omega) | refine ZI.s6 ?_ (by omega)))) ?_
  refine E_putF dX12_init_94 f_X12_41 rfl (by first | assumption | rfl) (by omega) rfl (Or.inr ⟨_, rfl⟩) ?_
  refine E_aload_n dX12_init_97 rfl ?_
  refine E_bp (16) dX12_init_98 (by decide) ?_
  refine E_newi (kc := 25) (ks := 319599) (L := 16) dX12_init_100 ac_int (by first | assumption | rfl) (by decide) rfl (by decide) (ZI.i (by repeat (first | exact hzI.mono (by omega) | refine ZI.u ?_ (by omega) | refine ZI.s6 ?_ (by omega)))) ?_
  refine E_putF dX12_init_102 f_X12_44 rfl (by first | assumption | rfl) (by omega) rfl (Or.inr ⟨_, rfl⟩) ?_
  refine E_aload_n dX12_init_105 rfl ?_
  refine E_bp (16) dX12_init_106 (by decide) ?_
  refine E_newi (kc := 24) (ks := 319583) (L := 16) dX12_init_108 ac_int (by first | assumption | rfl) (by decide) rfl (by decide) (ZI.i (by repeat (first | exact hzI.mono (by omega) | refine ZI.u ?_ (by omega) | refine ZI.s6 ?_ (by omega)))) ?_
  refine E_putF dX12_init_110 f_X12_47 rfl (by first | assumption | rfl) (by omega) rfl (Or.inr ⟨_, rfl⟩) ?_
  refine E_aload_n dX12_init_113 rfl ?_
  refine E_sp (260) dX12_init_114 (by decide) ?_
  refine E_newi (kc := 23) (ks := 319323) (L := 260) dX12_init_117 ac_int (by first | assumption | rfl) (by decide) rfl (by decide) (ZI.i (by repeat (first | exact hzI.mono (by omega) | refine ZI.u ?_ (by omega) | refine ZI.s6 ?_ (by omega)))) ?_
  refine E_putF dX12_init_119 f_X12_50 rfl (by first | assumption | rfl) (by omega) rfl (Or.inr ⟨_, rfl⟩) ?_
  refine E_aload_n dX12_init_122 rfl ?_
  refine E_bp (16) dX12_init_123 (by decide) ?_
  refine E_newi (kc := 22) (ks := 319307) (L := 16) dX12_init_125 ac_int (by first | assumption | rfl) (by decide) rfl (by decide) (ZI.i (by repeat (first | exact hzI.mono (by omega) | refine ZI.u ?_ (by omega) | refine ZI.s6 ?_ (by omega)))) ?_
  refine E_putF dX12_init_127 f_X12_53 rfl (by first | assumption | rfl) (by omega) rfl (Or.inr ⟨_, rfl⟩) ?_
  refine E_aload_n dX12_init_130 rfl ?_
  refine E_bp (16) dX12_init_131 (by decide) ?_
  refine E_newi (kc := 21) (ks := 319291) (L := 16) dX12_init_133 ac_int (by first | assumption | rfl) (by decide) rfl (by decide) (ZI.i (by repeat (first | exact hzI.mono (by omega) | refine ZI.u ?_ (by omega) | refine ZI.s6 ?_ (by omega)))) ?_
  refine E_putF dX12_init_135 f_X12_56 rfl (by first | assumption | rfl) (by omega) rfl (Or.inr ⟨_, rfl⟩) ?_
  refine E_aload_n dX12_init_138 rfl ?_
  refine E_bp (16) dX12_init_139 (by decide) ?_
  refine E_newi (kc := 20) (ks := 319275) (L := 16) dX12_init_141 ac_int (by first | assumption | rfl) (by decide) rfl (by decide) (ZI.i (by repeat (first | exact hzI.mono (by omega) | refine ZI.u ?_ (by omega) | refine ZI.s6 ?_ (by omega)))) ?_
  refine E_putF dX12_init_143 f_X12_59 rfl (by first | assumption | rfl) (by omega) rfl (Or.inr ⟨_, rfl⟩) ?_
  refine E_aload_n dX12_init_146 rfl ?_
  refine E_bp (16) dX12_init_147 (by decide) ?_
  refine E_newi (kc := 19) (ks := 319259) (L := 16) dX12_init_149 ac_int (by first | assumption | rfl) (by decide) rfl (by decide) (ZI.i (by repeat (first | exact hzI.mono (by omega) | refine ZI.u ?_ (by omega) | refine ZI.s6 ?_ (by omega)))) ?_
  refine E_putF dX12_init_151 f_X12_62 rfl (by first | assumption | rfl) (by omega) rfl (Or.inr ⟨_, rfl⟩) ?_
  refine E_aload_n dX12_init_154 rfl ?_
  refine E_sp (260) dX12_init_155 (by decide) ?_
  refine E_newi (kc := 18) (ks := 318999) (L := 260) dX12_init_158 ac_int (by first | assumption | rfl) (by decide) rfl (by decide) (ZI.i (by repeat (first | exact hzI.mono (by omega) | refine ZI.u ?_ (by omega) | refine ZI.s6 ?_ (by omega)))) ?_
  refine E_putF dX12_init_160 f_X12_65 rfl (by first | assumption | rfl) (by omega) rfl (Or.inr ⟨_, rfl⟩) ?_
  refine E_aload_n dX12_init_163 rfl ?_
  refine E_bp (9) dX12_init_164 (by decide) ?_
  refine E_newi (kc := 17) (ks := 318990) (L := 9) dX12_init_166 ac_int (by first | assumption | rfl) (by decide) rfl (by decide) (ZI.i (by repeat (first | exact hzI.mono (by omega) | refine ZI.u ?_ (by omega) | refine ZI.s6 ?_ (by omega)))) ?_
  refine E_putF dX12_init_168 f_X12_68 rfl (by first | assumption | rfl) (by omega) rfl (Or.inr ⟨_, rfl⟩) ?_
  refine E_aload_n dX12_init_171 rfl ?_
  refine E_bp (96) dX12_init_172 (by decide) ?_
  refine E_newi (kc := 16) (ks := 318894) (L := 96) dX12_init_174 ac_int (by first | assumption | rfl) (by decide) rfl (by decide) (ZI.i (by repeat (first | exact hzI.mono (by omega) | refine ZI.u ?_ (by omega) | refine ZI.s6 ?_ (by omega)))) ?_
  refine E_putF dX12_init_176 f_X12_71 rfl (by first | assumption | rfl) (by omega) rfl (Or.inr ⟨_, rfl⟩) ?_
  refine E_aload_n dX12_init_179 rfl ?_
  refine E_ic (2) dX12_init_180 (by decide) ?_
  refine E_newi (kc := 15) (ks := 318892) (L := 2) dX12_init_181 ac_int (by first | assumption | rfl) (by decide) rfl (by decide) (ZI.i (by repeat (first | exact hzI.mono (by omega) | refine ZI.u ?_ (by omega) | refine ZI.s6 ?_ (by omega)))) ?_
  refine E_putF dX12_init_183 f_X12_74 rfl (by first | assumption | rfl) (by omega) rfl (Or.inr ⟨_, rfl⟩) ?_
  refine E_aload_n dX12_init_186 rfl ?_
  refine E_ic (2) dX12_init_187 (by decide) ?_
  refine E_newi (kc := 14) (ks := 318890) (L := 2) dX12_init_188 ac_int (by first | assumption | rfl) (by decide) rfl (by decide) (ZI.i (by repeat (first | exact hzI.mono (by omega) | refine ZI.u ?_ (by omega) | refine ZI.s6 ?_ (by omega)))) ?_
  refine E_putF dX12_init_190 f_X12_77 rfl (by first | assumption | rfl) (by omega) rfl (Or.inr ⟨_, rfl⟩) ?_
  refine E_aload_n dX12_init_193 rfl ?_
  refine E_ic (2) dX12_init_194 (by decide) ?_
  refine E_newi (kc := 13) (ks := 318888) (L := 2) dX12_init_195 ac_int (by first | assumption | rfl) (by decide) rfl (by decide) (ZI.i (by repeat (first | exact hzI.mono (by omega) | refine ZI.u ?_ (by omega) | refine ZI.s6 ?_ (by omega)))) ?_
  refine E_putF dX12_init_197 f_X12_80 rfl (by first | assumption | rfl) (by omega) rfl (Or.inr ⟨_, rfl⟩) ?_
  refine E_aload_n dX12_init_200 rfl ?_
  refine E_ldc (100000) dX12_init_201 k_X12_83 ?_
  refine E_newi (kc := 12) (ks := 218888) (L := 100000) dX12_init_203 ac_int (by first | assumption | rfl) (by decide) rfl (by decide) (ZI.i (by repeat (first | exact hzI.mono (by omega) | refine ZI.u ?_ (by omega) | refine ZI.s6 ?_ (by omega)))) ?_
  refine E_putF dX12_init_205 f_X12_84 rfl (by first | assumption | rfl) (by omega) rfl (Or.inr ⟨_, rfl⟩) ?_
  refine E_aload_n dX12_init_208 rfl ?_
  refine E_ldc (100000) dX12_init_209 k_X12_83 ?_
  refine E_newb (kc := 11) (ks := 118888) (L := 100000) dX12_init_211 ac_byte (by first | assumption | rfl) (by decide) rfl (by decide) (ZI.i (by repeat (first | exact hzI.mono (by omega) | refine ZI.u ?_ (by omega) | refine ZI.s6 ?_ (by omega)))) ?_
  refine E_putF dX12_init_213 f_X12_87 rfl (by first | assumption | rfl) (by omega) rfl (Or.inr ⟨_, rfl⟩) ?_
  refine E_aload_n dX12_init_216 rfl ?_
  refine E_ldc (100000) dX12_init_217 k_X12_83 ?_
  refine E_newb (kc := 10) (ks := 18888) (L := 100000) dX12_init_219 ac_byte (by first | assumption | rfl) (by decide) rfl (by decide) (ZI.i (by repeat (first | exact hzI.mono (by omega) | refine ZI.u ?_ (by omega) | refine ZI.s6 ?_ (by omega)))) ?_
  refine E_putF dX12_init_221 f_X12_90 rfl (by first | assumption | rfl) (by omega) rfl (Or.inr ⟨_, rfl⟩) ?_
  refine E_aload_n dX12_init_224 rfl ?_
  refine E_bp (25) dX12_init_225 (by decide) ?_
  refine E_newi (kc := 9) (ks := 18863) (L := 25) dX12_init_227 ac_int (by first | assumption | rfl) (by decide) rfl (by decide) (ZI.i (by repeat (first | exact hzI.mono (by omega) | refine ZI.u ?_ (by omega) | refine ZI.s6 ?_ (by omega)))) ?_
  refine E_putF dX12_init_229 f_X12_93 rfl (by first | assumption | rfl) (by omega) rfl (Or.inr ⟨_, rfl⟩) ?_
  refine E_aload_n dX12_init_232 rfl ?_
  refine E_bp (13) dX12_init_233 (by decide) ?_
  refine E_newl (kc := 8) (ks := 18850) (L := 13) dX12_init_235 ac_long (by first | assumption | rfl) (by decide) rfl (by decide) (ZJ.i (hzJ.mono (by omega))) ?_
  refine E_putF dX12_init_237 f_X12_96 rfl (by first | assumption | rfl) (by omega) rfl (Or.inr ⟨_, rfl⟩) ?_
  refine E_aload_n dX12_init_240 rfl ?_
  refine E_bp (6) dX12_init_241 (by decide) ?_
  refine E_newi (kc := 7) (ks := 18844) (L := 6) dX12_init_243 ac_int (by first | assumption | rfl) (by decide) rfl (by decide) (ZI.i (by repeat (first | exact hzI.mono (by omega) | refine ZI.u ?_ (by omega) | refine ZI.s6 ?_ (by omega)))) ?_
  refine E_putF dX12_init_245 f_X12_100 rfl (by first | assumption | rfl) (by omega) rfl (Or.inr ⟨_, rfl⟩) ?_
  refine E_aload_n dX12_init_248 rfl ?_
  refine E_bp (6) dX12_init_249 (by decide) ?_
  refine E_newi (kc := 6) (ks := 18838) (L := 6) dX12_init_251 ac_int (by first | assumption | rfl) (by decide) rfl (by decide) (ZI.i (by repeat (first | exact hzI.mono (by omega) | refine ZI.u ?_ (by omega) | refine ZI.s6 ?_ (by omega)))) ?_
  refine E_putF dX12_init_253 f_X12_103 rfl (by first | assumption | rfl) (by omega) rfl (Or.inr ⟨_, rfl⟩) ?_
  refine E_aload_n dX12_init_256 rfl ?_
  refine E_bp (54) dX12_init_257 (by decide) ?_
  refine E_newi (kc := 5) (ks := 18784) (L := 54) dX12_init_259 ac_int (by first | assumption | rfl) (by decide) rfl (by decide) (ZI.i (by repeat (first | exact hzI.mono (by omega) | refine ZI.u ?_ (by omega) | refine ZI.s6 ?_ (by omega)))) ?_
  refine E_putF dX12_init_261 f_X12_106 rfl (by first | assumption | rfl) (by omega) rfl (Or.inr ⟨_, rfl⟩) ?_
  refine E_aload_n dX12_init_264 rfl ?_
  refine E_sp (9261) dX12_init_265 (by decide) ?_
  refine E_newi (kc := 4) (ks := 9523) (L := 9261) dX12_init_268 ac_int (by first | assumption | rfl) (by decide) rfl (by decide) (ZI.i (by repeat (first | exact hzI.mono (by omega) | refine ZI.u ?_ (by omega) | refine ZI.s6 ?_ (by omega)))) ?_
  refine E_putF dX12_init_270 f_X12_109 rfl (by first | assumption | rfl) (by omega) rfl (Or.inr ⟨_, rfl⟩) ?_
  refine E_aload_n dX12_init_273 rfl ?_
  refine E_ic (3) dX12_init_274 (by decide) ?_
  refine E_newi (kc := 3) (ks := 9520) (L := 3) dX12_init_275 ac_int (by first | assumption | rfl) (by decide) rfl (by decide) (ZI.i (by repeat (first | exact hzI.mono (by omega) | refine ZI.u ?_ (by omega) | refine ZI.s6 ?_ (by omega)))) ?_
  refine E_putF dX12_init_277 f_X12_112 rfl (by first | assumption | rfl) (by omega) rfl (Or.inr ⟨_, rfl⟩) ?_
  refine E_aload_n dX12_init_280 rfl ?_
  refine E_ic (3) dX12_init_281 (by decide) ?_
  refine E_newi (kc := 2) (ks := 9517) (L := 3) dX12_init_282 ac_int (by first | assumption | rfl) (by decide) rfl (by decide) (ZI.i (by repeat (first | exact hzI.mono (by omega) | refine ZI.u ?_ (by omega) | refine ZI.s6 ?_ (by omega)))) ?_
  refine E_putF dX12_init_284 f_X12_115 rfl (by first | assumption | rfl) (by omega) rfl (Or.inr ⟨_, rfl⟩) ?_
  refine E_aload_n dX12_init_287 rfl ?_
  refine E_sp (9261) dX12_init_288 (by decide) ?_
  refine E_newi (kc := 1) (ks := 256) (L := 9261) dX12_init_291 ac_int (by first | assumption | rfl) (by decide) rfl (by decide) (ZI.i (by repeat (first | exact hzI.mono (by omega) | refine ZI.u ?_ (by omega) | refine ZI.s6 ?_ (by omega)))) ?_
  refine E_putF dX12_init_293 f_X12_118 rfl (by first | assumption | rfl) (by omega) rfl (Or.inr ⟨_, rfl⟩) ?_
  refine E_aload_n dX12_init_296 rfl ?_
  refine E_sp (256) dX12_init_297 (by decide) ?_
  refine E_newi (kc := 0) (ks := 0) (L := 256) dX12_init_300 ac_int (by first | assumption | rfl) (by decide) rfl (by decide) (ZI.i (by repeat (first | exact hzI.mono (by omega) | refine ZI.u ?_ (by omega) | refine ZI.s6 ?_ (by omega)))) ?_
  refine E_putF dX12_init_302 f_X12_121 rfl (by first | assumption | rfl) (by omega) rfl (Or.inr ⟨_, rfl⟩) ?_
  refine E_aload_n dX12_init_305 rfl ?_
  refine E_getR (b := 115) dX12_init_306 f_X12_7 (by first | assumption | rfl) (by omega) rfl (by first | rfl | simp [up2]) ?_
  refine E_bp (74) dX12_init_309 (by decide) ?_
  refine E_ic (1) dX12_init_311 (by decide) ?_
  refine E_iast dX12_init_312 rfl (by omega) (by unfold vp_in; decide) ?_
  refine E_aload_n dX12_init_313 rfl ?_
  refine E_getR (b := 115) dX12_init_314 f_X12_7 (by first | assumption | rfl) (by omega) rfl (by first | rfl | simp [up2]) ?_
  refine E_bp (72) dX12_init_317 (by decide) ?_
  refine E_bp (99) dX12_init_319 (by decide) ?_
  refine E_iast dX12_init_321 rfl (by omega) (by unfold vp_in; decide) ?_
  refine E_ic (0) dX12_init_322 (by decide) ?_
  refine E_istore_n dX12_init_323 (Nat.le_of_ble_eq_true rfl) ?_
  refine E_iload_n dX12_init_324 rfl ?_
  refine E_bp (12) dX12_init_325 (by decide) ?_
  refine E_icmp_ge (tgt := 347) dX12_init_327 (by decide) (fun c => absurd c (by decide)) (fun c => ?_)
  refine E_aload_n dX12_init_330 rfl ?_
  refine E_getR (b := 115) dX12_init_331 f_X12_7 (by first | assumption | rfl) (by omega) rfl (by first | rfl | simp [up2]) ?_
  refine E_bp (12) dX12_init_334 (by decide) ?_
  refine E_iload_n dX12_init_336 rfl ?_
  refine E_iadd dX12_init_337 ?_
  refine E_bp (9) dX12_init_338 (by decide) ?_
  refine E_iast dX12_init_340 rfl (by omega) (by unfold vp_in; decide) ?_
  refine E_inc (1) dX12_init_341 rfl (by decide) ?_
  refine E_goto (tgt := 324) dX12_init_344 (by decide) ?_
  refine E_iload_n dX12_init_324 rfl ?_
  refine E_bp (12) dX12_init_325 (by decide) ?_
  refine E_icmp_ge (tgt := 347) dX12_init_327 (by decide) (fun c => absurd c (by decide)) (fun c => ?_)
  refine E_aload_n dX12_init_330 rfl ?_
  refine E_getR (b := 115) dX12_init_331 f_X12_7 (by first | assumption | rfl) (by omega) rfl (by first | rfl | simp [up2]) ?_
  refine E_bp (12) dX12_init_334 (by decide) ?_
  refine E_iload_n dX12_init_336 rfl ?_
  refine E_iadd dX12_init_337 ?_
  refine E_bp (9) dX12_init_338 (by decide) ?_
  refine E_iast dX12_init_340 rfl (by omega) (by unfold vp_in; decide) ?_
  refine E_inc (1) dX12_init_341 rfl (by decide) ?_
  refine E_goto (tgt := 324) dX12_init_344 (by decide) ?_
  refine E_iload_n dX12_init_324 rfl ?_
  refine E_bp (12) dX12_init_325 (by decide) ?_
  refine E_icmp_ge (tgt := 347) dX12_init_327 (by decide) (fun c => absurd c (by decide)) (fun c => ?_)
  refine E_aload_n dX12_init_330 rfl ?_
  refine E_getR (b := 115) dX12_init_331 f_X12_7 (by first | assumption | rfl) (by omega) rfl (by first | rfl | simp [up2]) ?_
  refine E_bp (12) dX12_init_334 (by decide) ?_
  refine E_iload_n dX12_init_336 rfl ?_
  refine E_iadd dX12_init_337 ?_
  refine E_bp (9) dX12_init_338 (by decide) ?_
  refine E_iast dX12_init_340 rfl (by omega) (by unfold vp_in; decide) ?_
  refine E_inc (1) dX12_init_341 rfl (by decide) ?_
  refine E_goto (tgt := 324) dX12_init_344 (by decide) ?_
  refine E_iload_n dX12_init_324 rfl ?_
  refine E_bp (12) dX12_init_325 (by decide) ?_
  refine E_icmp_ge (tgt := 347) dX12_init_327 (by decide) (fun c => absurd c (by decide)) (fun c => ?_)
  refine E_aload_n dX12_init_330 rfl ?_
  refine E_getR (b := 115) dX12_init_331 f_X12_7 (by first | assumption | rfl) (by omega) rfl (by first | rfl | simp [up2]) ?_
  refine E_bp (12) dX12_init_334 (by decide) ?_
  refine E_iload_n dX12_init_336 rfl ?_
  refine E_iadd dX12_init_337 ?_
  refine E_bp (9) dX12_init_338 (by decide) ?_
  refine E_iast dX12_init_340 rfl (by omega) (by unfold vp_in; decide) ?_
  refine E_inc (1) dX12_init_341 rfl (by decide) ?_
  refine E_goto (tgt := 324) dX12_init_344 (by decide) ?_
  refine E_iload_n dX12_init_324 rfl ?_
  refine E_bp (12) dX12_init_325 (by decide) ?_
  refine E_icmp_ge (tgt := 347) dX12_init_327 (by decide) (fun c => absurd c (by decide)) (fun c => ?_)
  refine E_aload_n dX12_init_330 rfl ?_
  refine E_getR (b := 115) dX12_init_331 f_X12_7 (by first | assumption | rfl) (by omega) rfl (by first | rfl | simp [up2]) ?_
  refine E_bp (12) dX12_init_334 (by decide) ?_
  refine E_iload_n dX12_init_336 rfl ?_
  refine E_iadd dX12_init_337 ?_
  refine E_bp (9) dX12_init_338 (by decide) ?_
  refine E_iast dX12_init_340 rfl (by omega) (by unfold vp_in; decide) ?_
  refine E_inc (1) dX12_init_341 rfl (by decide) ?_
  refine E_goto (tgt := 324) dX12_init_344 (by decide) ?_
  refine E_iload_n dX12_init_324 rfl ?_
  refine E_bp (12) dX12_init_325 (by decide) ?_
  refine E_icmp_ge (tgt := 347) dX12_init_327 (by decide) (fun c => absurd c (by decide)) (fun c => ?_)
  refine E_aload_n dX12_init_330 rfl ?_
  refine E_getR (b := 115) dX12_init_331 f_X12_7 (by first | assumption | rfl) (by omega) rfl (by first | rfl | simp [up2]) ?_
  refine E_bp (12) dX12_init_334 (by decide) ?_
  refine E_iload_n dX12_init_336 rfl ?_
  refine E_iadd dX12_init_337 ?_
  refine E_bp (9) dX12_init_338 (by decide) ?_
  refine E_iast dX12_init_340 rfl (by omega) (by unfold vp_in; decide) ?_
  refine E_inc (1) dX12_init_341 rfl (by decide) ?_
  refine E_goto (tgt := 324) dX12_init_344 (by decide) ?_
  refine E_iload_n dX12_init_324 rfl ?_
  refine E_bp (12) dX12_init_325 (by decide) ?_
  refine E_icmp_ge (tgt := 347) dX12_init_327 (by decide) (fun c => absurd c (by decide)) (fun c => ?_)
  refine E_aload_n dX12_init_330 rfl ?_
  refine E_getR (b := 115) dX12_init_331 f_X12_7 (by first | assumption | rfl) (by omega) rfl (by first | rfl | simp [up2]) ?_
  refine E_bp (12) dX12_init_334 (by decide) ?_
  refine E_iload_n dX12_init_336 rfl ?_
  refine E_iadd dX12_init_337 ?_
  refine E_bp (9) dX12_init_338 (by decide) ?_
  refine E_iast dX12_init_340 rfl (by omega) (by unfold vp_in; decide) ?_
  refine E_inc (1) dX12_init_341 rfl (by decide) ?_
  refine E_goto (tgt := 324) dX12_init_344 (by decide) ?_
  refine E_iload_n dX12_init_324 rfl ?_
  refine E_bp (12) dX12_init_325 (by decide) ?_
  refine E_icmp_ge (tgt := 347) dX12_init_327 (by decide) (fun c => absurd c (by decide)) (fun c => ?_)
  refine E_aload_n dX12_init_330 rfl ?_
  refine E_getR (b := 115) dX12_init_331 f_X12_7 (by first | assumption | rfl) (by omega) rfl (by first | rfl | simp [up2]) ?_
  refine E_bp (12) dX12_init_334 (by decide) ?_
  refine E_iload_n dX12_init_336 rfl ?_
  refine E_iadd dX12_init_337 ?_
  refine E_bp (9) dX12_init_338 (by decide) ?_
  refine E_iast dX12_init_340 rfl (by omega) (by unfold vp_in; decide) ?_
  refine E_inc (1) dX12_init_341 rfl (by decide) ?_
  refine E_goto (tgt := 324) dX12_init_344 (by decide) ?_
  refine E_iload_n dX12_init_324 rfl ?_
  refine E_bp (12) dX12_init_325 (by decide) ?_
  refine E_icmp_ge (tgt := 347) dX12_init_327 (by decide) (fun c => absurd c (by decide)) (fun c => ?_)
  refine E_aload_n dX12_init_330 rfl ?_
  refine E_getR (b := 115) dX12_init_331 f_X12_7 (by first | assumption | rfl) (by omega) rfl (by first | rfl | simp [up2]) ?_
  refine E_bp (12) dX12_init_334 (by decide) ?_
  refine E_iload_n dX12_init_336 rfl ?_
  refine E_iadd dX12_init_337 ?_
  refine E_bp (9) dX12_init_338 (by decide) ?_
  refine E_iast dX12_init_340 rfl (by omega) (by unfold vp_in; decide) ?_
  refine E_inc (1) dX12_init_341 rfl (by decide) ?_
  refine E_goto (tgt := 324) dX12_init_344 (by decide) ?_
  refine E_iload_n dX12_init_324 rfl ?_
  refine E_bp (12) dX12_init_325 (by decide) ?_
  refine E_icmp_ge (tgt := 347) dX12_init_327 (by decide) (fun c => absurd c (by decide)) (fun c => ?_)
  refine E_aload_n dX12_init_330 rfl ?_
  refine E_getR (b := 115) dX12_init_331 f_X12_7 (by first | assumption | rfl) (by omega) rfl (by first | rfl | simp [up2]) ?_
  refine E_bp (12) dX12_init_334 (by decide) ?_
  refine E_iload_n dX12_init_336 rfl ?_
  refine E_iadd dX12_init_337 ?_
  refine E_bp (9) dX12_init_338 (by decide) ?_
  refine E_iast dX12_init_340 rfl (by omega) (by unfold vp_in; decide) ?_
  refine E_inc (1) dX12_init_341 rfl (by decide) ?_
  refine E_goto (tgt := 324) dX12_init_344 (by decide) ?_
  refine E_iload_n dX12_init_324 rfl ?_
  refine E_bp (12) dX12_init_325 (by decide) ?_
  refine E_icmp_ge (tgt := 347) dX12_init_327 (by decide) (fun c => absurd c (by decide)) (fun c => ?_)
  refine E_aload_n dX12_init_330 rfl ?_
  refine E_getR (b := 115) dX12_init_331 f_X12_7 (by first | assumption | rfl) (by omega) rfl (by first | rfl | simp [up2]) ?_
  refine E_bp (12) dX12_init_334 (by decide) ?_
  refine E_iload_n dX12_init_336 rfl ?_
  refine E_iadd dX12_init_337 ?_
  refine E_bp (9) dX12_init_338 (by decide) ?_
  refine E_iast dX12_init_340 rfl (by omega) (by unfold vp_in; decide) ?_
  refine E_inc (1) dX12_init_341 rfl (by decide) ?_
  refine E_goto (tgt := 324) dX12_init_344 (by decide) ?_
  refine E_iload_n dX12_init_324 rfl ?_
  refine E_bp (12) dX12_init_325 (by decide) ?_
  refine E_icmp_ge (tgt := 347) dX12_init_327 (by decide) (fun c => absurd c (by decide)) (fun c => ?_)
  refine E_aload_n dX12_init_330 rfl ?_
  refine E_getR (b := 115) dX12_init_331 f_X12_7 (by first | assumption | rfl) (by omega) rfl (by first | rfl | simp [up2]) ?_
  refine E_bp (12) dX12_init_334 (by decide) ?_
  refine E_iload_n dX12_init_336 rfl ?_
  refine E_iadd dX12_init_337 ?_
  refine E_bp (9) dX12_init_338 (by decide) ?_
  refine E_iast dX12_init_340 rfl (by omega) (by unfold vp_in; decide) ?_
  refine E_inc (1) dX12_init_341 rfl (by decide) ?_
  refine E_goto (tgt := 324) dX12_init_344 (by decide) ?_
  refine E_iload_n dX12_init_324 rfl ?_
  refine E_bp (12) dX12_init_325 (by decide) ?_
  refine E_icmp_ge (tgt := 347) dX12_init_327 (by decide) (fun c => ?_) (fun c => absurd (by decide) c)
  exact E_ret dX12_init_347 rfl hQ
end PCtor
