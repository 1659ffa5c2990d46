/-! ===== plan: the class's call ===== -/
def FL (I I' : IM) : Prop := ∀ x, x < 152 → x ≠ 9 → x ≠ 10 → x ≠ 22 → x ≠ 23 → x ≠ 37 → x ≠ 38 → I' x = I x
abbrev zr (I : IM) : IM := fun a => if a < 152 then I a else fun _ => 0
theorem zr_s (I : IM) {a : Nat} (h : a < 152) : zr I a = I a := if_pos h
section PPlanX
variable {g : GL} {d n : Nat} {I : IM} {J : JM} {R : RM} {Q : PQ} {k LN T : Nat} {Y S D : FN} {q : LWD}
set_option maxRecDepth 100000 in
set_option maxHeartbeats 2000000 in
theorem x_seekA (hR : RS R) (hk : k < 12) (hq : LWF q) (hLN : LN ≤ 24) (hT : T ≤ 24) (hO : okD LN D) (h5 : D 5 = 0) (hX : BXc k LN Y S q I R) (hD : BDc D I) (hw : R 37 1 = some 152) (hF : ∀ I2 : IM, FL I I2 → ¬ (srP (nxP q k LN Y S) (ouP q k LN Y S T) (brP q k LN Y S) (skB D) 49500).2 = 0 → I2 37 3 = nI (((srP (nxP q k LN Y S) (ouP q k LN Y S T) (brP q k LN Y S) (skB D) 49500).2 - 1) / 8) → I2 37 4 = nI (((srP (nxP q k LN Y S) (ouP q k LN Y S T) (brP q k LN Y S) (skB D) 49500).2 - 1) % 8) → Q (some (.int (nI 1))) 153 I2 J R) (hE : ∀ I2 : IM, FL I I2 → (srP (nxP q k LN Y S) (ouP q k LN Y S T) (brP q k LN Y S) (skB D) 49500).2 = 0 → Q (some (.int (nI 0))) 153 I2 J R) : E g mX6_seek (d + 7) 0 0 0 (ent 6 [.ref 37, .ref 22, .int (nI T)]) [] 153 I J R Q := by
  have hN : 153 ≤ 153 := Nat.le_refl _
  refine E_aload_n dX6_seek_0 rfl ?_
  refine E_getR dX6_seek_1 f_X6_15 rfl (Nat.lt_of_lt_of_le (by decide) hN) rfl hw ?_
  refine E_alen dX6_seek_4 rfl (Nat.lt_of_lt_of_le (by decide) hN) (by decide) (by decide) ?_
  refine E.top (show _ = nI 49500 from rfl) ?_
  refine E_zN_ne (a := 49500) (tgt := 16) dX6_seek_5 (by decide) (by decide) (fun cw5 => ?_) (fun cw5 => absurd cw5 (by omega))
  exact x_seek16 (d := d) rfl hR hw hk hq hLN hT hO h5 hX hD (fun I2 f2 => hF I2 (fun x z a b c d e f => f2 x a b c d e f (by omega))) (fun I2 f2 => hE I2 (fun x z a b c d e f => f2 x a b c d e f (by omega)))
set_option maxRecDepth 100000 in
set_option maxHeartbeats 2000000 in
theorem x_seekB (hR : RS R) (hk : k < 12) (hq : LWF q) (hLN : LN ≤ 24) (hT : T ≤ 24) (hO : okD LN D) (h5 : D 5 = 0) (hX : BXc k LN Y S q I R) (hD : BDc D I) (hw : R 37 1 = some 39) (hF : ∀ I2 : IM, FL I I2 → ¬ (srP (nxP q k LN Y S) (ouP q k LN Y S T) (brP q k LN Y S) (skB D) 49500).2 = 0 → I2 37 3 = nI (((srP (nxP q k LN Y S) (ouP q k LN Y S T) (brP q k LN Y S) (skB D) 49500).2 - 1) / 8) → I2 37 4 = nI (((srP (nxP q k LN Y S) (ouP q k LN Y S T) (brP q k LN Y S) (skB D) 49500).2 - 1) % 8) → Q (some (.int (nI 1))) 153 I2 J (up2 R 37 1 (some 152))) (hE : ∀ I2 : IM, FL I I2 → (srP (nxP q k LN Y S) (ouP q k LN Y S T) (brP q k LN Y S) (skB D) 49500).2 = 0 → Q (some (.int (nI 0))) 153 I2 J (up2 R 37 1 (some 152))) : E g mX6_seek (d + 7) 1 49500 0 (ent 6 [.ref 37, .ref 22, .int (nI T)]) [] 152 I J R Q := by
  have hN : 152 ≤ 152 := Nat.le_refl _
  refine E.agree (I2 := zr I) (fun a ha => zr_s I ha) ?_
  have hX0 : BXc k LN Y S q (zr I) R := ⟨hX.1, hX.2.1, (congrFun (zr_s I (by decide)) 3).trans hX.2.2.1, (congrFun (zr_s I (by omega)) 4).trans hX.2.2.2.1, fun i hi => by rw [zr_s I (show 55 + 5 * k < 152 by omega), zr_s I (show 56 + 5 * k < 152 by omega)]; exact hX.2.2.2.2.1 i hi, hX.2.2.2.2.2.keep (fun a a1 a2 => zr_s I (by omega))⟩
  have hX1 : BXc k LN Y S q (zr I) (up2 R 37 1 (some 152)) := ⟨(congrFun (up2_o R 37 1 _ 22 (by decide)) 1).trans hX0.1, (congrFun (up2_o R 37 1 _ 22 (by decide)) 2).trans hX0.2.1, hX0.2.2⟩
  refine E_aload_n dX6_seek_0 rfl ?_
  refine E_getR dX6_seek_1 f_X6_15 rfl (Nat.lt_of_lt_of_le (by decide) hN) rfl hw ?_
  refine E_alen dX6_seek_4 rfl (Nat.lt_of_lt_of_le (by decide) hN) (by decide) (by decide) ?_
  refine E.top (show _ = nI 0 from rfl) ?_
  refine E_zN_ne (a := 0) (tgt := 16) dX6_seek_5 (by decide) (by decide) (fun cw5 => absurd cw5 (by omega)) (fun cw5 => ?_)
  refine E_aload_n dX6_seek_8 rfl ?_
  refine E_ldc (nI 49500) dX6_seek_9 k_X6_28 ?_
  refine E_newi (n := 152) (L := 49500) (kc := 0) (ks := 0) dX6_seek_11 ac_int rfl (by decide) (by decide) (by decide) (fun _ => rfl) ?_
  have hN : 153 ≤ 152 + 1 := Nat.le_refl _
  refine E_putR dX6_seek_13 f_X6_15 rfl (Nat.lt_of_lt_of_le (by decide) hN) rfl (Or.inr ⟨_, rfl⟩) ?_
  exact x_seek16 (n := 153) (d := d) rfl (RS.up hR rfl) (up2_s _ _ _ _) hk hq hLN hT hO h5 hX1 (hD.row (zr_s I (by decide)) (zr_s I (by decide))) (fun I2 f2 => hF I2 (fun x z a b c d e f => (f2 x a b c d e f (by omega)).trans (zr_s I z))) (fun I2 f2 => hE I2 (fun x z a b c d e f => (f2 x a b c d e f (by omega)).trans (zr_s I z)))
end PPlanX
