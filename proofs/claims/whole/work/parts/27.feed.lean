/-! ===== feed ===== -/
/-- the byte of a word that begins at the bit s -/
def byteN (x : Int32) (s : Nat) : Nat := x.toBitVec.toNat / 2 ^ s % 256
theorem byteN_lt (x : Int32) (s : Nat) : byteN x s < 256 := Nat.mod_lt _ (by decide)
theorem by_x (x : Int32) (j : Nat) (hj : j < 4) : (x.toUInt32 >>> ((nI (8 * j)).toUInt32 &&& Int32.toUInt32 31)).toInt32 &&& nI 255 = nI (byteN x (8 * j)) := by
  have key : ∀ j, j < 4 → (((nI (8 * j)).toUInt32 &&& Int32.toUInt32 31).toBitVec % 32).toNat = 8 * j := by decide
  rw [pk_and _ 8 (by decide), pk_ushr x (nI (8 * j)) (8 * j) (key j hj)]
  rfl
theorem b8 (y : Int32) : y.toInt8.toInt32 &&& 255 = y &&& 255 := by
  apply Int32.toBitVec_inj.mp
  rw [Int32.toBitVec_and, Int32.toBitVec_and, Int8.toBitVec_toInt32, Int32.toBitVec_toInt8]
  apply BitVec.eq_of_getLsbD_eq
  intro i hi
  have h2 : (Int32.toBitVec 255).getLsbD i = decide (i < 8) := by
    have : ∀ i, i < 32 → (Int32.toBitVec 255).getLsbD i = decide (i < 8) := by decide
    exact this i hi
  rw [BitVec.getLsbD_and, BitVec.getLsbD_and, h2, BitVec.getLsbD_signExtend]
  by_cases h : i < 8
  · rw [if_pos h, BitVec.getLsbD_signExtend, if_pos hi, decide_eq_true h, decide_eq_true hi]
    simp
  · rw [decide_eq_false h]
    simp
theorem shz {a b k : Nat} {zi xi : Int} (hk : k = 0 ∨ k = 8 ∨ k = 16 ∨ k = 24) (ha : a < 2 ^ 32) (hb : b < 2 ^ 32) (h1 : zi = xi / ((2 ^ k : Nat) : Int)) (ex : xi = if 2 * b < 2 ^ 32 then (b : Int) else (b : Int) - (2 ^ 32 : Nat)) (ez : zi = if 2 * a < 2 ^ 32 then (a : Int) else (a : Int) - (2 ^ 32 : Nat)) : a % 256 = b / 2 ^ k % 256 := by
  rcases hk with rfl | rfl | rfl | rfl <;> split at ex <;> split at ez <;> omega
theorem by_m (x : Int32) (j : Nat) (hj : j < 4) : (x >>> (nI (8 * j) &&& 31)).toInt8.toInt32.toInt8.toInt32 &&& 255 = nI (byteN x (8 * j)) := by
  have key : ∀ j, j < 4 → ((nI (8 * j) &&& 31).toBitVec.smod 32).toNat = 8 * j := by decide
  have h1 := pk_shr x (nI (8 * j) &&& 31) (8 * j) (key j hj)
  rw [b8, b8]
  generalize x >>> (nI (8 * j) &&& 31) = z at h1 ⊢
  rw [pk_and z (m := 255) 8 (by decide)]
  refine congrArg nI ?_
  rw [Int.shiftRight_eq_div_pow] at h1
  exact shz (by omega) z.toBitVec.isLt x.toBitVec.isLt h1 (BitVec.toInt_eq_toNat_cond x.toBitVec) (BitVec.toInt_eq_toNat_cond z.toBitVec)
/-- q numbers c laid from the place t on in the cell A; the field F of B counts them -/
def tpg (A B F : Nat) (I : IM) (t q : Nat) (c : Nat → Int32) : IM := fun x y => if x = A ∧ t ≤ y ∧ y < t + q then c (y - t) else if x = B ∧ y = F then nI (t + q) else I x y
theorem tpg_B {A B F : Nat} (h : A ≠ B) (I : IM) (t q : Nat) (c : Nat → Int32) : tpg A B F I t q c B F = nI (t + q) := (if_neg (fun z => h z.1.symm)).trans (if_pos ⟨rfl, rfl⟩)
theorem tpg_o {A B F : Nat} (I : IM) (t q : Nat) (c : Nat → Int32) {x : Nat} (h1 : x ≠ A) (h2 : x ≠ B) : tpg A B F I t q c x = I x := funext fun y => (if_neg (fun z => h1 z.1)).trans (if_neg (fun z => h2 z.1))
theorem tpg_0 {A B F : Nat} (I : IM) {t : Nat} (c : Nat → Int32) (h : I B F = nI t) : tpg A B F I t 0 c = I := by
  funext x y
  unfold tpg
  rw [if_neg (fun z => by omega)]
  by_cases e : x = B ∧ y = F
  · rw [if_pos e, e.1, e.2, h, Nat.add_zero]
  · rw [if_neg e]
theorem tpg_s {A B F : Nat} (h : A ≠ B) (I : IM) (t q : Nat) (c : Nat → Int32) {v : Int32} (hv : v = c q) : up2 (up2 (tpg A B F I t q c) A (t + q) v) B F (nI (t + q + 1)) = tpg A B F I t (q + 1) c := by
  subst hv
  funext x y
  by_cases e : x = B ∧ y = F
  · obtain ⟨rfl, rfl⟩ := e
    rw [up2_s, tpg_B h, Nat.add_assoc]
  · have h1 : ∀ (f : IM) (v : Int32), up2 f B F v x y = f x y := fun f v => if_neg e
    rw [h1]
    unfold tpg
    by_cases e2 : x = A ∧ y = t + q
    · obtain ⟨rfl, rfl⟩ := e2
      rw [up2_s, if_pos ⟨rfl, by omega, by omega⟩, show t + q - t = q by omega]
    · have h2 : ∀ (f : IM) (v : Int32), up2 f A (t + q) v x y = f x y := fun f v => if_neg e2
      rw [h2, if_neg e, if_neg e]
      by_cases e3 : x = A ∧ t ≤ y ∧ y < t + q
      · rw [if_pos e3, if_pos ⟨e3.1, e3.2.1, by omega⟩]
      · rw [if_neg e3, if_neg (fun z => e3 ⟨z.1, z.2.1, by have := fun q => e2 ⟨z.1, q⟩; omega⟩)]
def ws5 (a b c d e : Int32) : Nat → Int32
  | 0 => a
  | 1 => b
  | 2 => c
  | 3 => d
  | _ => e
/-- the bytes of a row of words; as the reference holds them -/
def byW (ws : Nat → Int32) (i : Nat) : Nat := byteN (ws (i / 4)) (8 * (3 - i % 4))
def byM (ws : Nat → Int32) (i : Nat) : Int32 := (ws (i / 4) >>> (nI (8 * (3 - i % 4)) &&& 31)).toInt8.toInt32.toInt8.toInt32
theorem byM_W (ws : Nat → Int32) (i : Nat) : byM ws i &&& 255 = nI (byW ws i) := by_m _ _ (by omega)
def u_feed (a b c d e : Int32) (σ : ST) : ST := if σ 9 0 0 + 20 ≤ 260 then ups (ups σ 9 (fun _ _ => σ 9 0 0 + 20)) 8 (fun j _ => if σ 9 0 0 ≤ j ∧ j < σ 9 0 0 + 20 then byW (ws5 a b c d e) (j - σ 9 0 0) else σ 8 j 0) else σ
def r_feed (σ : ST) : Value := .int (if σ 9 0 0 + 20 ≤ 260 then nI (σ 9 0 0 + 20) else -1)
theorem b_feed (a b c d e : Int32) : ∀ σ, BND σ → BND (u_feed a b c d e σ) := by
  intro σ h
  unfold u_feed
  by_cases hc : σ 9 0 0 + 20 ≤ 260
  · rw [if_pos hc]
    obtain ⟨h1, h2, h3, h4, h5, h6, h7⟩ := h
    refine ⟨h1, h2, h3, h4, fun j hj => ?_, hc, h7⟩
    have hj : j < σ 9 0 0 + 20 := hj
    show (if σ 9 0 0 ≤ j ∧ j < σ 9 0 0 + 20 then byW (ws5 a b c d e) (j - σ 9 0 0) else σ 8 j 0) < 256
    by_cases c : σ 9 0 0 ≤ j ∧ j < σ 9 0 0 + 20
    · rw [if_pos c]
      exact byteN_lt _ _
    · rw [if_neg c]
      exact h5 j (by omega)
  · rw [if_neg hc]
    exact h
/-- a shift by 8 less: from 24 on, at last -8 -/
def sh8 : Nat → Int32
  | 0 => -8
  | j + 1 => nI (8 * j)
theorem sh8_m (j : Nat) (hj : j < 4) : nI (8 * j) + (-8) = sh8 j := by
  have : ∀ j, j < 4 → nI (8 * j) + (-8) = sh8 j := by decide
  exact this j hj
section PFeed
variable {g : GL} {d n : Nat} {I : IM} {J : JM} {R : RM} {Q : PQ} {σ : ST}
set_option maxRecDepth 100000 in
set_option maxHeartbeats 2000000 in
theorem x_putBytes {ws : Nat → Int32} {t w : Nat} (hN : 152 ≤ n) (hR : RS R) (ht : t + 20 ≤ 260) (hw : w < 5) (hQ : Q none n (tpg 2 0 2 I t (4 * w + 4) (fun i => nI (byW ws i))) J R) : E g mX11_putBytes d 0 0 0 (ent 3 [.ref 0, .int (ws w)]) [] n (tpg 2 0 2 I t (4 * w) (fun i => nI (byW ws i))) J R Q := by
  have L : ∀ j, j ≤ 4 → E g mX11_putBytes d 0 0 3 [.ref 0, .int (ws w), .int (sh8 j)] [] n (tpg 2 0 2 I t (4 * w + (4 - j)) (fun i => nI (byW ws i))) J R Q := by
    refine loopD ?_ (fun j ih hj => ?_)
    · intro _
      refine E_iload_n dX11_putBytes_3 rfl ?_
      refine E_if_lt (tgt := 49) dX11_putBytes_4 (by decide) (fun c4 => ?_) (fun c4 => by first | exact absurd c4 ((by decide)) | exact absurd ((by decide)) c4)
      exact E_ret dX11_putBytes_49 rfl (by exact hQ)
    · have ih := ih (by omega)
      rw [show 4 - (j + 1) = 3 - j by omega]
      refine E.locD ?_
      refine E_iload_n dX11_putBytes_3 rfl ?_
      refine E_zN_lt (a := 8 * j) (tgt := 49) dX11_putBytes_4 (by omega) (by decide) (fun c4 => c4.elim) (fun c4 => ?_)
      refine E_aload_n dX11_putBytes_7 rfl ?_
      refine E_getI dX11_putBytes_8 f_X11_19 rfl (Nat.lt_of_lt_of_le (by decide) hN) rfl ?_
      refine E.top (tpg_B (by decide) I t (4 * w + (3 - j)) (fun i => nI (byW ws i))) ?_
      refine E_sp (nI 260) dX11_putBytes_11 (by decide) ?_
      refine E_cN_ge (a := t + (4 * w + (3 - j))) (b := 260) (tgt := 43) dX11_putBytes_14 (by omega) (by decide) (by decide) (fun c14 => absurd c14 (by omega)) (fun c14 => ?_)
      refine E_aload_n dX11_putBytes_17 rfl ?_
      refine E_getR dX11_putBytes_18 f_X11_15 rfl (Nat.lt_of_lt_of_le (by decide) hN) rfl (hR _ _ _ rfl) ?_
      refine E_aload_n dX11_putBytes_21 rfl ?_
      refine E_getI dX11_putBytes_22 f_X11_19 rfl (Nat.lt_of_lt_of_le (by decide) hN) rfl ?_
      refine E.top (tpg_B (by decide) I t (4 * w + (3 - j)) (fun i => nI (byW ws i))) ?_
      refine E_iload_n dX11_putBytes_25 rfl ?_
      refine E_iload_n dX11_putBytes_26 rfl ?_
      refine E_iushr dX11_putBytes_27 ?_
      refine E_sp (nI 255) dX11_putBytes_28 (by decide) ?_
      refine E_iand dX11_putBytes_31 ?_
      refine E.top (by_x (ws w) j (by omega)) ?_
      refine E_iastN dX11_putBytes_32 rfl (Nat.lt_of_lt_of_le (by decide) hN) (by first | assumption | omega) ?_
      refine E_aload_n dX11_putBytes_33 rfl ?_
      refine E_dup dX11_putBytes_34 rfl ?_
      refine E_getI dX11_putBytes_35 f_X11_19 rfl (Nat.lt_of_lt_of_le (by decide) hN) rfl ?_
      refine E.top ((up2_a _ _ (by decide)).trans (tpg_B (by decide) I t (4 * w + (3 - j)) (fun i => nI (byW ws i)))) ?_
      refine E_ic (nI 1) dX11_putBytes_38 (by decide) ?_
      refine E_iadd dX11_putBytes_39 ?_
      refine E.top (nI_add (t + (4 * w + (3 - j))) 1) ?_
      refine E_putI dX11_putBytes_40 f_X11_19 rfl (Nat.lt_of_lt_of_le (by decide) hN) rfl ?_
      refine E.mem (tpg_s (by decide) I t (4 * w + (3 - j)) (fun i => nI (byW ws i)) (v := nI (byteN (ws w) (8 * j))) (congrArg nI (by unfold byW; rw [show (4 * w + (3 - j)) / 4 = w by omega, show 3 - (4 * w + (3 - j)) % 4 = j by omega]))) ?_
      refine E_inc (-8) dX11_putBytes_43 rfl (by decide) ?_
      refine E_goto (tgt := 3) dX11_putBytes_46 (by decide) ?_
      rw [← sh8_m j (by omega), show 4 - j = (3 - j) + 1 by omega] at ih
      exact ih
  refine E_bp (nI 24) dX11_putBytes_0 (by decide) ?_
  refine E_istore_n dX11_putBytes_2 (Nat.le_of_ble_eq_true rfl) ?_
  exact L 4 (by omega)
set_option maxRecDepth 100000 in
set_option maxHeartbeats 2000000 in
theorem m_types {ws : Nat → Int32} {t w : Nat} (hN : 152 ≤ n) (hR : RS R) (ht : t + 20 ≤ 260) (hw : w < 5) (hQ : Q none n (tpg 121 114 7 I t (4 * w + 4) (byM ws)) J R) : E g mX12_types d 0 0 0 (ent 3 [.ref 114, .int (ws w)]) [] n (tpg 121 114 7 I t (4 * w) (byM ws)) J R Q := by
  have L : ∀ j, j ≤ 4 → E g mX12_types d 0 0 2 [.ref 114, .int (ws w), .int (dnI j)] [] n (tpg 121 114 7 I t (4 * w + (4 - j)) (byM ws)) J R Q := by
    refine loopD ?_ (fun j ih hj => ?_)
    · intro _
      refine E_iload_n dX12_types_2 rfl ?_
      refine E_if_lt (tgt := 38) dX12_types_3 (by decide) (fun c3 => ?_) (fun c3 => by first | exact absurd c3 ((by decide)) | exact absurd ((by decide)) c3)
      exact E_ret dX12_types_38 rfl (by exact hQ)
    · have ih := ih (by omega)
      rw [show 4 - (j + 1) = 3 - j by omega]
      refine E.locD ?_
      refine E_iload_n dX12_types_2 rfl ?_
      refine E_zN_lt (a := j) (tgt := 38) dX12_types_3 (by omega) (by decide) (fun c3 => c3.elim) (fun c3 => ?_)
      refine E_aload_n dX12_types_6 rfl ?_
      refine E_getR dX12_types_7 f_X12_28 rfl (Nat.lt_of_lt_of_le (by decide) hN) rfl (hR _ _ _ rfl) ?_
      refine E_aload_n dX12_types_10 rfl ?_
      refine E_getI dX12_types_11 f_X12_128 rfl (Nat.lt_of_lt_of_le (by decide) hN) rfl ?_
      refine E.top (tpg_B (by decide) I t (4 * w + (3 - j)) (byM ws)) ?_
      refine E_iload_n dX12_types_14 rfl ?_
      refine E_bp (nI 8) dX12_types_15 (by decide) ?_
      refine E_iload_n dX12_types_17 rfl ?_
      refine E_imul dX12_types_18 ?_
      refine E.top (pk_mul 8 j) ?_
      refine E_ishr dX12_types_19 ?_
      refine E_i2b dX12_types_20 ?_
      refine E_bastN dX12_types_21 rfl (Nat.lt_of_lt_of_le (by decide) hN) (by first | assumption | omega) ?_
      refine E_aload_n dX12_types_22 rfl ?_
      refine E_aload_n dX12_types_23 rfl ?_
      refine E_getI dX12_types_24 f_X12_128 rfl (Nat.lt_of_lt_of_le (by decide) hN) rfl ?_
      refine E.top ((up2_a _ _ (by decide)).trans (tpg_B (by decide) I t (4 * w + (3 - j)) (byM ws))) ?_
      refine E_ic (nI 1) dX12_types_27 (by decide) ?_
      refine E_iadd dX12_types_28 ?_
      refine E.top (nI_add (t + (4 * w + (3 - j))) 1) ?_
      refine E_putI dX12_types_29 f_X12_128 rfl (Nat.lt_of_lt_of_le (by decide) hN) rfl ?_
      refine E.mem (tpg_s (by decide) I t (4 * w + (3 - j)) (byM ws) (by unfold byM; rw [show (4 * w + (3 - j)) / 4 = w by omega, show 3 - (4 * w + (3 - j)) % 4 = j by omega])) ?_
      refine E_inc (-1) dX12_types_32 rfl (by decide) ?_
      refine E_goto (tgt := 2) dX12_types_35 (by decide) ?_
      rw [← dn_m1 j, show 4 - j = (3 - j) + 1 by omega] at ih
      exact ih
  refine E_ic (nI 3) dX12_types_0 (by decide) ?_
  refine E_istore_n dX12_types_1 (Nat.le_of_ble_eq_true rfl) ?_
  exact L 4 (by omega)
set_option maxRecDepth 100000 in
set_option maxHeartbeats 2000000 in
theorem sx_feed (a b c d e : Int32) : SX mX11_feed [.int a, .int b, .int c, .int d, .int e] r_feed (u_feed a b c d e) := by
  intro g n I J R σ Q hB hX hQ
  have hN := hX.2.2.2.1.n.1
  have hR := hX.2.2.2.1.1
  have b9 : σ 9 0 0 ≤ 260 := hB.2.2.2.2.2.1
  have e9 := hX.2.1.1
  unfold r_feed u_feed at hQ
  refine E_aload_n dX11_feed_0 rfl ?_
  refine E_getI dX11_feed_1 f_X11_19 rfl (Nat.lt_of_lt_of_le (by decide) hN) rfl ?_
  refine E.top (hX.2.1.1) ?_
  refine E_bp (nI 20) dX11_feed_4 (by decide) ?_
  refine E_iadd dX11_feed_6 ?_
  refine E.top (nI_add (σ 9 0 0) 20) ?_
  refine E_sp (nI 260) dX11_feed_7 (by decide) ?_
  refine E_cN_le (a := (σ 9 0 0) + 20) (b := 260) (tgt := 15) dX11_feed_10 (by omega) (by decide) (by decide) (fun c10 => ?_) (fun c10 => ?_)
  · have ht : σ 9 0 0 + 20 ≤ 260 := c10
    rw [if_pos ht, if_pos ht] at hQ
    have hq := hQ (tpg 2 0 2 I (σ 9 0 0) 20 (fun i => nI (byW (ws5 a b c d e) i))) J ?_ (fun x x1 x2 => tpg_o I _ _ _ (by omega) (by omega)) (fun x x1 x2 => tpg_o I _ _ _ (by omega) (by omega))
    rotate_left
    · obtain ⟨h1, ⟨k1, k2, k3, k4, k5, k6⟩, h3, h4, h5⟩ := hX
      refine ⟨h1.congr (fun x _ _ => tpg_o I _ _ _ (by omega) (by omega)), ⟨rfl, k2, k3, k4, k5, k6⟩, fun j hj => ?_, h4, h5.congr (fun x _ _ => tpg_o I _ _ _ (by omega) (by omega))⟩
      have hj : j < σ 9 0 0 + 20 := hj
      show (if 2 = 2 ∧ σ 9 0 0 ≤ j ∧ j < σ 9 0 0 + 20 then nI (byW (ws5 a b c d e) (j - σ 9 0 0)) else if 2 = 0 ∧ j = 2 then nI (σ 9 0 0 + 20) else I 2 j) = nI (if σ 9 0 0 ≤ j ∧ j < σ 9 0 0 + 20 then byW (ws5 a b c d e) (j - σ 9 0 0) else σ 8 j 0)
      by_cases c : σ 9 0 0 ≤ j ∧ j < σ 9 0 0 + 20
      · rw [if_pos ⟨rfl, c⟩, if_pos c]
      · rw [if_neg (fun z => c z.2), if_neg (fun z => absurd z.1 (by decide)), if_neg c]
        exact h3 j (by omega)
    refine E.mem (tpg_0 (A := 2) I (fun i => nI (byW (ws5 a b c d e) i)) e9).symm ?_
    refine E_aload_n dX11_feed_15 rfl ?_
    refine E_iload_n dX11_feed_16 rfl ?_
    refine E_callV (As := [_]) (ci := 10) (kc' := 0) (ks' := 0) (kc := 0) (ks := 0) dX11_feed_17 ok_X11_putBytes w_X11_109 i_X11_putBytes s_X11_putBytes rfl (by decide) rfl (Nat.lt_of_lt_of_le (by decide) hN) rfl rfl rfl (Nat.le_of_ble_eq_true rfl) (Nat.le_of_ble_eq_true rfl) (Nat.le_refl _) (x_putBytes (d := 899) (ws := (ws5 a b c d e)) (t := σ 9 0 0) (w := 0) hN hR ht (by decide) ?_)
    refine E_aload_n dX11_feed_20 rfl ?_
    refine E_iload_n dX11_feed_21 rfl ?_
    refine E_callV (As := [_]) (ci := 10) (kc' := 0) (ks' := 0) (kc := 0) (ks := 0) dX11_feed_22 ok_X11_putBytes w_X11_109 i_X11_putBytes s_X11_putBytes rfl (by decide) rfl (Nat.lt_of_lt_of_le (by decide) hN) rfl rfl rfl (Nat.le_of_ble_eq_true rfl) (Nat.le_of_ble_eq_true rfl) (Nat.le_refl _) (x_putBytes (d := 899) (ws := (ws5 a b c d e)) (t := σ 9 0 0) (w := 1) hN hR ht (by decide) ?_)
    refine E_aload_n dX11_feed_25 rfl ?_
    refine E_iload_n dX11_feed_26 rfl ?_
    refine E_callV (As := [_]) (ci := 10) (kc' := 0) (ks' := 0) (kc := 0) (ks := 0) dX11_feed_27 ok_X11_putBytes w_X11_109 i_X11_putBytes s_X11_putBytes rfl (by decide) rfl (Nat.lt_of_lt_of_le (by decide) hN) rfl rfl rfl (Nat.le_of_ble_eq_true rfl) (Nat.le_of_ble_eq_true rfl) (Nat.le_refl _) (x_putBytes (d := 899) (ws := (ws5 a b c d e)) (t := σ 9 0 0) (w := 2) hN hR ht (by decide) ?_)
    refine E_aload_n dX11_feed_30 rfl ?_
    refine E_iload dX11_feed_31 rfl ?_
    refine E_callV (As := [_]) (ci := 10) (kc' := 0) (ks' := 0) (kc := 0) (ks := 0) dX11_feed_33 ok_X11_putBytes w_X11_109 i_X11_putBytes s_X11_putBytes rfl (by decide) rfl (Nat.lt_of_lt_of_le (by decide) hN) rfl rfl rfl (Nat.le_of_ble_eq_true rfl) (Nat.le_of_ble_eq_true rfl) (Nat.le_refl _) (x_putBytes (d := 899) (ws := (ws5 a b c d e)) (t := σ 9 0 0) (w := 3) hN hR ht (by decide) ?_)
    refine E_aload_n dX11_feed_36 rfl ?_
    refine E_iload dX11_feed_37 rfl ?_
    refine E_callV (As := [_]) (ci := 10) (kc' := 0) (ks' := 0) (kc := 0) (ks := 0) dX11_feed_39 ok_X11_putBytes w_X11_109 i_X11_putBytes s_X11_putBytes rfl (by decide) rfl (Nat.lt_of_lt_of_le (by decide) hN) rfl rfl rfl (Nat.le_of_ble_eq_true rfl) (Nat.le_of_ble_eq_true rfl) (Nat.le_refl _) (x_putBytes (d := 899) (ws := (ws5 a b c d e)) (t := σ 9 0 0) (w := 4) hN hR ht (by decide) ?_)
    refine E_aload_n dX11_feed_42 rfl ?_
    refine E_getI dX11_feed_43 f_X11_19 rfl (Nat.lt_of_lt_of_le (by decide) hN) rfl ?_
    refine E.top (tpg_B (by decide) I (σ 9 0 0) 20 (fun i => nI (byW (ws5 a b c d e) i))) ?_
    exact E_iret dX11_feed_46 rfl (hq)
  · rw [if_neg (by omega), if_neg (by omega)] at hQ
    have hq := hQ I J hX (fun _ _ _ => rfl) (fun _ _ _ => rfl)
    refine E_ic (-1) dX11_feed_13 (by decide) ?_
    exact E_iret dX11_feed_14 rfl (hq)
set_option maxRecDepth 100000 in
set_option maxHeartbeats 2000000 in
theorem sm_feed (a b c d e : Int32) : SM mX12_feed [.int a, .int b, .int c, .int d, .int e] r_feed (u_feed a b c d e) := by
  intro g n I J R σ Q hB hM hN hR hQ
  have b9 : σ 9 0 0 ≤ 260 := hB.2.2.2.2.2.1
  have e9 := hM.2.2.2.1.1
  unfold r_feed u_feed at hQ
  refine E_aload_n dX12_feed_0 rfl ?_
  refine E_getI dX12_feed_1 f_X12_128 rfl (Nat.lt_of_lt_of_le (by decide) hN) rfl ?_
  refine E.top (hM.2.2.2.1.1) ?_
  refine E_bp (nI 20) dX12_feed_4 (by decide) ?_
  refine E_iadd dX12_feed_6 ?_
  refine E.top (nI_add (σ 9 0 0) 20) ?_
  refine E_sp (nI 260) dX12_feed_7 (by decide) ?_
  refine E_cN_le (a := (σ 9 0 0) + 20) (b := 260) (tgt := 15) dX12_feed_10 (by omega) (by decide) (by decide) (fun c10 => ?_) (fun c10 => ?_)
  · have ht : σ 9 0 0 + 20 ≤ 260 := c10
    rw [if_pos ht, if_pos ht] at hQ
    have hq := hQ (tpg 121 114 7 I (σ 9 0 0) 20 (byM (ws5 a b c d e))) J ?_ (fun x x1 => tpg_o I _ _ _ (by omega) (by omega)) rfl (fun x x1 x2 => tpg_o I _ _ _ (by omega) (by omega))
    rotate_left
    · obtain ⟨h1, h2, h3, ⟨k1, k2⟩, h5, h6⟩ := hM
      refine ⟨h1, h2, h3, ⟨rfl, k2⟩, fun j hj => ?_, h6⟩
      have hj : j < σ 9 0 0 + 20 := hj
      show (if 121 = 121 ∧ σ 9 0 0 ≤ j ∧ j < σ 9 0 0 + 20 then byM (ws5 a b c d e) (j - σ 9 0 0) else if 121 = 114 ∧ j = 7 then nI (σ 9 0 0 + 20) else I 121 j) &&& 255 = nI (if σ 9 0 0 ≤ j ∧ j < σ 9 0 0 + 20 then byW (ws5 a b c d e) (j - σ 9 0 0) else σ 8 j 0)
      by_cases c : σ 9 0 0 ≤ j ∧ j < σ 9 0 0 + 20
      · rw [if_pos ⟨rfl, c⟩, if_pos c]
        exact byM_W _ _
      · rw [if_neg (fun z => c z.2), if_neg (fun z => absurd z.1 (by decide)), if_neg c]
        exact h5 j (by omega)
    refine E.mem (tpg_0 (A := 121) I (byM (ws5 a b c d e)) e9).symm ?_
    refine E_aload_n dX12_feed_15 rfl ?_
    refine E_iload_n dX12_feed_16 rfl ?_
    refine E_callV (As := [_]) (ci := 11) (kc' := 0) (ks' := 0) (kc := 0) (ks := 0) dX12_feed_17 ok_X12_types w_X12_132 i_X12_types s_X12_types rfl (by decide) rfl (Nat.lt_of_lt_of_le (by decide) hN) rfl rfl rfl (Nat.le_of_ble_eq_true rfl) (Nat.le_of_ble_eq_true rfl) (Nat.le_refl _) (m_types (d := 899) (ws := (ws5 a b c d e)) (t := σ 9 0 0) (w := 0) hN hR ht (by decide) ?_)
    refine E_aload_n dX12_feed_20 rfl ?_
    refine E_iload_n dX12_feed_21 rfl ?_
    refine E_callV (As := [_]) (ci := 11) (kc' := 0) (ks' := 0) (kc := 0) (ks := 0) dX12_feed_22 ok_X12_types w_X12_132 i_X12_types s_X12_types rfl (by decide) rfl (Nat.lt_of_lt_of_le (by decide) hN) rfl rfl rfl (Nat.le_of_ble_eq_true rfl) (Nat.le_of_ble_eq_true rfl) (Nat.le_refl _) (m_types (d := 899) (ws := (ws5 a b c d e)) (t := σ 9 0 0) (w := 1) hN hR ht (by decide) ?_)
    refine E_aload_n dX12_feed_25 rfl ?_
    refine E_iload_n dX12_feed_26 rfl ?_
    refine E_callV (As := [_]) (ci := 11) (kc' := 0) (ks' := 0) (kc := 0) (ks := 0) dX12_feed_27 ok_X12_types w_X12_132 i_X12_types s_X12_types rfl (by decide) rfl (Nat.lt_of_lt_of_le (by decide) hN) rfl rfl rfl (Nat.le_of_ble_eq_true rfl) (Nat.le_of_ble_eq_true rfl) (Nat.le_refl _) (m_types (d := 899) (ws := (ws5 a b c d e)) (t := σ 9 0 0) (w := 2) hN hR ht (by decide) ?_)
    refine E_aload_n dX12_feed_30 rfl ?_
    refine E_iload dX12_feed_31 rfl ?_
    refine E_callV (As := [_]) (ci := 11) (kc' := 0) (ks' := 0) (kc := 0) (ks := 0) dX12_feed_33 ok_X12_types w_X12_132 i_X12_types s_X12_types rfl (by decide) rfl (Nat.lt_of_lt_of_le (by decide) hN) rfl rfl rfl (Nat.le_of_ble_eq_true rfl) (Nat.le_of_ble_eq_true rfl) (Nat.le_refl _) (m_types (d := 899) (ws := (ws5 a b c d e)) (t := σ 9 0 0) (w := 3) hN hR ht (by decide) ?_)
    refine E_aload_n dX12_feed_36 rfl ?_
    refine E_iload dX12_feed_37 rfl ?_
    refine E_callV (As := [_]) (ci := 11) (kc' := 0) (ks' := 0) (kc := 0) (ks := 0) dX12_feed_39 ok_X12_types w_X12_132 i_X12_types s_X12_types rfl (by decide) rfl (Nat.lt_of_lt_of_le (by decide) hN) rfl rfl rfl (Nat.le_of_ble_eq_true rfl) (Nat.le_of_ble_eq_true rfl) (Nat.le_refl _) (m_types (d := 899) (ws := (ws5 a b c d e)) (t := σ 9 0 0) (w := 4) hN hR ht (by decide) ?_)
    refine E_aload_n dX12_feed_42 rfl ?_
    refine E_getI dX12_feed_43 f_X12_128 rfl (Nat.lt_of_lt_of_le (by decide) hN) rfl ?_
    refine E.top (tpg_B (by decide) I (σ 9 0 0) 20 (byM (ws5 a b c d e))) ?_
    exact E_iret dX12_feed_46 rfl (hq)
  · rw [if_neg (by omega), if_neg (by omega)] at hQ
    have hq := hQ I J hM (fun _ _ => rfl) rfl (fun _ _ _ => rfl)
    refine E_ic (-1) dX12_feed_13 (by decide) ?_
    exact E_iret dX12_feed_14 rfl (hq)
end PFeed
