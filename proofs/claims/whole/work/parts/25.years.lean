/-! ===== bits in plain numbers; years, atOdds ===== -/
theorem nI_or {a b : Nat} (ha : a < 2 ^ 32) (hb : b < 2 ^ 32) : nI a ||| nI b = nI (a ||| b) := by
  apply Int32.toBitVec_inj.mp
  apply BitVec.eq_of_toNat_eq
  rw [Int32.toBitVec_or, BitVec.toNat_or, pk_tn ha, pk_tn hb, pk_tn (Nat.or_lt_two_pow ha hb)]
theorem shl1 : ∀ s, s < 32 → nI 1 <<< (nI s &&& 31) = nI (2 ^ s) := by decide +kernel
theorem p32 {s : Nat} (h : s < 32) : 2 ^ s < 2 ^ 32 := Nat.pow_lt_pow_right (by decide) h
/-- the bits as a number -/
def bN (p : Nat → Nat) : Nat → Nat
  | 0 => 0
  | k + 1 => bN p k + (if 0 < p k then 2 ^ k else 0)
theorem bN_lt (p : Nat → Nat) : ∀ k, bN p k < 2 ^ k
  | 0 => by show 0 < 1; decide
  | k + 1 => by
    have := bN_lt p k
    rw [Nat.pow_succ]
    show bN p k + (if 0 < p k then 2 ^ k else 0) < _
    split <;> omega
theorem or_top {b k : Nat} (h : b < 2 ^ k) : b ||| 2 ^ k = b + 2 ^ k := by
  have := Nat.two_pow_add_eq_or_of_lt h 1
  rw [Nat.mul_one] at this
  rw [Nat.or_comm, ← this, Nat.add_comm]
theorem or_bit {b k : Nat} {c : Prop} [Decidable c] (h : b < 2 ^ k) : (b + if c then 2 ^ k else 0) ||| 2 ^ k = b + 2 ^ k := by
  by_cases hc : c
  · rw [if_pos hc, ← or_top h, Nat.or_assoc, Nat.or_self]
  · rw [if_neg hc, Nat.add_zero, or_top h]
/-- how many of the K lowest bits are set -/
def pop (x : Nat) : Nat → Nat
  | 0 => 0
  | k + 1 => pop x k + x / 2 ^ k % 2
theorem pop_add (x c : Nat) : ∀ K m, K ≤ m → pop (x + 2 ^ m * c) K = pop x K
  | 0, _, _ => rfl
  | K + 1, m, h => by
    show pop (x + 2 ^ m * c) K + (x + 2 ^ m * c) / 2 ^ K % 2 = pop x K + x / 2 ^ K % 2
    rw [pop_add x c K m (by omega), show 2 ^ m * c = 2 ^ K * (2 * (2 ^ (m - (K + 1)) * c)) from by rw [← Nat.mul_assoc, ← Nat.mul_assoc, ← Nat.pow_succ, ← Nat.pow_add, show K + 1 + (m - (K + 1)) = m by omega], Nat.add_mul_div_left _ _ (Nat.two_pow_pos K), Nat.add_mul_mod_self_left]
theorem pop_bN (p : Nat → Nat) : ∀ K, pop (bN p K) K = sumS (fun k => if 0 < p k then 1 else 0) K
  | 0 => rfl
  | K + 1 => by
    have h := bN_lt p K
    show pop (bN p K + (if 0 < p K then 2 ^ K else 0)) K + (bN p K + (if 0 < p K then 2 ^ K else 0)) / 2 ^ K % 2 = sumS (fun k => if 0 < p k then 1 else 0) K + (if 0 < p K then 1 else 0)
    rw [← pop_bN p K]
    by_cases c : 0 < p K
    · rw [if_pos c, if_pos c]
      have h1 := pop_add (bN p K) 1 K K (Nat.le_refl _)
      rw [Nat.mul_one] at h1
      rw [h1, Nat.add_div_right _ (Nat.two_pow_pos K), Nat.div_eq_of_lt h]
    · rw [if_neg c, if_neg c, Nat.add_zero, Nat.div_eq_of_lt h]
theorem bc_pop2 : ∀ a, a < 64 → ∀ b, b < 64 → bcI (nI (64 * a + b)) = nI (pop (64 * a + b) 12) := by decide +kernel
theorem bc_pop (x : Nat) (h : x < 4096) : bcI (nI x) = nI (pop x 12) := by
  have := bc_pop2 (x / 64) (by omega) (x % 64) (by omega)
  rw [show 64 * (x / 64) + x % 64 = x by omega] at this
  exact this
theorem sumS_s {p : Nat → Nat} {k v : Nat} (h : p k = v) : sumS p (k + 1) = sumS p k + v := by
  show sumS p k + p k = _
  rw [h]
theorem pop_le (x : Nat) : ∀ K, pop x K ≤ K
  | 0 => Nat.le_refl _
  | K + 1 => by
    have := pop_le x K
    have := Nat.mod_lt (x / 2 ^ K) (show 0 < 2 by decide)
    show pop x K + x / 2 ^ K % 2 ≤ _
    omega
/-- the SINS of the YEAR y among m LAYERS from the a-th on, as bits -/
def syS (f s : Nat → Nat) (y a : Nat) : Nat → Nat
  | 0 => 0
  | m + 1 => if f (a + m) = y then syS f s y a m ||| 2 ^ s (a + m) else syS f s y a m
theorem syS_t {f s : Nat → Nat} {y a m : Nat} (h : f (a + m) = y) : syS f s y a (m + 1) = syS f s y a m ||| 2 ^ s (a + m) := if_pos h
theorem syS_f {f s : Nat → Nat} {y a m : Nat} (h : f (a + m) ≠ y) : syS f s y a (m + 1) = syS f s y a m := if_neg h
theorem syS_lt {f s : Nat → Nat} {y a : Nat} : ∀ m, (∀ i, i < m → s (a + i) < 16) → syS f s y a m < 2 ^ 16
  | 0, _ => by show 0 < 65536; decide
  | m + 1, h => by
    have h1 := syS_lt (f := f) (y := y) m (fun i hi => h i (by omega))
    unfold syS
    split
    · exact Nat.or_lt_two_pow h1 (Nat.pow_lt_pow_right (by decide) (h m (by omega)))
    · exact h1
theorem syS_z {f s : Nat → Nat} {y a : Nat} : ∀ m, (syS f s y a m = 0 ↔ cyS f y a m = 0)
  | 0 => ⟨fun _ => rfl, fun _ => rfl⟩
  | m + 1 => by
    by_cases c : f (a + m) = y
    · rw [syS_t c, cyS_t c]
      have h1 : 2 ^ s (a + m) ≤ syS f s y a m ||| 2 ^ s (a + m) := Nat.right_le_or
      have h2 := Nat.two_pow_pos (s (a + m))
      omega
    · rw [syS_f c, cyS_f c]
      exact syS_z m
theorem or_sh {G S sh s : Nat} (h : G < 2 ^ sh) : (G + 2 ^ sh * S) ||| 2 ^ (s + sh) = G + 2 ^ sh * (S ||| 2 ^ s) := by
  apply Nat.eq_of_testBit_eq
  intro i
  rw [Nat.testBit_or, Nat.add_comm G, Nat.add_comm G, Nat.testBit_two_pow_mul_add _ h, Nat.testBit_two_pow_mul_add _ h, Nat.testBit_two_pow]
  by_cases c : i < sh
  · rw [if_pos c, if_pos c, decide_eq_false (by omega), Bool.or_false]
  · rw [if_neg c, if_neg c, Nat.testBit_or, Nat.testBit_two_pow]
    congr 1
    exact decide_eq_decide.mpr (by omega)
theorem lo16 {A B : Nat} (ha : A < 65536) (hb : B < 65536) : nI (A + 2 ^ 16 * B) &&& nI 65535 = nI A := by
  rw [pk_andN (by omega) 16 (by decide)]
  congr 1
  omega
theorem hi16 {A B : Nat} (ha : A < 65536) (hb : B < 65536) : ((nI (A + 2 ^ 16 * B)).toUInt32 >>> ((nI 16).toUInt32 &&& Int32.toUInt32 31)).toInt32 = nI B := by
  rw [pk_ushrN (by omega) (nI 16) 16 (by decide)]
  congr 1
  omega
/-- from YEAR 99 down: how many YEARS have m or more in them, and the first of these -/
def yrS (t : Nat → Nat) (m : Nat) : Nat → Nat × Int32
  | 0 => (0, -2)
  | j + 1 => if m ≤ t (99 - j) then ((yrS t m j).1 + 1, nI (99 - j)) else yrS t m j
theorem yrS_le (t : Nat → Nat) (m : Nat) : ∀ j, (yrS t m j).1 ≤ j
  | 0 => Nat.le_refl _
  | j + 1 => by
    have := yrS_le t m j
    unfold yrS
    split
    · show (yrS t m j).1 + 1 ≤ j + 1
      omega
    · omega
def nyS (σ : ST) (y : Nat) : Nat := sumS (fun k => if 0 < cyS (σ 1 k) y (σ 3 k 3) (σ 0 k 0 - σ 3 k 3) then 1 else 0) 12
noncomputable def r_years (x w : Int32) (σ : ST) : Value := .int (gd ((∃ m, 1 ≤ m ∧ m ≤ 12 ∧ x = nI m) ∧ rg w 1) (if w = nI 0 then nI (yrS (nyS σ) x.toNatClampNeg 100).1 else (yrS (nyS σ) x.toNatClampNeg 100).2) (-1))
def odS (A B : Nat → Nat) : Nat → Nat
  | 0 => 0
  | y + 1 => if 0 < A y ∧ 0 < B y ∧ nI (A y) &&& nI (B y) = 0 then odS A B y + 1 else odS A B y
theorem odS_le (A B : Nat → Nat) : ∀ y, odS A B y ≤ y
  | 0 => Nat.le_refl _
  | y + 1 => by
    have := odS_le A B y
    unfold odS
    split <;> omega
noncomputable def r_atOdds (x w : Int32) (σ : ST) : Value := .int (gd (tk σ x ∧ tk σ w) (nI (odS (fun y => syS (σ 1 x.toNatClampNeg) (σ 2 x.toNatClampNeg) y 0 (σ 0 x.toNatClampNeg 0)) (fun y => syS (σ 1 w.toNatClampNeg) (σ 2 w.toNatClampNeg) y 0 (σ 0 w.toNatClampNeg 0)) 100)) (-1))
section PYears
variable {g : GL} {d n : Nat} {I : IM} {J : JM} {R : RM} {Q : PQ} {σ : ST}
set_option maxRecDepth 100000 in
set_option maxHeartbeats 2000000 in
theorem x_gatherW (hB : BND σ) (hX : XR σ n I R) (hQ : Q none n (put I 52 100 (fun y => nI (bN (fun j => cyS (σ 1 j) y (σ 3 j 3) (σ 0 j 0 - σ 3 j 3)) 12))) J R) : E g mX11_gatherWitnessesByYear (d + 1) 0 0 0 (ent 3 [.ref 0]) [] n I J R Q := by
  have hN := hX.2.2.2.1.n.1
  have hR := hX.2.2.2.1.1
  have L : ∀ k, k ≤ 12 → E g mX11_gatherWitnessesByYear (d + 1) 0 0 10 [.ref 0, .int (nI k), jk] [] n (put I 52 100 (fun y => nI (bN (fun j => cyS (σ 1 j) y (σ 3 j 3) (σ 0 j 0 - σ 3 j 3)) k))) J R Q := by
    refine loopU 12 ?_ (fun k hk ihk => ?_)
    · refine E_iload_n dX11_gatherWitnessesByYear_10 rfl ?_
      refine E_bp (nI 12) dX11_gatherWitnessesByYear_11 (by decide) ?_
      refine E_cN_ge (a := 12) (b := 12) (tgt := 76) dX11_gatherWitnessesByYear_13 (by decide) (by decide) (by decide) (fun c13 => ?_) (fun c13 => absurd c13 (by omega))
      exact E_ret dX11_gatherWitnessesByYear_76 rfl (hQ)
    · have b := hB.1 k hk
      have L2 : ∀ m, m ≤ (σ 0 k 0 - σ 3 k 3) → E g mX11_gatherWitnessesByYear (d + 1) 0 0 29 [.ref 0, .int (nI k), .int (nI (σ 3 k 3 + m))] [] n (put I 52 100 (fun y => nI (bN (fun j => cyS (σ 1 j) y (σ 3 j 3) (σ 0 j 0 - σ 3 j 3)) k + (if 0 < cyS (σ 1 k) y (σ 3 k 3) m then 2 ^ k else 0)))) J R Q := by
        refine loopU (σ 0 k 0 - σ 3 k 3) ?_ (fun m hm ih => ?_)
        · have hX := hX.put 52 100 (fun y => nI (bN (fun j => cyS (σ 1 j) y (σ 3 j 3) (σ 0 j 0 - σ 3 j 3)) k + (if 0 < cyS (σ 1 k) y (σ 3 k 3) (σ 0 k 0 - σ 3 k 3) then 2 ^ k else 0))) (by omega)
          refine E_iload_n dX11_gatherWitnessesByYear_29 rfl ?_
          refine E_aload_n dX11_gatherWitnessesByYear_30 rfl ?_
          refine E_getR dX11_gatherWitnessesByYear_31 f_X11_11 rfl (Nat.lt_of_lt_of_le (by decide) hN) rfl (hR _ _ _ rfl) ?_
          refine E_iload_n dX11_gatherWitnessesByYear_34 rfl ?_
          refine E_aaldN dX11_gatherWitnessesByYear_35 rfl (Nat.lt_of_lt_of_le (by decide) hN) (by first | assumption | omega) (hR _ _ _ (RT1 k (by first | assumption | omega))) ?_
          refine E_getI dX11_gatherWitnessesByYear_36 f_X11_187 (LYw k (by first | assumption | omega)).1 (by first | assumption | omega) rfl ?_
          refine E.top ((hX.1 k (by first | assumption | omega)).1) ?_
          refine E_cN_ge (a := σ 3 k 3 + (σ 0 k 0 - σ 3 k 3)) (b := σ 0 k 0) (tgt := 70) dX11_gatherWitnessesByYear_39 (by omega) (by omega) (by decide) (fun c39 => ?_) (fun c39 => absurd c39 (by omega))
          refine E_incN dX11_gatherWitnessesByYear_70 rfl ?_
          refine E_goto (tgt := 10) dX11_gatherWitnessesByYear_73 (by decide) ?_
          refine E.mask [true, true, false] ?_
          exact ihk
        · have hX := hX.put 52 100 (fun y => nI (bN (fun j => cyS (σ 1 j) y (σ 3 j 3) (σ 0 j 0 - σ 3 j 3)) k + (if 0 < cyS (σ 1 k) y (σ 3 k 3) m then 2 ^ k else 0))) (by omega)
          have hyy := b.2.1 (σ 3 k 3 + m) (by omega)
          have hb1 := bN_lt (fun j => cyS (σ 1 j) (σ 1 k (σ 3 k 3 + m)) (σ 3 j 3) (σ 0 j 0 - σ 3 j 3)) k
          have hp : 2 ^ k < 2 ^ 12 := Nat.pow_lt_pow_right (by decide) hk
          have hp2 : bN (fun j => cyS (σ 1 j) (σ 1 k (σ 3 k 3 + m)) (σ 3 j 3) (σ 0 j 0 - σ 3 j 3)) k + (if 0 < cyS (σ 1 k) (σ 1 k (σ 3 k 3 + m)) (σ 3 k 3) m then 2 ^ k else 0) < 2 ^ 32 := by split <;> omega
          refine E_iload_n dX11_gatherWitnessesByYear_29 rfl ?_
          refine E_aload_n dX11_gatherWitnessesByYear_30 rfl ?_
          refine E_getR dX11_gatherWitnessesByYear_31 f_X11_11 rfl (Nat.lt_of_lt_of_le (by decide) hN) rfl (hR _ _ _ rfl) ?_
          refine E_iload_n dX11_gatherWitnessesByYear_34 rfl ?_
          refine E_aaldN dX11_gatherWitnessesByYear_35 rfl (Nat.lt_of_lt_of_le (by decide) hN) (by first | assumption | omega) (hR _ _ _ (RT1 k (by first | assumption | omega))) ?_
          refine E_getI dX11_gatherWitnessesByYear_36 f_X11_187 (LYw k (by first | assumption | omega)).1 (by first | assumption | omega) rfl ?_
          refine E.top ((hX.1 k (by first | assumption | omega)).1) ?_
          refine E_cN_ge (a := σ 3 k 3 + m) (b := σ 0 k 0) (tgt := 70) dX11_gatherWitnessesByYear_39 (by omega) (by omega) (by decide) (fun c39 => absurd c39 (by omega)) (fun c39 => ?_)
          refine E_aload_n dX11_gatherWitnessesByYear_42 rfl ?_
          refine E_getR dX11_gatherWitnessesByYear_43 f_X11_79 rfl (Nat.lt_of_lt_of_le (by decide) hN) rfl (hR _ _ _ rfl) ?_
          refine E_aload_n dX11_gatherWitnessesByYear_46 rfl ?_
          refine E_getR dX11_gatherWitnessesByYear_47 f_X11_11 rfl (Nat.lt_of_lt_of_le (by decide) hN) rfl (hR _ _ _ rfl) ?_
          refine E_iload_n dX11_gatherWitnessesByYear_50 rfl ?_
          refine E_aaldN dX11_gatherWitnessesByYear_51 rfl (Nat.lt_of_lt_of_le (by decide) hN) (by first | assumption | omega) (hR _ _ _ (RT1 k (by first | assumption | omega))) ?_
          refine E_getR dX11_gatherWitnessesByYear_52 f_X11_205 (LYw k (by first | assumption | omega)).1 (by first | assumption | omega) rfl (hR _ _ _ (RTw k (by first | assumption | omega)).1) ?_
          refine E_iload_n dX11_gatherWitnessesByYear_55 rfl ?_
          refine E_ialdN dX11_gatherWitnessesByYear_56 (LYw k (by first | assumption | omega)).2.1 (by first | assumption | omega) (by first | assumption | omega) ?_
          refine E.top (((hX.1 k (by first | assumption | omega)).2.2.1 (σ 3 k 3 + m) (by first | assumption | omega)).1) ?_
          refine E_dup2 dX11_gatherWitnessesByYear_57 rfl rfl ?_
          refine E_ialdN dX11_gatherWitnessesByYear_58 rfl (Nat.lt_of_lt_of_le (by decide) hN) (by first | assumption | omega) ?_
          refine E.top (put_r I (fun y => nI (bN (fun j => cyS (σ 1 j) y (σ 3 j 3) (σ 0 j 0 - σ 3 j 3)) k + (if 0 < cyS (σ 1 k) y (σ 3 k 3) m then 2 ^ k else 0))) (by omega)) ?_
          refine E_ic (nI 1) dX11_gatherWitnessesByYear_59 (by decide) ?_
          refine E_iload_n dX11_gatherWitnessesByYear_60 rfl ?_
          refine E_ishl dX11_gatherWitnessesByYear_61 ?_
          refine E.top (shl1 k (by omega)) ?_
          refine E_ior dX11_gatherWitnessesByYear_62 ?_
          refine E.top ((nI_or (by omega) (by omega)).trans (congrArg nI (or_bit hb1))) ?_
          refine E_iastN dX11_gatherWitnessesByYear_63 rfl (Nat.lt_of_lt_of_le (by decide) hN) (by first | assumption | omega) ?_
          refine E.mem (put_s (f' := (fun y => nI (bN (fun j => cyS (σ 1 j) y (σ 3 j 3) (σ 0 j 0 - σ 3 j 3)) k + (if 0 < cyS (σ 1 k) y (σ 3 k 3) (m + 1) then 2 ^ k else 0)))) I _ (by omega) (fun y hy => ?_)) ?_
          · by_cases e : y = σ 1 k (σ 3 k 3 + m)
            · subst e
              rw [if_pos rfl]
              show nI (_ + (if 0 < cyS (σ 1 k) (σ 1 k (σ 3 k 3 + m)) (σ 3 k 3) (m + 1) then 2 ^ k else 0)) = _
              rw [cyS_t rfl, if_pos (Nat.succ_pos _)]
            · rw [if_neg e]
              show nI (_ + (if 0 < cyS (σ 1 k) y (σ 3 k 3) (m + 1) then 2 ^ k else 0)) = _
              rw [cyS_f (fun q => e q.symm)]
          refine E_incN dX11_gatherWitnessesByYear_64 rfl ?_
          refine E_goto (tgt := 29) dX11_gatherWitnessesByYear_67 (by decide) ?_
          exact ih
      have hX := hX.put 52 100 (fun y => nI (bN (fun j => cyS (σ 1 j) y (σ 3 j 3) (σ 0 j 0 - σ 3 j 3)) k)) (by omega)
      refine E_iload_n dX11_gatherWitnessesByYear_10 rfl ?_
      refine E_bp (nI 12) dX11_gatherWitnessesByYear_11 (by decide) ?_
      refine E_cN_ge (a := k) (b := 12) (tgt := 76) dX11_gatherWitnessesByYear_13 (by omega) (by decide) (by decide) (fun c13 => absurd c13 (by omega)) (fun c13 => ?_)
      refine E_aload_n dX11_gatherWitnessesByYear_16 rfl ?_
      refine E_getR dX11_gatherWitnessesByYear_17 f_X11_11 rfl (Nat.lt_of_lt_of_le (by decide) hN) rfl (hR _ _ _ rfl) ?_
      refine E_iload_n dX11_gatherWitnessesByYear_20 rfl ?_
      refine E_aaldN dX11_gatherWitnessesByYear_21 rfl (Nat.lt_of_lt_of_le (by decide) hN) (by first | assumption | omega) (hR _ _ _ (RT1 k (by first | assumption | omega))) ?_
      refine E_getR dX11_gatherWitnessesByYear_22 f_X11_146 (LYw k (by first | assumption | omega)).1 (by first | assumption | omega) rfl (hR _ _ _ (RTw k (by first | assumption | omega)).2.2.1) ?_
      refine E_getI dX11_gatherWitnessesByYear_25 f_X11_190 (LYw k (by first | assumption | omega)).2.2.2.1 (by first | assumption | omega) rfl ?_
      refine E.top ((hX.1 k (by first | assumption | omega)).2.2.2.1 3 (by decide)) ?_
      refine E_istore_n dX11_gatherWitnessesByYear_28 (Nat.le_of_ble_eq_true rfl) ?_
      exact L2 0 (Nat.zero_le _)
  refine E_aload_n dX11_gatherWitnessesByYear_0 rfl ?_
  refine E_getR dX11_gatherWitnessesByYear_1 f_X11_79 rfl (Nat.lt_of_lt_of_le (by decide) hN) rfl (hR _ _ _ rfl) ?_
  refine E_ic (nI 0) dX11_gatherWitnessesByYear_4 (by decide) ?_
  refine E_callS (As := [_, _]) (kc' := 0) (ks' := 0) (kc := 0) (ks := 0) dX11_gatherWitnessesByYear_5 ok_J7_fill_53178 w_X11_238 st_J7_fill_53178 rfl rfl rfl (Nat.le_of_ble_eq_true rfl) (Nat.le_of_ble_eq_true rfl) (Nat.le_refl _) (c_fillI (L := 100) rfl (Nat.lt_of_lt_of_le (by decide) hN) ?_)
  refine E.mem (put_fil I 52 100 (nI 0) (f := (fun y => nI (bN (fun j => cyS (σ 1 j) y (σ 3 j 3) (σ 0 j 0 - σ 3 j 3)) 0))) (fun _ => rfl)) ?_
  refine E_ic (nI 0) dX11_gatherWitnessesByYear_8 (by decide) ?_
  refine E_istore_n dX11_gatherWitnessesByYear_9 (Nat.le_of_ble_eq_true rfl) ?_
  exact L 0 (by omega)
set_option maxRecDepth 100000 in
set_option maxHeartbeats 2000000 in
theorem m_soy {k y a : Nat} (hB : BND σ) (hM : MR σ I) (hN : 152 ≤ n) (hR : RS R) (hk : k < 12) (hy : y < 100) (ha : a ≤ σ 0 k 0) (hQ : Q (some (.int (nI (syS (σ 1 k) (σ 2 k) y a (σ 0 k 0 - a))))) n I J R) : E g mX12_sinsOfYear (d + 1) 0 0 0 (ent 6 [.ref 114, .int (nI k), .int (nI y), .int (nI a)]) [] n I J R Q := by
  have b := hB.1 k hk
  have L : ∀ m, m ≤ (σ 0 k 0 - a) → E g mX12_sinsOfYear (d + 1) 0 0 6 [.ref 114, .int (nI k), .int (nI y), .int (nI a), .int (nI (syS (σ 1 k) (σ 2 k) y a m)), .int (nI (a + m))] [] n I J R Q := by
    refine loopU (σ 0 k 0 - a) ?_ (fun m hm ih => ?_)
    · refine E_iload dX12_sinsOfYear_6 rfl ?_
      refine E_aload_n dX12_sinsOfYear_8 rfl ?_
      refine E_getR dX12_sinsOfYear_9 f_X12_19 rfl (Nat.lt_of_lt_of_le (by decide) hN) rfl (hR _ _ _ rfl) ?_
      refine E_iload_n dX12_sinsOfYear_12 rfl ?_
      refine E_ialdN dX12_sinsOfYear_13 rfl (Nat.lt_of_lt_of_le (by decide) hN) (by first | assumption | omega) ?_
      refine E.top ((hM.1 k (by first | assumption | omega)).1) ?_
      refine E_cN_ge (a := a + (σ 0 k 0 - a)) (b := σ 0 k 0) (tgt := 56) dX12_sinsOfYear_14 (by omega) (by omega) (by decide) (fun c14 => ?_) (fun c14 => absurd c14 (by omega))
      refine E_iload dX12_sinsOfYear_56 rfl ?_
      exact E_iret dX12_sinsOfYear_58 rfl (hQ)
    · have hyy := b.2.1 (a + m) (by omega)
      have hs := syS_lt (f := σ 1 k) (s := σ 2 k) (y := y) (a := a) m (fun i hi => (b.2.1 (a + i) (by omega)).2)
      have hp := p32 (show σ 2 k (a + m) < 32 by omega)
      refine E_iload dX12_sinsOfYear_6 rfl ?_
      refine E_aload_n dX12_sinsOfYear_8 rfl ?_
      refine E_getR dX12_sinsOfYear_9 f_X12_19 rfl (Nat.lt_of_lt_of_le (by decide) hN) rfl (hR _ _ _ rfl) ?_
      refine E_iload_n dX12_sinsOfYear_12 rfl ?_
      refine E_ialdN dX12_sinsOfYear_13 rfl (Nat.lt_of_lt_of_le (by decide) hN) (by first | assumption | omega) ?_
      refine E.top ((hM.1 k (by first | assumption | omega)).1) ?_
      refine E_cN_ge (a := a + m) (b := σ 0 k 0) (tgt := 56) dX12_sinsOfYear_14 (by omega) (by omega) (by decide) (fun c14 => absurd c14 (by omega)) (fun c14 => ?_)
      refine E_aload_n dX12_sinsOfYear_17 rfl ?_
      refine E_getR dX12_sinsOfYear_18 f_X12_22 rfl (Nat.lt_of_lt_of_le (by decide) hN) rfl (hR _ _ _ rfl) ?_
      refine E_iload_n dX12_sinsOfYear_21 rfl ?_
      refine E_iload dX12_sinsOfYear_22 rfl ?_
      refine E_callS (As := [_, _]) (kc' := 0) (ks' := 0) (kc := 0) (ks := 0) dX12_sinsOfYear_24 ok_X12_at w_X12_280 st_X12_at rfl rfl rfl (Nat.le_of_ble_eq_true rfl) (Nat.le_of_ble_eq_true rfl) (Nat.le_refl _) (m_at ?_)
      refine E_ialdN dX12_sinsOfYear_27 rfl (Nat.lt_of_lt_of_le (by decide) hN) (by first | assumption | omega) ?_
      refine E.top (((hM.1 k (by first | assumption | omega)).2 (a + m) (by first | assumption | omega)).1) ?_
      refine E_iload_n dX12_sinsOfYear_28 rfl ?_
      refine E_cN_ne (a := σ 1 k (a + m)) (b := y) (tgt := 50) dX12_sinsOfYear_29 (by omega) (by omega) (by decide) (fun c29 => ?_) (fun c29 => ?_)
      · refine E_incN dX12_sinsOfYear_50 rfl ?_
        refine E_goto (tgt := 6) dX12_sinsOfYear_53 (by decide) ?_
        rw [syS_f c29] at ih
        exact ih
      · refine E_iload dX12_sinsOfYear_32 rfl ?_
        refine E_ic (nI 1) dX12_sinsOfYear_34 (by decide) ?_
        refine E_aload_n dX12_sinsOfYear_35 rfl ?_
        refine E_getR dX12_sinsOfYear_36 f_X12_25 rfl (Nat.lt_of_lt_of_le (by decide) hN) rfl (hR _ _ _ rfl) ?_
        refine E_iload_n dX12_sinsOfYear_39 rfl ?_
        refine E_iload dX12_sinsOfYear_40 rfl ?_
        refine E_callS (As := [_, _]) (kc' := 0) (ks' := 0) (kc := 0) (ks := 0) dX12_sinsOfYear_42 ok_X12_at w_X12_280 st_X12_at rfl rfl rfl (Nat.le_of_ble_eq_true rfl) (Nat.le_of_ble_eq_true rfl) (Nat.le_refl _) (m_at ?_)
        refine E_ialdN dX12_sinsOfYear_45 rfl (Nat.lt_of_lt_of_le (by decide) hN) (by first | assumption | omega) ?_
        refine E.top (((hM.1 k (by first | assumption | omega)).2 (a + m) (by first | assumption | omega)).2) ?_
        refine E_ishl dX12_sinsOfYear_46 ?_
        refine E.top (shl1 (σ 2 k (a + m)) (by omega)) ?_
        refine E_ior dX12_sinsOfYear_47 ?_
        refine E.top (nI_or (by omega) (by omega)) ?_
        refine E_istore dX12_sinsOfYear_48 (Nat.le_of_ble_eq_true rfl) ?_
        refine E_incN dX12_sinsOfYear_50 rfl ?_
        refine E_goto (tgt := 6) dX12_sinsOfYear_53 (by decide) ?_
        rw [syS_t c29] at ih
        exact ih
  refine E_ic (nI 0) dX12_sinsOfYear_0 (by decide) ?_
  refine E_istore dX12_sinsOfYear_1 (Nat.le_of_ble_eq_true rfl) ?_
  refine E_iload_n dX12_sinsOfYear_3 rfl ?_
  refine E_istore dX12_sinsOfYear_4 (Nat.le_of_ble_eq_true rfl) ?_
  exact L 0 (Nat.zero_le _)
def dnI : Nat → Int32
  | 0 => -1
  | j + 1 => nI j
theorem E.locD {g : GL} {M : MD} {d kc ks pc n : Nat} {ls st : List Value} {I : IM} {J : JM} {R : RM} {Q : PQ} (k : E g M d kc ks pc ls st n I J R Q) : E g M d kc ks pc ls st n I J R Q := k
theorem dn_m1 (j : Nat) : nI j + (-1) = dnI j := by
  cases j with
  | zero => decide
  | succ j => exact pk_m1 j
set_option maxRecDepth 100000 in
set_option maxHeartbeats 2000000 in
theorem sx_years (x w : Int32) : SX mX11_years [.int x, .int w] (r_years x w) id := by
  intro g n I J R σ Q hB hX hQ
  have hN := hX.2.2.2.1.n.1
  have hR := hX.2.2.2.1.1
  have hX1 := hX.put 52 100 (fun y => nI (bN (fun j => cyS (σ 1 j) y (σ 3 j 3) (σ 0 j 0 - σ 3 j 3)) 12)) (by omega)
  unfold r_years at hQ
  rcases i32_ix w 2 (by decide) with hw | ⟨v, hv, rfl⟩
  · rw [gd_f (fun z => rg_no hw (by decide) z.2)] at hQ
    have hq := hQ I J hX (fun _ _ _ => rfl) (fun _ _ _ => rfl)
    refine E_iload_n dX11_years_0 rfl ?_
    refine E_ic (nI 1) dX11_years_1 (by decide) ?_
    refine E_icmp_lt (tgt := 20) dX11_years_2 (by decide) (fun c2 => ?_) (fun c2 => ?_)
    · refine E_ic (-1) dX11_years_20 (by decide) ?_
      exact E_iret dX11_years_21 rfl (hq)
    · refine E_iload_n dX11_years_5 rfl ?_
      refine E_bp (nI 12) dX11_years_6 (by decide) ?_
      refine E_icmp_gt (tgt := 20) dX11_years_8 (by decide) (fun c8 => ?_) (fun c8 => ?_)
      · refine E_ic (-1) dX11_years_20 (by decide) ?_
        exact E_iret dX11_years_21 rfl (hq)
      · refine E_iload_n dX11_years_11 rfl ?_
        refine E_if_lt (tgt := 20) dX11_years_12 (by decide) (fun c12 => ?_) (fun c12 => ?_)
        · refine E_ic (-1) dX11_years_20 (by decide) ?_
          exact E_iret dX11_years_21 rfl (hq)
        · refine E_iload_n dX11_years_15 rfl ?_
          refine E_ic (nI 1) dX11_years_16 (by decide) ?_
          refine E_icmp_le (tgt := 22) dX11_years_17 (by decide) (fun c17 => by first | exact absurd c17 (fun z => hw.elim c12 (fun q => nI_ge (show 1 < 2 by decide) (by decide) (Int32.le_trans q z))) | exact absurd (fun z => hw.elim c12 (fun q => nI_ge (show 1 < 2 by decide) (by decide) (Int32.le_trans q z))) c17) (fun c17 => ?_)
          refine E_ic (-1) dX11_years_20 (by decide) ?_
          exact E_iret dX11_years_21 rfl (hq)
  · by_cases hx : ∃ m, 1 ≤ m ∧ m ≤ 12 ∧ x = nI m
    · have hg := hx
      obtain ⟨m, h1, h2, rfl⟩ := hx
      rw [gd_t ⟨hg, rg_of (show v ≤ 1 by omega)⟩, nI_clamp (by omega)] at hQ
      have hq := hQ (put I 52 100 (fun y => nI (bN (fun j => cyS (σ 1 j) y (σ 3 j 3) (σ 0 j 0 - σ 3 j 3)) 12))) J hX1 (fun a a1 _ => put_o I 52 100 _ (by omega)) (fun a a1 _ => put_o I 52 100 _ (by omega))
      have L : ∀ j, j ≤ 100 → E g mX11_years 900 0 0 36 [.ref 0, .int (nI m), .int (nI v), .int (nI ((yrS (nyS σ) m (100 - j)).1)), .int ((yrS (nyS σ) m (100 - j)).2), .int (dnI j)] [] n (put I 52 100 (fun y => nI (bN (fun j => cyS (σ 1 j) y (σ 3 j 3) (σ 0 j 0 - σ 3 j 3)) 12))) J R Q := by
        refine loopD ?_ (fun i ih hj => ?_)
        · intro _
          refine E_iload dX11_years_36 rfl ?_
          refine E_if_lt (tgt := 68) dX11_years_38 (by decide) (fun c38 => ?_) (fun c38 => by first | exact absurd c38 ((by decide)) | exact absurd ((by decide)) c38)
          refine E_iload_n dX11_years_68 rfl ?_
          refine E_zN_ne (a := v) (tgt := 76) dX11_years_69 (by omega) (by decide) (fun c69 => ?_) (fun c69 => ?_)
          · refine E_iload dX11_years_76 rfl ?_
            exact E_iret dX11_years_78 rfl (by first | (rw [if_pos (by rw [c69])] at hq; exact hq) | (rw [if_neg (fun q => by have := (nI_eq (by omega) (by decide)).mp q; omega)] at hq; exact hq))
          · refine E_iload_n dX11_years_72 rfl ?_
            refine E_goto (tgt := 78) dX11_years_73 (by decide) ?_
            exact E_iret dX11_years_78 rfl (by first | (rw [if_pos (by rw [c69])] at hq; exact hq) | (rw [if_neg (fun q => by have := (nI_eq (by omega) (by decide)).mp q; omega)] at hq; exact hq))
        · have ih := ih (by omega)
          rw [show 100 - i = 99 - i + 1 by omega] at ih
          rw [show 100 - (i + 1) = 99 - i by omega]
          have pl := pop_le (bN (fun j => cyS (σ 1 j) i (σ 3 j 3) (σ 0 j 0 - σ 3 j 3)) 12) 12
          have bl := bN_lt (fun j => cyS (σ 1 j) i (σ 3 j 3) (σ 0 j 0 - σ 3 j 3)) 12
          have pp : pop (bN (fun j => cyS (σ 1 j) i (σ 3 j 3) (σ 0 j 0 - σ 3 j 3)) 12) 12 = nyS σ i := pop_bN _ 12
          have yl := yrS_le (nyS σ) m (99 - i)
          refine E.locD ?_
          refine E_iload dX11_years_36 rfl ?_
          refine E_zN_lt (a := i) (tgt := 68) dX11_years_38 (by omega) (by decide) (fun c38 => c38.elim) (fun c38 => ?_)
          refine E_aload_n dX11_years_41 rfl ?_
          refine E_getR dX11_years_42 f_X11_79 rfl (Nat.lt_of_lt_of_le (by decide) hN) rfl (hR _ _ _ rfl) ?_
          refine E_iload dX11_years_45 rfl ?_
          refine E_ialdN dX11_years_47 rfl (Nat.lt_of_lt_of_le (by decide) hN) (by first | assumption | omega) ?_
          refine E.top (put_r I (fun y => nI (bN (fun j => cyS (σ 1 j) y (σ 3 j 3) (σ 0 j 0 - σ 3 j 3)) 12)) (by omega)) ?_
          refine E_callS (As := [_]) (kc' := 0) (ks' := 0) (kc := 0) (ks := 0) dX11_years_48 ok_J6_bitCount_0f7a4 w_X11_233 st_J6_bitCount_0f7a4 rfl rfl rfl (Nat.le_of_ble_eq_true rfl) (Nat.le_of_ble_eq_true rfl) (Nat.le_refl _) (c_bitCount ?_)
          refine E.top (bc_pop _ bl) ?_
          refine E_iload_n dX11_years_51 rfl ?_
          refine E_cN_lt (a := pop (bN (fun j => cyS (σ 1 j) i (σ 3 j 3) (σ 0 j 0 - σ 3 j 3)) 12) 12) (b := m) (tgt := 62) dX11_years_52 (by omega) (by omega) (by decide) (fun c52 => ?_) (fun c52 => ?_)
          · refine E_inc (-1) dX11_years_62 rfl (by decide) ?_
            refine E_goto (tgt := 36) dX11_years_65 (by decide) ?_
            rw [← dn_m1 i] at ih
            rw [show yrS (nyS σ) m (99 - i + 1) = yrS (nyS σ) m (99 - i) from if_neg (by rw [show 99 - (99 - i) = i by omega, ← pp]; omega)] at ih
            exact ih
          · refine E_incN dX11_years_55 rfl ?_
            refine E_iload dX11_years_58 rfl ?_
            refine E_istore dX11_years_60 (Nat.le_of_ble_eq_true rfl) ?_
            refine E_inc (-1) dX11_years_62 rfl (by decide) ?_
            refine E_goto (tgt := 36) dX11_years_65 (by decide) ?_
            rw [← dn_m1 i] at ih
            rw [show yrS (nyS σ) m (99 - i + 1) = ((yrS (nyS σ) m (99 - i)).1 + 1, nI i) from (if_pos (by rw [show 99 - (99 - i) = i by omega, ← pp]; exact c52)).trans (by rw [show 99 - (99 - i) = i by omega])] at ih
            exact ih
      refine E_iload_n dX11_years_0 rfl ?_
      refine E_ic (nI 1) dX11_years_1 (by decide) ?_
      refine E_cN_lt (a := m) (b := 1) (tgt := 20) dX11_years_2 (by omega) (by decide) (by decide) (fun c2 => absurd c2 (by omega)) (fun c2 => ?_)
      refine E_iload_n dX11_years_5 rfl ?_
      refine E_bp (nI 12) dX11_years_6 (by decide) ?_
      refine E_cN_gt (a := m) (b := 12) (tgt := 20) dX11_years_8 (by omega) (by decide) (by decide) (fun c8 => absurd c8 (by omega)) (fun c8 => ?_)
      refine E_iload_n dX11_years_11 rfl ?_
      refine E_zN_lt (a := v) (tgt := 20) dX11_years_12 (by omega) (by decide) (fun c12 => c12.elim) (fun c12 => ?_)
      refine E_iload_n dX11_years_15 rfl ?_
      refine E_ic (nI 1) dX11_years_16 (by decide) ?_
      refine E_cN_le (a := v) (b := 1) (tgt := 22) dX11_years_17 (by omega) (by decide) (by decide) (fun c17 => ?_) (fun c17 => absurd c17 (by omega))
      refine E_aload_n dX11_years_22 rfl ?_
      refine E_callV (As := []) (ci := 10) (kc' := 0) (ks' := 0) (kc := 0) (ks := 0) dX11_years_23 ok_X11_gatherWitnessesByYear w_X11_251 i_X11_gatherWitnessesByYear s_X11_gatherWitnessesByYear rfl (by decide) rfl (Nat.lt_of_lt_of_le (by decide) hN) rfl rfl rfl (Nat.le_of_ble_eq_true rfl) (Nat.le_of_ble_eq_true rfl) (Nat.le_refl _) (x_gatherW (d := 898) hB hX ?_)
      refine E_ic (nI 0) dX11_years_26 (by decide) ?_
      refine E_istore_n dX11_years_27 (Nat.le_of_ble_eq_true rfl) ?_
      refine E_bp (-2) dX11_years_28 (by decide) ?_
      refine E_istore dX11_years_30 (Nat.le_of_ble_eq_true rfl) ?_
      refine E_bp (nI 99) dX11_years_32 (by decide) ?_
      refine E_istore dX11_years_34 (Nat.le_of_ble_eq_true rfl) ?_
      exact L 100 (by omega)
    · rw [gd_f (fun z => hx z.1)] at hQ
      have hq := hQ I J hX (fun _ _ _ => rfl) (fun _ _ _ => rfl)
      refine E_iload_n dX11_years_0 rfl ?_
      refine E_ic (nI 1) dX11_years_1 (by decide) ?_
      refine E_icmp_lt (tgt := 20) dX11_years_2 (by decide) (fun c2 => ?_) (fun c2 => ?_)
      · refine E_ic (-1) dX11_years_20 (by decide) ?_
        exact E_iret dX11_years_21 rfl (hq)
      · refine E_iload_n dX11_years_5 rfl ?_
        refine E_bp (nI 12) dX11_years_6 (by decide) ?_
        refine E_icmp_gt (tgt := 20) dX11_years_8 (by decide) (fun c8 => ?_) (fun c8 => by first | exact absurd c8 (Classical.byContradiction (fun c8 => (by have h0 : ¬ x < 0 := fun z => c2 (Int32.lt_of_lt_of_le z (by decide)); obtain ⟨m, hm, rfl⟩ := nI_of h0; exact hx ⟨m, (nI_leI (by decide) hm).mp (Int32.not_lt.mp c2), (nI_leI hm (by decide)).mp (Int32.not_lt.mp c8), rfl⟩))) | exact absurd (Classical.byContradiction (fun c8 => (by have h0 : ¬ x < 0 := fun z => c2 (Int32.lt_of_lt_of_le z (by decide)); obtain ⟨m, hm, rfl⟩ := nI_of h0; exact hx ⟨m, (nI_leI (by decide) hm).mp (Int32.not_lt.mp c2), (nI_leI hm (by decide)).mp (Int32.not_lt.mp c8), rfl⟩))) c8)
        refine E_ic (-1) dX11_years_20 (by decide) ?_
        exact E_iret dX11_years_21 rfl (hq)
theorem sumS_le {p : Nat → Nat} (h : ∀ k, p k ≤ 1) : ∀ K, sumS p K ≤ K
  | 0 => Nat.le_refl _
  | K + 1 => by
    have h1 := sumS_le h K
    have h2 := h K
    show sumS p K + p K ≤ _
    omega
set_option maxRecDepth 100000 in
set_option maxHeartbeats 2000000 in
theorem sm_years (x w : Int32) : SM mX12_years [.int x, .int w] (r_years x w) id := by
  intro g n I J R σ Q hB hM hN hR hQ
  have hq := hQ I J hM (fun _ _ => rfl) rfl (fun _ _ _ => rfl)
  unfold r_years at hq
  refine E_iload_n dX12_years_0 rfl ?_
  refine E_ic (nI 1) dX12_years_1 (by decide) ?_
  refine E_bp (nI 12) dX12_years_2 (by decide) ?_
  refine E_callS (As := [_, _, _]) (kc' := 0) (ks' := 0) (kc := 0) (ks := 0) dX12_years_4 ok_X12_in w_X12_124 st_X12_in rfl rfl rfl (Nat.le_of_ble_eq_true rfl) (Nat.le_of_ble_eq_true rfl) (Nat.le_refl _) (M_in (by decide) (by decide) (fun m h1 h2 e => ?_) (fun z => ?_))
  · subst e
    refine E_zN_eq (a := 1) (tgt := 19) dX12_years_7 (by decide) (by decide) (fun c7 => absurd c7 (by omega)) (fun c7 => ?_)
    refine E_iload_n dX12_years_10 rfl ?_
    refine E_ic (nI 0) dX12_years_11 (by decide) ?_
    refine E_ic (nI 1) dX12_years_12 (by decide) ?_
    refine E_callS (As := [_, _, _]) (kc' := 0) (ks' := 0) (kc := 0) (ks := 0) dX12_years_13 ok_X12_in w_X12_124 st_X12_in rfl rfl rfl (Nat.le_of_ble_eq_true rfl) (Nat.le_of_ble_eq_true rfl) (Nat.le_refl _) (M_in (by decide) (by decide) (fun v _ h4 e => ?_) (fun z => ?_))
    · subst e
      have hg : (∃ m2, 1 ≤ m2 ∧ m2 ≤ 12 ∧ nI m = nI m2) ∧ rg (nI v) 1 := ⟨⟨m, h1, h2, rfl⟩, rg_of h4⟩
      rw [gd_t hg, nI_clamp (by omega)] at hq
      have L : ∀ j, j ≤ 100 → E g mX12_years 900 0 0 31 [.ref 114, .int (nI m), .int (nI v), .int (nI ((yrS (nyS σ) m (100 - j)).1)), .int ((yrS (nyS σ) m (100 - j)).2), .int (dnI j), jk, jk] [] n I J R Q := by
        refine loopD ?_ (fun i ih hj => ?_)
        · intro _
          refine E_iload dX12_years_31 rfl ?_
          refine E_if_lt (tgt := 105) dX12_years_33 (by decide) (fun c33 => ?_) (fun c33 => by first | exact absurd c33 ((by decide)) | exact absurd ((by decide)) c33)
          refine E_iload_n dX12_years_105 rfl ?_
          refine E_zN_ne (a := v) (tgt := 113) dX12_years_106 (by omega) (by decide) (fun c106 => ?_) (fun c106 => ?_)
          · refine E_iload dX12_years_113 rfl ?_
            exact E_iret dX12_years_115 rfl (by first | (rw [if_pos (by rw [c106])] at hq; exact hq) | (rw [if_neg (fun q => by have := (nI_eq (by omega) (by decide)).mp q; omega)] at hq; exact hq))
          · refine E_iload_n dX12_years_109 rfl ?_
            refine E_goto (tgt := 115) dX12_years_110 (by decide) ?_
            exact E_iret dX12_years_115 rfl (by first | (rw [if_pos (by rw [c106])] at hq; exact hq) | (rw [if_neg (fun q => by have := (nI_eq (by omega) (by decide)).mp q; omega)] at hq; exact hq))
        · have ih := ih (by omega)
          rw [show 100 - i = 99 - i + 1 by omega] at ih
          rw [show 100 - (i + 1) = 99 - i by omega]
          refine E.locD ?_
          have L2 : ∀ k, k ≤ 12 → E g mX12_years 900 0 0 42 [.ref 114, .int (nI m), .int (nI v), .int (nI ((yrS (nyS σ) m (99 - i)).1)), .int ((yrS (nyS σ) m (99 - i)).2), .int (nI i), .int (nI (sumS (fun k => if 0 < cyS (σ 1 k) i (σ 3 k 3) (σ 0 k 0 - σ 3 k 3) then 1 else 0) k)), .int (nI k)] [] n I J R Q := by
            refine loopU 12 ?_ (fun k hk ihk => ?_)
            · have sl : sumS (fun k => if 0 < cyS (σ 1 k) i (σ 3 k 3) (σ 0 k 0 - σ 3 k 3) then 1 else 0) 12 ≤ 12 := sumS_le (fun k => by split <;> omega) 12
              have sl2 : sumS (fun k => if 0 < cyS (σ 1 k) i (σ 3 k 3) (σ 0 k 0 - σ 3 k 3) then 1 else 0) 12 = nyS σ i := rfl
              have yl := yrS_le (nyS σ) m (99 - i)
              refine E_iload dX12_years_42 rfl ?_
              refine E_bp (nI 12) dX12_years_44 (by decide) ?_
              refine E_cN_ge (a := 12) (b := 12) (tgt := 82) dX12_years_46 (by decide) (by decide) (by decide) (fun c46 => ?_) (fun c46 => absurd c46 (by omega))
              refine E_iload dX12_years_82 rfl ?_
              refine E_iload_n dX12_years_84 rfl ?_
              refine E_cN_ge (a := sumS (fun k => if 0 < cyS (σ 1 k) i (σ 3 k 3) (σ 0 k 0 - σ 3 k 3) then 1 else 0) 12) (b := m) (tgt := 91) dX12_years_85 (Nat.lt_of_le_of_lt sl (by decide)) (by omega) (by decide) (fun c85 => ?_) (fun c85 => ?_)
              · refine E_iload_n dX12_years_91 rfl ?_
                refine E_ic (nI 1) dX12_years_92 (by decide) ?_
                refine E_iadd dX12_years_93 ?_
                refine E.top (nI_add ((yrS (nyS σ) m (99 - i)).1) 1) ?_
                refine E_istore_n dX12_years_94 (Nat.le_of_ble_eq_true rfl) ?_
                refine E_iload dX12_years_95 rfl ?_
                refine E_istore dX12_years_97 (Nat.le_of_ble_eq_true rfl) ?_
                refine E_inc (-1) dX12_years_99 rfl (by decide) ?_
                refine E_goto (tgt := 31) dX12_years_102 (by decide) ?_
                refine E.mask [true, true, true, true, true, true, false, false] ?_
                rw [← dn_m1 i] at ih
                rw [show yrS (nyS σ) m (99 - i + 1) = ((yrS (nyS σ) m (99 - i)).1 + 1, nI i) from (if_pos (by rw [show 99 - (99 - i) = i by omega]; exact c85)).trans (by rw [show 99 - (99 - i) = i by omega])] at ih
                exact ih
              · refine E_goto (tgt := 99) dX12_years_88 (by decide) ?_
                refine E_inc (-1) dX12_years_99 rfl (by decide) ?_
                refine E_goto (tgt := 31) dX12_years_102 (by decide) ?_
                refine E.mask [true, true, true, true, true, true, false, false] ?_
                rw [← dn_m1 i] at ih
                rw [show yrS (nyS σ) m (99 - i + 1) = yrS (nyS σ) m (99 - i) from if_neg (by rw [show 99 - (99 - i) = i by omega]; exact Nat.not_le.mpr c85)] at ih
                exact ih
            · have b := hB.1 k hk
              have sz := syS_z (f := σ 1 k) (s := σ 2 k) (y := i) (a := σ 3 k 3) (σ 0 k 0 - σ 3 k 3)
              have slt := syS_lt (f := σ 1 k) (s := σ 2 k) (y := i) (a := σ 3 k 3) (σ 0 k 0 - σ 3 k 3) (fun i hi => (b.2.1 (σ 3 k 3 + i) (by omega)).2)
              refine E_iload dX12_years_42 rfl ?_
              refine E_bp (nI 12) dX12_years_44 (by decide) ?_
              refine E_cN_ge (a := k) (b := 12) (tgt := 82) dX12_years_46 (by omega) (by decide) (by decide) (fun c46 => absurd c46 (by omega)) (fun c46 => ?_)
              refine E_aload_n dX12_years_49 rfl ?_
              refine E_iload dX12_years_50 rfl ?_
              refine E_iload dX12_years_52 rfl ?_
              refine E_aload_n dX12_years_54 rfl ?_
              refine E_getR dX12_years_55 f_X12_7 rfl (Nat.lt_of_lt_of_le (by decide) hN) rfl (hR _ _ _ rfl) ?_
              refine E_bp (nI 60) dX12_years_58 (by decide) ?_
              refine E_iload dX12_years_60 rfl ?_
              refine E_iadd dX12_years_62 ?_
              refine E.top (nI_add 60 k) ?_
              refine E_ialdN dX12_years_63 rfl (Nat.lt_of_lt_of_le (by decide) hN) (by first | assumption | omega) ?_
              refine E.top ((hM.2.1.1 k (by first | assumption | omega)).2.2.2.2.2) ?_
              refine E_callV (As := [_, _, _]) (ci := 11) (kc' := 0) (ks' := 0) (kc := 0) (ks := 0) dX12_years_64 ok_X12_sinsOfYear w_X12_382 i_X12_sinsOfYear s_X12_sinsOfYear rfl (by decide) rfl (Nat.lt_of_lt_of_le (by decide) hN) rfl rfl rfl (Nat.le_of_ble_eq_true rfl) (Nat.le_of_ble_eq_true rfl) (Nat.le_refl _) (m_soy (d := 898) hB hM hN hR hk (by omega) b.2.2.2 ?_)
              refine E_zN_eq (a := syS (σ 1 k) (σ 2 k) i (σ 3 k 3) (σ 0 k 0 - σ 3 k 3)) (tgt := 76) dX12_years_67 (by omega) (by decide) (fun c67 => ?_) (fun c67 => ?_)
              · refine E_incN dX12_years_76 rfl ?_
                refine E_goto (tgt := 42) dX12_years_79 (by decide) ?_
                rw [show sumS (fun k => if 0 < cyS (σ 1 k) i (σ 3 k 3) (σ 0 k 0 - σ 3 k 3) then 1 else 0) (k + 1) = sumS (fun k => if 0 < cyS (σ 1 k) i (σ 3 k 3) (σ 0 k 0 - σ 3 k 3) then 1 else 0) k from sumS_s (v := 0) (if_neg (by omega))] at ihk
                exact ihk
              · refine E_iload dX12_years_70 rfl ?_
                refine E_ic (nI 1) dX12_years_72 (by decide) ?_
                refine E_iadd dX12_years_73 ?_
                refine E.top (nI_add (sumS (fun k => if 0 < cyS (σ 1 k) i (σ 3 k 3) (σ 0 k 0 - σ 3 k 3) then 1 else 0) k) 1) ?_
                refine E_istore dX12_years_74 (Nat.le_of_ble_eq_true rfl) ?_
                refine E_incN dX12_years_76 rfl ?_
                refine E_goto (tgt := 42) dX12_years_79 (by decide) ?_
                rw [show sumS (fun k => if 0 < cyS (σ 1 k) i (σ 3 k 3) (σ 0 k 0 - σ 3 k 3) then 1 else 0) (k + 1) = sumS (fun k => if 0 < cyS (σ 1 k) i (σ 3 k 3) (σ 0 k 0 - σ 3 k 3) then 1 else 0) k + 1 from sumS_s (v := 1) (if_pos (by omega))] at ihk
                exact ihk
          refine E_iload dX12_years_31 rfl ?_
          refine E_zN_lt (a := i) (tgt := 105) dX12_years_33 (by omega) (by decide) (fun c33 => c33.elim) (fun c33 => ?_)
          refine E_ic (nI 0) dX12_years_36 (by decide) ?_
          refine E_istore dX12_years_37 (Nat.le_of_ble_eq_true rfl) ?_
          refine E_ic (nI 0) dX12_years_39 (by decide) ?_
          refine E_istore dX12_years_40 (Nat.le_of_ble_eq_true rfl) ?_
          exact L2 0 (by omega)
      refine E_zN_ne (a := 1) (tgt := 21) dX12_years_16 (by decide) (by decide) (fun c16 => ?_) (fun c16 => absurd c16 (by omega))
      refine E_ic (nI 0) dX12_years_21 (by decide) ?_
      refine E_istore_n dX12_years_22 (Nat.le_of_ble_eq_true rfl) ?_
      refine E_bp (-2) dX12_years_23 (by decide) ?_
      refine E_istore dX12_years_25 (Nat.le_of_ble_eq_true rfl) ?_
      refine E_bp (nI 99) dX12_years_27 (by decide) ?_
      refine E_istore dX12_years_29 (Nat.le_of_ble_eq_true rfl) ?_
      exact L 100 (by omega)
    · rw [gd_f (fun y => by obtain ⟨j, hj, e⟩ := y.2; exact z j (Nat.zero_le _) hj e)] at hq
      refine E_zN_ne (a := 0) (tgt := 21) dX12_years_16 (by decide) (by decide) (fun c16 => absurd c16 (by omega)) (fun c16 => ?_)
      refine E_ic (-1) dX12_years_19 (by decide) ?_
      exact E_iret dX12_years_20 rfl (hq)
  · rw [gd_f (fun y => by obtain ⟨j, hj1, hj2, e⟩ := y.1; exact z j hj1 hj2 e)] at hq
    refine E_zN_eq (a := 0) (tgt := 19) dX12_years_7 (by decide) (by decide) (fun c7 => ?_) (fun c7 => absurd c7 (by omega))
    refine E_ic (-1) dX12_years_19 (by decide) ?_
    exact E_iret dX12_years_20 rfl (hq)
end PYears
