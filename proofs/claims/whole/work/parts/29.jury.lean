/-! ===== the tape's bytes tried; jury ===== -/
def putJ (I : JM) (a L : Nat) (f : Nat → Int64) : JM := fun x y => if x = a ∧ y < L then f y else I x y
theorem putJ_r (I : JM) (f : Nat → Int64) {a L i : Nat} (h : i < L) : putJ I a L f a i = f i := if_pos ⟨rfl, h⟩
theorem putJ_s (I : JM) (f : Nat → Int64) {a L i : Nat} {v : Int64} {f' : Nat → Int64} (h : i < L) (h' : ∀ y, y < L → f' y = if y = i then v else f y) : up2 (putJ I a L f) a i v = putJ I a L f' := by
  funext x y
  unfold up2 putJ
  by_cases c : x = a ∧ y < L
  · have e1 : (if x = a ∧ y < L then f' y else I x y) = f' y := if_pos c
    rw [e1, h' y c.2]
    by_cases h2 : y = i
    · rw [if_pos h2]
      exact if_pos ⟨c.1, h2⟩
    · rw [if_neg h2]
      exact (if_neg (fun q => h2 q.2)).trans (if_pos c)
  · have e1 : (if x = a ∧ y < L then f' y else I x y) = I x y := if_neg c
    rw [e1]
    exact (if_neg (fun q => c ⟨q.1, by rw [q.2]; exact h⟩)).trans (if_neg c)
theorem putJ_g (I : JM) (f : Nat → Int64) {a i : Nat} {v : Int64} (h : f i = v) : up2 (putJ I a i f) a i v = putJ I a (i + 1) f := by
  funext x y
  unfold up2 putJ
  by_cases e : x = a
  · subst e
    by_cases h2 : y = i
    · subst h2
      rw [if_pos ⟨rfl, rfl⟩, if_pos ⟨rfl, by omega⟩, h]
    · rw [if_neg (fun q => h2 q.2)]
      by_cases h1 : y < i
      · rw [if_pos ⟨rfl, h1⟩, if_pos ⟨rfl, by omega⟩]
      · rw [if_neg (fun q => h1 q.2), if_neg (fun q => by omega)]
  · rw [if_neg (fun q => e q.1), if_neg (fun q => e q.1), if_neg (fun q => e q.1)]
theorem putJ_0 (I : JM) (a : Nat) (f : Nat → Int64) : putJ I a 0 f = I := by
  funext x y
  exact if_neg (fun q => Nat.not_lt_zero _ q.2)
theorem putJ_fil (I : JM) (a L : Nat) (v : Int64) {f : Nat → Int64} (h : ∀ y, f y = v) : filJ I a L v = putJ I a L f := by
  funext x y
  unfold filJ putJ
  rw [h y]
theorem putJ_e (I : JM) (a L : Nat) {f f' : Nat → Int64} (h : ∀ y, y < L → f y = f' y) : putJ I a L f = putJ I a L f' := by
  funext x y
  unfold putJ
  by_cases c : x = a ∧ y < L
  · rw [if_pos c, if_pos c, h y c.2]
  · rw [if_neg c, if_neg c]
/-- the tape's bytes, as the class holds them -/
def TX (σ : ST) (I : IM) : Prop := ∀ j, j < σ 9 0 0 → I 2 j = nI (σ 8 j 0)
section PAny
variable {g : GL} {d n : Nat} {I : IM} {J : JM} {R : RM} {Q : PQ} {σ : ST}
set_option maxRecDepth 100000 in
set_option maxHeartbeats 2000000 in
theorem x_anyAbove {m fr sp mo : Nat} (hB : BND σ) (hN : 152 ≤ n) (hR : RS R) (hT : TX σ I) (hm : m ≤ σ 9 0 0) (hs : 0 < sp) (hs2 : sp ≤ 2) (hfr : fr ≤ 1) (hmo : mo < 300) (ht : (∃ q, fr + sp * q < m ∧ mo < σ 8 (fr + sp * q) 0) → Q (some (.int 1)) n I J R) (hf : (∀ q, fr + sp * q < m → σ 8 (fr + sp * q) 0 ≤ mo) → Q (some (.int 0)) n I J R) : E g mX11_anyAbove d 0 0 0 (ent 6 [.ref 0, .int (nI m), .int (nI fr), .int (nI sp), .int (nI mo)]) [] n I J R Q := by
  have b9 : σ 9 0 0 ≤ 260 := hB.2.2.2.2.2.1
  have hb8 : ∀ j, j < σ 9 0 0 → σ 8 j 0 < 256 := hB.2.2.2.2.1
  have L : ∀ q, q ≤ m → (∀ q2, q2 < q → σ 8 (fr + sp * q2) 0 ≤ mo) → E g mX11_anyAbove d 0 0 3 [.ref 0, .int (nI m), .int (nI fr), .int (nI sp), .int (nI mo), .int (nI (fr + sp * q))] [] n I J R Q := by
    refine loopU m (fun hc => ?_) (fun q hq ih hc => ?_)
    · have hsq := Nat.mul_le_mul hs2 (show m ≤ 260 by omega)
      have hsm : m ≤ sp * m := Nat.le_mul_of_pos_left m hs
      refine E_iload dX11_anyAbove_3 rfl ?_
      refine E_iload_n dX11_anyAbove_5 rfl ?_
      refine E_cN_ge (a := fr + sp * m) (b := m) (tgt := 32) dX11_anyAbove_6 (by omega) (by omega) (by decide) (fun c6 => ?_) (fun c6 => absurd c6 (by omega))
      refine E_ic (nI 0) dX11_anyAbove_32 (by decide) ?_
      exact E_zret dX11_anyAbove_33 rfl (by decide) (hf (fun q2 h2 => hc q2 (Nat.lt_of_not_le (fun z => by have := Nat.mul_le_mul_left sp z; omega))))
    · have hsq := Nat.mul_le_mul hs2 (show q ≤ 260 by omega)
      have b8 := hb8 (fr + sp * q)
      refine E_iload dX11_anyAbove_3 rfl ?_
      refine E_iload_n dX11_anyAbove_5 rfl ?_
      refine E_cN_ge (a := fr + sp * q) (b := m) (tgt := 32) dX11_anyAbove_6 (by omega) (by omega) (by decide) (fun c6 => ?_) (fun c6 => ?_)
      · refine E_ic (nI 0) dX11_anyAbove_32 (by decide) ?_
        exact E_zret dX11_anyAbove_33 rfl (by decide) (hf (fun q2 h2 => hc q2 (Nat.lt_of_not_le (fun z => by have := Nat.mul_le_mul_left sp z; omega))))
      · refine E_aload_n dX11_anyAbove_9 rfl ?_
        refine E_getR dX11_anyAbove_10 f_X11_15 rfl (Nat.lt_of_lt_of_le (by decide) hN) rfl (hR _ _ _ rfl) ?_
        refine E_iload dX11_anyAbove_13 rfl ?_
        refine E_ialdN dX11_anyAbove_15 rfl (Nat.lt_of_lt_of_le (by decide) hN) (by first | assumption | omega) ?_
        refine E.top (hT (fr + sp * q) (by omega)) ?_
        refine E_iload dX11_anyAbove_16 rfl ?_
        refine E_cN_le (a := σ 8 (fr + sp * q) 0) (b := mo) (tgt := 23) dX11_anyAbove_18 (by omega) (by omega) (by decide) (fun c18 => ?_) (fun c18 => ?_)
        · refine E_iload dX11_anyAbove_23 rfl ?_
          refine E_iload_n dX11_anyAbove_25 rfl ?_
          refine E_iadd dX11_anyAbove_26 ?_
          refine E.top (nI_add (fr + sp * q) sp) ?_
          refine E_istore dX11_anyAbove_27 (Nat.le_of_ble_eq_true rfl) ?_
          refine E_goto (tgt := 3) dX11_anyAbove_29 (by decide) ?_
          rw [show fr + sp * (q + 1) = fr + sp * q + sp by rw [Nat.mul_succ, Nat.add_assoc]] at ih
          exact ih (fun q2 h2 => by rcases Nat.lt_succ_iff_lt_or_eq.mp h2 with z | z; exact hc q2 z; subst z; exact c18)
        · refine E_ic (nI 1) dX11_anyAbove_21 (by decide) ?_
          exact E_zret dX11_anyAbove_22 rfl (by decide) (ht ⟨q, c6, c18⟩)
  refine E_iload_n dX11_anyAbove_0 rfl ?_
  refine E_istore dX11_anyAbove_1 (Nat.le_of_ble_eq_true rfl) ?_
  exact L 0 (Nat.zero_le _) (fun q h => absurd h (Nat.not_lt_zero q))
end PAny
/-- in how many ways so many are in it: after j bytes t -/
def wyS (t : Nat → Nat) : Nat → Nat → Nat
  | 0 => fun m => if m = 0 then 1 else 0
  | j + 1 => fun m => if m = 0 then wyS t j 0 * (10 - t j) else wyS t j m * (10 - t j) + wyS t j (m - 1) * t j
theorem wyS_0 (t : Nat → Nat) : ∀ j m, j < m → wyS t j m = 0
  | 0, m, h => if_neg (by omega)
  | j + 1, m, h => by
    show (if m = 0 then _ else wyS t j m * (10 - t j) + wyS t j (m - 1) * t j) = 0
    rw [if_neg (by omega), wyS_0 t j m (by omega), wyS_0 t j (m - 1) (by omega), Nat.zero_mul, Nat.zero_mul]
theorem wyS_s1 (t : Nat → Nat) (j m : Nat) : wyS t (j + 1) (m + 1) = wyS t j (m + 1) * (10 - t j) + wyS t j m * t j := by
  show (if m + 1 = 0 then wyS t j 0 * (10 - t j) else wyS t j (m + 1) * (10 - t j) + wyS t j (m + 1 - 1) * t j) = _
  rw [if_neg (Nat.succ_ne_zero m), Nat.add_sub_cancel]
theorem wyS_s2 (t : Nat → Nat) (j : Nat) {m : Nat} (h : 0 < m) : wyS t (j + 1) m = wyS t j m * (10 - t j) + wyS t j (m - 1) * t j := if_neg (by omega)
/-- a row in the making: from q on it is new -/
def wyI (t : Nat → Nat) (j q : Nat) : Nat → Nat := fun y => if q ≤ y then wyS t (j + 1) y else wyS t j y
def swS (f : Nat → Nat) (k : Nat) : Nat → Nat
  | 0 => 0
  | c + 1 => swS f k c + f (k + c)
theorem swS_z {f : Nat → Nat} {k m : Nat} (h : ∀ y, m ≤ y → f y = 0) : ∀ c, swS f k (m - k + c) = swS f k (m - k) ∨ m < k
  | 0 => Or.inl rfl
  | c + 1 => by
    rcases Nat.lt_or_ge m k with z | z
    · exact Or.inr z
    · left
      rcases swS_z (k := k) h c with q | q
      · show swS f k (m - k + c) + f (k + (m - k + c)) = _
        rw [h _ (by omega), Nat.add_zero, q]
      · omega
theorem swS_z2 {f : Nat → Nat} {k : Nat} (h : ∀ y, k ≤ y → f y = 0) : ∀ c, swS f k c = 0
  | 0 => rfl
  | c + 1 => by
    show swS f k c + f (k + c) = 0
    rw [h _ (by omega), swS_z2 h c]
theorem swS_e {f : Nat → Nat} {k m : Nat} (h : ∀ y, m < y → f y = 0) (hm : m ≤ 12) (hk : k ≤ 12) : swS f k (13 - k) = swS f k (m + 1 - k) := by
  rcases Nat.lt_or_ge (m + 1) k with z | z
  · rw [swS_z2 (fun y hy => h y (by omega)), show m + 1 - k = 0 by omega]
    rfl
  · rcases swS_z (k := k) (m := m + 1) (fun y hy => h y (by omega)) (12 - m) with q | q
    · rw [← q]
      congr 1
      omega
    · omega
abbrev tpJ (σ : ST) (m mo : Nat) : Prop := ∃ j, j < m ∧ mo < σ 8 j 0
noncomputable def r_jury (x w : Int32) (σ : ST) : Value := .long (gd (tp σ x 1 12 ∧ rg w 12) (gd (tpJ σ x.toNatClampNeg 10) (-2) (lN (swS (wyS (fun j => σ 8 j 0) x.toNatClampNeg) w.toNatClampNeg (x.toNatClampNeg + 1 - w.toNatClampNeg)))) (-1))
noncomputable def u_jury (x w : Int32) (σ : ST) : ST := gd (tp σ x 1 12 ∧ rg w 12) (u0 σ) σ
theorem b_jury (x w : Int32) : ∀ σ, BND σ → BND (u_jury x w σ) := by
  intro σ h
  unfold u_jury
  by_cases c : tp σ x 1 12 ∧ rg w 12
  · rw [gd_t c]
    exact u0_B h
  · rw [gd_f c]
    exact h
section PJury
variable {g : GL} {d n : Nat} {I : IM} {J : JM} {R : RM} {Q : PQ} {σ : ST}
set_option maxRecDepth 100000 in
set_option maxHeartbeats 2000000 in
theorem x_countWays {m : Nat} (hN : 152 ≤ n) (hR : RS R) (hT : TX σ I) (hm : m ≤ 12) (hm2 : m ≤ σ 9 0 0) (h10 : ∀ j, j < m → σ 8 j 0 ≤ 10) (hQ : Q none n I (putJ J 53 13 (fun y => lN (wyS (fun j => σ 8 j 0) m y))) R) : E g mX11_countWays (d + 1) 0 0 0 (ent 5 [.ref 0, .int (nI m)]) [] n I J R Q := by
  have L : ∀ j, j ≤ m → E g mX11_countWays (d + 1) 0 0 17 [.ref 0, .int (nI m), .int (nI j), jk, jk] [] n I (putJ J 53 13 (fun y => lN (wyS (fun j => σ 8 j 0) j y))) R Q := by
    refine loopU m ?_ (fun j hj ihj => ?_)
    · refine E_iload_n dX11_countWays_17 rfl ?_
      refine E_iload_n dX11_countWays_18 rfl ?_
      refine E_cN_ge (a := m) (b := m) (tgt := 102) dX11_countWays_19 (by omega) (by omega) (by decide) (fun c19 => ?_) (fun c19 => absurd c19 (by omega))
      exact E_ret dX11_countWays_102 rfl (hQ)
    · have h10 := h10 j hj
      have L2 : ∀ q, q ≤ j + 1 → E g mX11_countWays (d + 1) 0 0 34 [.ref 0, .int (nI m), .int (nI j), .int (nI (σ 8 j 0)), .int (nI q)] [] n I (putJ J 53 13 (fun y => lN (wyI (fun j => σ 8 j 0) j (q + 1) y))) R Q := by
        refine loopD ?_ (fun q ih hq => ?_)
        · intro _
          refine E_iload dX11_countWays_34 rfl ?_
          refine E_zN_le (a := 0) (tgt := 78) dX11_countWays_36 (by decide) (by decide) (fun c36 => ?_) (fun c36 => absurd c36 (by omega))
          refine E_aload_n dX11_countWays_78 rfl ?_
          refine E_getR dX11_countWays_79 f_X11_82 rfl (Nat.lt_of_lt_of_le (by decide) hN) rfl (hR _ _ _ rfl) ?_
          refine E_ic (nI 0) dX11_countWays_82 (by decide) ?_
          refine E_aload_n dX11_countWays_83 rfl ?_
          refine E_getR dX11_countWays_84 f_X11_82 rfl (Nat.lt_of_lt_of_le (by decide) hN) rfl (hR _ _ _ rfl) ?_
          refine E_ic (nI 0) dX11_countWays_87 (by decide) ?_
          refine E_laldN dX11_countWays_88 rfl (Nat.lt_of_lt_of_le (by decide) hN) (by decide) ?_
          refine E.topl (putJ_r J (fun y => lN (wyI (fun j => σ 8 j 0) j 1 y)) (by omega)) ?_
          refine E_bp (nI 10) dX11_countWays_89 (by decide) ?_
          refine E_iload_n dX11_countWays_91 rfl ?_
          refine E_isub dX11_countWays_92 ?_
          refine E.top (pk_sub (a := 10) (b := σ 8 j 0) (by omega)) ?_
          refine E_i2l dX11_countWays_93 ?_
          refine E.topl (nI_l (n := 10 - (σ 8 j 0)) (by omega)) ?_
          refine E_lmul dX11_countWays_94 ?_
          refine E.topl (lN_mul (wyI (fun j => σ 8 j 0) j 1 0) (10 - (σ 8 j 0))) ?_
          refine E_lastN dX11_countWays_95 rfl (Nat.lt_of_lt_of_le (by decide) hN) (by decide) ?_
          refine E.memJ (putJ_s (f' := (fun y => lN (wyS (fun j => σ 8 j 0) (j + 1) y))) J _ (by omega) (fun y hy => ?_)) ?_
          · show lN (if y = 0 then _ else _) = if y = 0 then _ else lN (if 1 ≤ y then (if y = 0 then _ else _) else _)
            by_cases e : y = 0
            · rw [if_pos e, if_pos e]
              rfl
            · rw [if_neg e, if_neg e, if_pos (by omega)]
          refine E_incN dX11_countWays_96 rfl ?_
          refine E_goto (tgt := 17) dX11_countWays_99 (by decide) ?_
          refine E.mask [true, true, true, false, false] ?_
          exact ihj
        · have ih := ih (by omega)
          refine E_iload dX11_countWays_34 rfl ?_
          refine E_zN_le (a := q + 1) (tgt := 78) dX11_countWays_36 (by omega) (by decide) (fun c36 => absurd c36 (by omega)) (fun c36 => ?_)
          refine E_aload_n dX11_countWays_39 rfl ?_
          refine E_getR dX11_countWays_40 f_X11_82 rfl (Nat.lt_of_lt_of_le (by decide) hN) rfl (hR _ _ _ rfl) ?_
          refine E_iload dX11_countWays_43 rfl ?_
          refine E_aload_n dX11_countWays_45 rfl ?_
          refine E_getR dX11_countWays_46 f_X11_82 rfl (Nat.lt_of_lt_of_le (by decide) hN) rfl (hR _ _ _ rfl) ?_
          refine E_iload dX11_countWays_49 rfl ?_
          refine E_laldN dX11_countWays_51 rfl (Nat.lt_of_lt_of_le (by decide) hN) (by first | assumption | omega) ?_
          refine E.topl (putJ_r J (fun y => lN (wyI (fun j => σ 8 j 0) j (q + 2) y)) (by omega)) ?_
          refine E_bp (nI 10) dX11_countWays_52 (by decide) ?_
          refine E_iload_n dX11_countWays_54 rfl ?_
          refine E_isub dX11_countWays_55 ?_
          refine E.top (pk_sub (a := 10) (b := σ 8 j 0) (by omega)) ?_
          refine E_i2l dX11_countWays_56 ?_
          refine E.topl (nI_l (n := 10 - (σ 8 j 0)) (by omega)) ?_
          refine E_lmul dX11_countWays_57 ?_
          refine E.topl (lN_mul (wyI (fun j => σ 8 j 0) j (q + 2) (q + 1)) (10 - (σ 8 j 0))) ?_
          refine E_aload_n dX11_countWays_58 rfl ?_
          refine E_getR dX11_countWays_59 f_X11_82 rfl (Nat.lt_of_lt_of_le (by decide) hN) rfl (hR _ _ _ rfl) ?_
          refine E_iload dX11_countWays_62 rfl ?_
          refine E_ic (nI 1) dX11_countWays_64 (by decide) ?_
          refine E_isub dX11_countWays_65 ?_
          refine E.top (nI_pred q) ?_
          refine E_laldN dX11_countWays_66 rfl (Nat.lt_of_lt_of_le (by decide) hN) (by first | assumption | omega) ?_
          refine E.topl (putJ_r J (fun y => lN (wyI (fun j => σ 8 j 0) j (q + 2) y)) (by omega)) ?_
          refine E_iload_n dX11_countWays_67 rfl ?_
          refine E_i2l dX11_countWays_68 ?_
          refine E.topl (nI_l (n := σ 8 j 0) (by omega)) ?_
          refine E_lmul dX11_countWays_69 ?_
          refine E.topl (lN_mul (wyI (fun j => σ 8 j 0) j (q + 2) q) (σ 8 j 0)) ?_
          refine E_ladd dX11_countWays_70 ?_
          refine E.topl (lN_add ((wyI (fun j => σ 8 j 0) j (q + 2) (q + 1)) * (10 - (σ 8 j 0))) ((wyI (fun j => σ 8 j 0) j (q + 2) q) * (σ 8 j 0))) ?_
          refine E_lastN dX11_countWays_71 rfl (Nat.lt_of_lt_of_le (by decide) hN) (by first | assumption | omega) ?_
          refine E.memJ (putJ_s (f' := (fun y => lN (wyI (fun j => σ 8 j 0) j (q + 1) y))) J _ (by omega) (fun y hy => ?_)) ?_
          · by_cases e : y = q + 1
            · subst e
              rw [if_pos rfl]
              show lN (wyI (fun j => σ 8 j 0) j (q + 1) (q + 1)) = _
              unfold wyI
              rw [if_pos (Nat.le_refl _), if_neg (by omega), if_neg (by omega), wyS_s1]
            · rw [if_neg e]
              show lN (wyI (fun j => σ 8 j 0) j (q + 1) y) = lN (wyI (fun j => σ 8 j 0) j (q + 2) y)
              unfold wyI
              by_cases c : q + 2 ≤ y
              · rw [if_pos c, if_pos (by omega)]
              · rw [if_neg c, if_neg (by omega)]
          refine E_decN dX11_countWays_72 rfl ?_
          refine E_goto (tgt := 34) dX11_countWays_75 (by decide) ?_
          exact ih
      refine E_iload_n dX11_countWays_17 rfl ?_
      refine E_iload_n dX11_countWays_18 rfl ?_
      refine E_cN_ge (a := j) (b := m) (tgt := 102) dX11_countWays_19 (by omega) (by omega) (by decide) (fun c19 => absurd c19 (by omega)) (fun c19 => ?_)
      refine E_aload_n dX11_countWays_22 rfl ?_
      refine E_getR dX11_countWays_23 f_X11_15 rfl (Nat.lt_of_lt_of_le (by decide) hN) rfl (hR _ _ _ rfl) ?_
      refine E_iload_n dX11_countWays_26 rfl ?_
      refine E_ialdN dX11_countWays_27 rfl (Nat.lt_of_lt_of_le (by decide) hN) (by first | assumption | omega) ?_
      refine E.top (hT j (by omega)) ?_
      refine E_istore_n dX11_countWays_28 (Nat.le_of_ble_eq_true rfl) ?_
      refine E_iload_n dX11_countWays_29 rfl ?_
      refine E_ic (nI 1) dX11_countWays_30 (by decide) ?_
      refine E_iadd dX11_countWays_31 ?_
      refine E.top (nI_add j 1) ?_
      refine E_istore dX11_countWays_32 (Nat.le_of_ble_eq_true rfl) ?_
      refine E.memJ (putJ_e J 53 13 (f' := (fun y => lN (wyI (fun j => σ 8 j 0) j (j + 1 + 1) y))) (fun y hy => ?_)) (L2 (j + 1) (Nat.le_refl _))
      show lN _ = lN (if j + 1 + 1 ≤ y then _ else _)
      by_cases c : j + 1 + 1 ≤ y
      · rw [if_pos c, wyS_0 _ j y (by omega), wyS_0 _ (j + 1) y (by omega)]
      · rw [if_neg c]
  refine E_aload_n dX11_countWays_0 rfl ?_
  refine E_getR dX11_countWays_1 f_X11_82 rfl (Nat.lt_of_lt_of_le (by decide) hN) rfl (hR _ _ _ rfl) ?_
  refine E_lc (lN 0) dX11_countWays_4 (by decide) ?_
  refine E_callS (As := [_, _]) (kc' := 0) (ks' := 0) (kc := 0) (ks := 0) dX11_countWays_5 ok_J7_fill_d0a16 w_X11_335 st_J7_fill_d0a16 rfl rfl rfl (Nat.le_of_ble_eq_true rfl) (Nat.le_of_ble_eq_true rfl) (Nat.le_refl _) (c_fillJ (L := 13) rfl (Nat.lt_of_lt_of_le (by decide) hN) ?_)
  refine E.memJ (putJ_fil J 53 13 (lN 0) (f := fun _ => lN 0) (fun _ => rfl)) ?_
  refine E_aload_n dX11_countWays_8 rfl ?_
  refine E_getR dX11_countWays_9 f_X11_82 rfl (Nat.lt_of_lt_of_le (by decide) hN) rfl (hR _ _ _ rfl) ?_
  refine E_ic (nI 0) dX11_countWays_12 (by decide) ?_
  refine E_lc (lN 1) dX11_countWays_13 (by decide) ?_
  refine E_lastN dX11_countWays_14 rfl (Nat.lt_of_lt_of_le (by decide) hN) (by decide) ?_
  refine E.memJ (putJ_s (f' := (fun y => lN (wyS (fun j => σ 8 j 0) 0 y))) J _ (by omega) (fun y hy => ?_)) ?_
  · show lN (if y = 0 then _ else _) = _
    by_cases e : y = 0
    · rw [if_pos e, if_pos e]
    · rw [if_neg e, if_neg e]
  refine E_ic (nI 0) dX11_countWays_15 (by decide) ?_
  refine E_istore_n dX11_countWays_16 (Nat.le_of_ble_eq_true rfl) ?_
  exact L 0 (Nat.zero_le _)
set_option maxRecDepth 100000 in
set_option maxHeartbeats 2000000 in
theorem sx_jury (x w : Int32) : SX mX11_jury [.int x, .int w] (r_jury x w) (u_jury x w) := by
  intro g n I J R σ Q hB hX hQ
  have hN := hX.2.2.2.1.n.1
  have hR := hX.2.2.2.1.1
  have b9 : σ 9 0 0 ≤ 260 := hB.2.2.2.2.2.1
  unfold r_jury u_jury at hQ
  rcases i32_ix w 13 (by decide) with hw | ⟨k, hk, rfl⟩
  · have hno : ¬ (tp σ x 1 12 ∧ rg w 12) := fun z => rg_no hw (by decide) z.2
    rw [gd_f hno] at hQ
    rw [gd_f hno] at hQ
    have hq := hQ I J hX (fun _ _ _ => rfl) (fun _ _ _ => rfl)
    refine E_iload_n dX11_jury_0 rfl ?_
    refine E_if_lt (tgt := 21) dX11_jury_1 (by decide) (fun c1 => ?_) (fun c1 => ?_)
    · refine E_ldc2 (-1) dX11_jury_21 k_X11_257 ?_
      exact E_lret dX11_jury_24 rfl (hq)
    · refine E_iload_n dX11_jury_4 rfl ?_
      refine E_bp (nI 12) dX11_jury_5 (by decide) ?_
      refine E_icmp_gt (tgt := 21) dX11_jury_7 (by decide) (fun c7 => ?_) (fun c7 => by first | exact absurd c7 (hw.elim (fun q => absurd q c1) (fun q => Int32.lt_of_lt_of_le (by decide) q)) | exact absurd (hw.elim (fun q => absurd q c1) (fun q => Int32.lt_of_lt_of_le (by decide) q)) c7)
      refine E_ldc2 (-1) dX11_jury_21 k_X11_257 ?_
      exact E_lret dX11_jury_24 rfl (hq)
  · refine E_iload_n dX11_jury_0 rfl ?_
    refine E_zN_lt (a := k) (tgt := 21) dX11_jury_1 (by omega) (by decide) (fun c1 => c1.elim) (fun c1 => ?_)
    refine E_iload_n dX11_jury_4 rfl ?_
    refine E_bp (nI 12) dX11_jury_5 (by decide) ?_
    refine E_cN_gt (a := k) (b := 12) (tgt := 21) dX11_jury_7 (by omega) (by decide) (by decide) (fun c7 => absurd c7 (by omega)) (fun c7 => ?_)
    refine E_aload_n dX11_jury_10 rfl ?_
    refine E_iload_n dX11_jury_11 rfl ?_
    refine E_ic (nI 1) dX11_jury_12 (by decide) ?_
    refine E_bp (nI 12) dX11_jury_13 (by decide) ?_
    refine E_callV (As := [_, _, _]) (ci := 10) (kc' := 0) (ks' := 0) (kc := 0) (ks := 0) dX11_jury_15 ok_X11_tapeHas w_X11_113 i_X11_tapeHas s_X11_tapeHas rfl (by decide) rfl (Nat.lt_of_lt_of_le (by decide) hN) rfl rfl rfl (Nat.le_of_ble_eq_true rfl) (Nat.le_of_ble_eq_true rfl) (Nat.le_refl _) (X_tapeHas (d := 899) (by decide) (by decide) hB hX (fun m h1 h2 h3 e => ?_) (fun z => ?_))
    · subst e
      have hg : tp σ (nI m) 1 12 ∧ rg (nI k) 12 := ⟨tp_of h1 h2 h3, rg_of (by omega)⟩
      rw [gd_t hg] at hQ
      rw [gd_t hg, nI_clamp (n := m) (by omega), nI_clamp (n := k) (by omega)] at hQ
      have hq := fun J' => hQ (up2 I 0 2 (nI 0)) J' (u0_X hX) (fun a a1 _ => up2_o I 0 2 _ a (by omega)) (fun a a1 _ => up2_o I 0 2 _ a (by omega))
      have hT : TX σ (up2 I 0 2 (nI 0)) := fun j hj => hX.2.2.1 j hj
      refine E_zN_ne (a := 1) (tgt := 25) dX11_jury_18 (by decide) (by decide) (fun c18 => ?_) (fun c18 => absurd c18 (by omega))
      refine E_aload_n dX11_jury_25 rfl ?_
      refine E_ic (nI 0) dX11_jury_26 (by decide) ?_
      refine E_putI dX11_jury_27 f_X11_19 rfl (Nat.lt_of_lt_of_le (by decide) hN) rfl ?_
      refine E_aload_n dX11_jury_30 rfl ?_
      refine E_iload_n dX11_jury_31 rfl ?_
      refine E_ic (nI 0) dX11_jury_32 (by decide) ?_
      refine E_ic (nI 1) dX11_jury_33 (by decide) ?_
      refine E_bp (nI 10) dX11_jury_34 (by decide) ?_
      refine E_callV (As := [_, _, _, _]) (ci := 10) (kc' := 0) (ks' := 0) (kc := 0) (ks := 0) dX11_jury_36 ok_X11_anyAbove w_X11_259 i_X11_anyAbove s_X11_anyAbove rfl (by decide) rfl (Nat.lt_of_lt_of_le (by decide) hN) rfl rfl rfl (Nat.le_of_ble_eq_true rfl) (Nat.le_of_ble_eq_true rfl) (Nat.le_refl _) (x_anyAbove (d := 899) hB hN hR hT h3 (by decide) (by decide) (by decide) (by decide) (fun z => ?_) (fun z => ?_))
      · obtain ⟨q, z1, z2⟩ := z
        rw [Nat.zero_add, Nat.one_mul] at z1 z2
        rw [gd_t ⟨q, z1, z2⟩] at hq
        have hq := hq J
        refine E_zN_eq (a := 1) (tgt := 46) dX11_jury_39 (by decide) (by decide) (fun c39 => absurd c39 (by omega)) (fun c39 => ?_)
        refine E_ldc2 (-2) dX11_jury_42 k_X11_263 ?_
        exact E_lret dX11_jury_45 rfl (hq)
      · have z : ∀ j, j < m → σ 8 j 0 ≤ 10 := fun j hj => by have := z j; rw [Nat.zero_add, Nat.one_mul] at this; exact this hj
        rw [gd_f (fun y => by obtain ⟨j, y1, y2⟩ := y; have := z j y1; omega)] at hq
        have hq := hq (putJ J 53 13 (fun y => lN (wyS (fun j => σ 8 j 0) m y)))
        have L : ∀ c, c ≤ (m + 1 - k) → E g mX11_jury 900 0 0 56 [.ref 0, .int (nI m), .int (nI k), .long (lN (swS (wyS (fun j => σ 8 j 0) m) k c)), jk, .int (nI (k + c))] [] n (up2 I 0 2 (nI 0)) (putJ J 53 13 (fun y => lN (wyS (fun j => σ 8 j 0) m y))) R Q := by
          refine loopU (m + 1 - k) ?_ (fun c hc ih => ?_)
          · refine E_iload dX11_jury_56 rfl ?_
            refine E_iload_n dX11_jury_58 rfl ?_
            refine E_cN_gt (a := k + (m + 1 - k)) (b := m) (tgt := 78) dX11_jury_59 (by omega) (by omega) (by decide) (fun c59 => ?_) (fun c59 => absurd c59 (by omega))
            refine E_lload_n dX11_jury_78 rfl ?_
            exact E_lret dX11_jury_79 rfl (hq)
          · refine E_iload dX11_jury_56 rfl ?_
            refine E_iload_n dX11_jury_58 rfl ?_
            refine E_cN_gt (a := k + c) (b := m) (tgt := 78) dX11_jury_59 (by omega) (by omega) (by decide) (fun c59 => absurd c59 (by omega)) (fun c59 => ?_)
            refine E_lload_n dX11_jury_62 rfl ?_
            refine E_aload_n dX11_jury_63 rfl ?_
            refine E_getR dX11_jury_64 f_X11_82 rfl (Nat.lt_of_lt_of_le (by decide) hN) rfl (hR _ _ _ rfl) ?_
            refine E_iload dX11_jury_67 rfl ?_
            refine E_laldN dX11_jury_69 rfl (Nat.lt_of_lt_of_le (by decide) hN) (by first | assumption | omega) ?_
            refine E.topl (putJ_r J (fun y => lN (wyS (fun j => σ 8 j 0) m y)) (by omega)) ?_
            refine E_ladd dX11_jury_70 ?_
            refine E.topl (lN_add (swS (wyS (fun j => σ 8 j 0) m) k c) (wyS (fun j => σ 8 j 0) m (k + c))) ?_
            refine E_lstore_n dX11_jury_71 (Nat.le_of_ble_eq_true rfl) ?_
            refine E_incN dX11_jury_72 rfl ?_
            refine E_goto (tgt := 56) dX11_jury_75 (by decide) ?_
            exact ih
        refine E_zN_eq (a := 0) (tgt := 46) dX11_jury_39 (by decide) (by decide) (fun c39 => ?_) (fun c39 => absurd c39 (by omega))
        refine E_aload_n dX11_jury_46 rfl ?_
        refine E_iload_n dX11_jury_47 rfl ?_
        refine E_callV (As := [_]) (ci := 10) (kc' := 0) (ks' := 0) (kc := 0) (ks := 0) dX11_jury_48 ok_X11_countWays w_X11_265 i_X11_countWays s_X11_countWays rfl (by decide) rfl (Nat.lt_of_lt_of_le (by decide) hN) rfl rfl rfl (Nat.le_of_ble_eq_true rfl) (Nat.le_of_ble_eq_true rfl) (Nat.le_refl _) (x_countWays (d := 898) hN hR hT h2 h3 z ?_)
        refine E_lc (lN 0) dX11_jury_51 (by decide) ?_
        refine E_lstore_n dX11_jury_52 (Nat.le_of_ble_eq_true rfl) ?_
        refine E_iload_n dX11_jury_53 rfl ?_
        refine E_istore dX11_jury_54 (Nat.le_of_ble_eq_true rfl) ?_
        exact L 0 (Nat.zero_le _)
    · have hno : ¬ (tp σ x 1 12 ∧ rg (nI k) 12) := fun y => z y.1
      rw [gd_f hno] at hQ
      rw [gd_f hno] at hQ
      have hq := hQ I J hX (fun _ _ _ => rfl) (fun _ _ _ => rfl)
      refine E_zN_ne (a := 0) (tgt := 25) dX11_jury_18 (by decide) (by decide) (fun c18 => absurd c18 (by omega)) (fun c18 => ?_)
      refine E_ldc2 (-1) dX11_jury_21 k_X11_257 ?_
      exact E_lret dX11_jury_24 rfl (hq)
set_option maxRecDepth 100000 in
set_option maxHeartbeats 2000000 in
theorem sm_jury (x w : Int32) : SM mX12_jury [.int x, .int w] (r_jury x w) (u_jury x w) := by
  intro g n I J R σ Q hB hM hN hR hQ
  have b9 : σ 9 0 0 ≤ 260 := hB.2.2.2.2.2.1
  unfold r_jury u_jury at hQ
  refine E_iload_n dX12_jury_0 rfl ?_
  refine E_ic (nI 1) dX12_jury_1 (by decide) ?_
  refine E_bp (nI 12) dX12_jury_2 (by decide) ?_
  refine E_callS (As := [_, _, _]) (kc' := 0) (ks' := 0) (kc := 0) (ks := 0) dX12_jury_4 ok_X12_in w_X12_124 st_X12_in rfl rfl rfl (Nat.le_of_ble_eq_true rfl) (Nat.le_of_ble_eq_true rfl) (Nat.le_refl _) (M_in (by decide) (by decide) (fun m h1 h2 e => ?_) (fun z => ?_))
  · subst e
    refine E_zN_eq (a := 1) (tgt := 28) dX12_jury_7 (by decide) (by decide) (fun c7 => absurd c7 (by omega)) (fun c7 => ?_)
    refine E_iload_n dX12_jury_10 rfl ?_
    refine E_ic (nI 0) dX12_jury_11 (by decide) ?_
    refine E_bp (nI 12) dX12_jury_12 (by decide) ?_
    refine E_callS (As := [_, _, _]) (kc' := 0) (ks' := 0) (kc := 0) (ks := 0) dX12_jury_14 ok_X12_in w_X12_124 st_X12_in rfl rfl rfl (Nat.le_of_ble_eq_true rfl) (Nat.le_of_ble_eq_true rfl) (Nat.le_refl _) (M_in (by decide) (by decide) (fun k _ h4 e => ?_) (fun z => ?_))
    · subst e
      refine E_zN_eq (a := 1) (tgt := 28) dX12_jury_17 (by decide) (by decide) (fun c17 => absurd c17 (by omega)) (fun c17 => ?_)
      refine E_iload_n dX12_jury_20 rfl ?_
      refine E_aload_n dX12_jury_21 rfl ?_
      refine E_getI dX12_jury_22 f_X12_128 rfl (Nat.lt_of_lt_of_le (by decide) hN) rfl ?_
      refine E.top (hM.2.2.2.1.1) ?_
      refine E_cN_le (a := m) (b := σ 9 0 0) (tgt := 32) dX12_jury_25 (by omega) (by omega) (by decide) (fun c25 => ?_) (fun c25 => ?_)
      · have hg : tp σ (nI m) 1 12 ∧ rg (nI k) 12 := ⟨tp_of h1 h2 c25, rg_of h4⟩
        rw [gd_t hg] at hQ
        rw [gd_t hg, nI_clamp (n := m) (by omega), nI_clamp (n := k) (by omega)] at hQ
        have hq := fun J' => hQ (up2 I 114 7 (nI 0)) J' (u0_M hM) (fun a a1 => up2_o I 114 7 _ a (by omega)) rfl (fun a a1 _ => up2_o I 114 7 _ a (by omega))
        have hT : MT σ (up2 I 114 7 (nI 0) 121) := hM.2.2.2.2.1
        have Lc : ∀ j, j ≤ m → (∀ q2, q2 < j → σ 8 q2 0 ≤ 10) → E g mX12_jury 900 0 0 39 [.ref 114, .int (nI m), .int (nI k), .int (nI j), jk, jk] [] n (up2 I 114 7 (nI 0)) J R Q := by
          refine loopU m (fun hc => ?_) (fun j hj ih hc => ?_)
          · have z : ∀ j, j < m → σ 8 j 0 ≤ 10 := hc
            rw [gd_f (fun y => by obtain ⟨j, y1, y2⟩ := y; have := z j y1; omega)] at hq
            have hq := hq (putJ J 143 13 (fun y => lN (wyS (fun j => σ 8 j 0) m y)))
            have Ls : ∀ c, c ≤ (13 - k) → E g mX12_jury 900 0 0 177 [.ref 114, .int (nI m), .int (nI k), .long (lN (swS (wyS (fun j => σ 8 j 0) m) k c)), jk, .int (nI (k + c))] [] n (up2 I 114 7 (nI 0)) (putJ J 143 13 (fun y => lN (wyS (fun j => σ 8 j 0) m y))) R Q := by
              refine loopU (13 - k) ?_ (fun c hc ih => ?_)
              · rw [← swS_e (fun y hy => wyS_0 _ m y hy) (by omega) (by omega)] at hq
                refine E_iload dX12_jury_177 rfl ?_
                refine E_bp (nI 13) dX12_jury_179 (by decide) ?_
                refine E_cN_ge (a := k + (13 - k)) (b := 13) (tgt := 200) dX12_jury_181 (by omega) (by decide) (by decide) (fun c181 => ?_) (fun c181 => absurd c181 (by omega))
                refine E_lload_n dX12_jury_200 rfl ?_
                exact E_lret dX12_jury_201 rfl (hq)
              · refine E_iload dX12_jury_177 rfl ?_
                refine E_bp (nI 13) dX12_jury_179 (by decide) ?_
                refine E_cN_ge (a := k + c) (b := 13) (tgt := 200) dX12_jury_181 (by omega) (by decide) (by decide) (fun c181 => absurd c181 (by omega)) (fun c181 => ?_)
                refine E_lload_n dX12_jury_184 rfl ?_
                refine E_aload_n dX12_jury_185 rfl ?_
                refine E_getR dX12_jury_186 f_X12_96 rfl (Nat.lt_of_lt_of_le (by decide) hN) rfl (hR _ _ _ rfl) ?_
                refine E_iload dX12_jury_189 rfl ?_
                refine E_laldN dX12_jury_191 rfl (Nat.lt_of_lt_of_le (by decide) hN) (by first | assumption | omega) ?_
                refine E.topl (putJ_r J (fun y => lN (wyS (fun j => σ 8 j 0) m y)) (by omega)) ?_
                refine E_ladd dX12_jury_192 ?_
                refine E.topl (lN_add (swS (wyS (fun j => σ 8 j 0) m) k c) (wyS (fun j => σ 8 j 0) m (k + c))) ?_
                refine E_lstore_n dX12_jury_193 (Nat.le_of_ble_eq_true rfl) ?_
                refine E_incN dX12_jury_194 rfl ?_
                refine E_goto (tgt := 177) dX12_jury_197 (by decide) ?_
                exact ih
            have L1 : ∀ j, j ≤ m → E g mX12_jury 900 0 0 95 [.ref 114, .int (nI m), .int (nI k), .int (nI j), jk, jk] [] n (up2 I 114 7 (nI 0)) (putJ J 143 13 (fun y => lN (wyS (fun j => σ 8 j 0) j y))) R Q := by
              refine loopU m ?_ (fun j hj ihj => ?_)
              · refine E_iload_n dX12_jury_95 rfl ?_
                refine E_iload_n dX12_jury_96 rfl ?_
                refine E_cN_ge (a := m) (b := m) (tgt := 172) dX12_jury_97 (by omega) (by omega) (by decide) (fun c97 => ?_) (fun c97 => absurd c97 (by omega))
                refine E_lc (lN 0) dX12_jury_172 (by decide) ?_
                refine E_lstore_n dX12_jury_173 (Nat.le_of_ble_eq_true rfl) ?_
                refine E_iload_n dX12_jury_174 rfl ?_
                refine E_istore dX12_jury_175 (Nat.le_of_ble_eq_true rfl) ?_
                refine E.mask [true, true, true, true, true, true] ?_
                exact Ls 0 (Nat.zero_le _)
              · have h10 := z j hj
                have L2 : ∀ q, q ≤ j + 2 → E g mX12_jury 900 0 0 105 [.ref 114, .int (nI m), .int (nI k), .int (nI j), .int (dnI q), jk] [] n (up2 I 114 7 (nI 0)) (putJ J 143 13 (fun y => lN (wyI (fun j => σ 8 j 0) j q y))) R Q := by
                  refine loopD ?_ (fun q ih hq => ?_)
                  · intro _
                    refine E_iload dX12_jury_105 rfl ?_
                    refine E_if_lt (tgt := 166) dX12_jury_107 (by decide) (fun c107 => ?_) (fun c107 => by first | exact absurd c107 ((by decide)) | exact absurd ((by decide)) c107)
                    refine E_incN dX12_jury_166 rfl ?_
                    refine E_goto (tgt := 95) dX12_jury_169 (by decide) ?_
                    refine E.mask [true, true, true, true, false, false] ?_
                    refine E.memJ (putJ_e J 143 13 (f' := (fun y => lN (wyS (fun j => σ 8 j 0) (j + 1) y))) (fun y hy => congrArg lN (if_pos (Nat.zero_le _)))) ihj
                  · have ih := ih (by omega)
                    refine E.locD ?_
                    refine E_iload dX12_jury_105 rfl ?_
                    refine E_zN_lt (a := q) (tgt := 166) dX12_jury_107 (by omega) (by decide) (fun c107 => c107.elim) (fun c107 => ?_)
                    refine E_aload_n dX12_jury_110 rfl ?_
                    refine E_getR dX12_jury_111 f_X12_96 rfl (Nat.lt_of_lt_of_le (by decide) hN) rfl (hR _ _ _ rfl) ?_
                    refine E_iload dX12_jury_114 rfl ?_
                    refine E_aload_n dX12_jury_116 rfl ?_
                    refine E_getR dX12_jury_117 f_X12_96 rfl (Nat.lt_of_lt_of_le (by decide) hN) rfl (hR _ _ _ rfl) ?_
                    refine E_iload dX12_jury_120 rfl ?_
                    refine E_laldN dX12_jury_122 rfl (Nat.lt_of_lt_of_le (by decide) hN) (by first | assumption | omega) ?_
                    refine E.topl (putJ_r J (fun y => lN (wyI (fun j => σ 8 j 0) j (q + 1) y)) (by omega)) ?_
                    refine E_bp (nI 10) dX12_jury_123 (by decide) ?_
                    refine E_aload_n dX12_jury_125 rfl ?_
                    refine E_iload_n dX12_jury_126 rfl ?_
                    refine E_callV (As := [_]) (ci := 11) (kc' := 0) (ks' := 0) (kc := 0) (ks := 0) dX12_jury_127 ok_X12_octet w_X12_387 i_X12_octet s_X12_octet rfl (by decide) rfl (Nat.lt_of_lt_of_le (by decide) hN) rfl rfl rfl (Nat.le_of_ble_eq_true rfl) (Nat.le_of_ble_eq_true rfl) (Nat.le_refl _) (m_octet (d := 899) hT hB hN hR (by omega) ?_)
                    refine E_isub dX12_jury_130 ?_
                    refine E.top (pk_sub (a := 10) (b := σ 8 j 0) (by omega)) ?_
                    refine E_i2l dX12_jury_131 ?_
                    refine E.topl (nI_l (n := 10 - (σ 8 j 0)) (by omega)) ?_
                    refine E_lmul dX12_jury_132 ?_
                    refine E.topl (lN_mul (wyI (fun j => σ 8 j 0) j (q + 1) q) (10 - (σ 8 j 0))) ?_
                    refine E_iload dX12_jury_133 rfl ?_
                    refine E_zN_le (a := q) (tgt := 157) dX12_jury_135 (by omega) (by decide) (fun c135 => ?_) (fun c135 => ?_)
                    · refine E_lc (lN 0) dX12_jury_157 (by decide) ?_
                      refine E_ladd dX12_jury_158 ?_
                      refine E.topl (lN_add ((wyI (fun j => σ 8 j 0) j (q + 1) q) * (10 - (σ 8 j 0))) 0) ?_
                      refine E_lastN dX12_jury_159 rfl (Nat.lt_of_lt_of_le (by decide) hN) (by omega) ?_
                      refine E.memJ (putJ_s (f' := (fun y => lN (wyI (fun j => σ 8 j 0) j q y))) J _ (by omega) (fun y hy => ?_)) ?_
                      · by_cases e : y = q
                        · subst e
                          rw [if_pos rfl]
                          show lN (wyI (fun j => σ 8 j 0) j y y) = _
                          unfold wyI
                          rw [if_pos (Nat.le_refl _), if_neg (by omega), c135]
                          rfl
                        · rw [if_neg e]
                          show lN (wyI (fun j => σ 8 j 0) j q y) = lN (wyI (fun j => σ 8 j 0) j (q + 1) y)
                          unfold wyI
                          by_cases c : q + 1 ≤ y
                          · rw [if_pos c, if_pos (by omega)]
                          · rw [if_neg c, if_neg (by omega)]
                      refine E_inc (-1) dX12_jury_160 rfl (by decide) ?_
                      refine E_goto (tgt := 105) dX12_jury_163 (by decide) ?_
                      rw [← dn_m1 q] at ih
                      exact ih
                    · refine E_aload_n dX12_jury_138 rfl ?_
                      refine E_getR dX12_jury_139 f_X12_96 rfl (Nat.lt_of_lt_of_le (by decide) hN) rfl (hR _ _ _ rfl) ?_
                      refine E_iload dX12_jury_142 rfl ?_
                      refine E_ic (nI 1) dX12_jury_144 (by decide) ?_
                      refine E_isub dX12_jury_145 ?_
                      refine E.top (pk_sub (a := q) (b := 1) (by omega)) ?_
                      refine E_laldN dX12_jury_146 rfl (Nat.lt_of_lt_of_le (by decide) hN) (by first | assumption | omega) ?_
                      refine E.topl (putJ_r J (fun y => lN (wyI (fun j => σ 8 j 0) j (q + 1) y)) (by omega)) ?_
                      refine E_aload_n dX12_jury_147 rfl ?_
                      refine E_iload_n dX12_jury_148 rfl ?_
                      refine E_callV (As := [_]) (ci := 11) (kc' := 0) (ks' := 0) (kc := 0) (ks := 0) dX12_jury_149 ok_X12_octet w_X12_387 i_X12_octet s_X12_octet rfl (by decide) rfl (Nat.lt_of_lt_of_le (by decide) hN) rfl rfl rfl (Nat.le_of_ble_eq_true rfl) (Nat.le_of_ble_eq_true rfl) (Nat.le_refl _) (m_octet (d := 899) hT hB hN hR (by omega) ?_)
                      refine E_i2l dX12_jury_152 ?_
                      refine E.topl (nI_l (n := σ 8 j 0) (by omega)) ?_
                      refine E_lmul dX12_jury_153 ?_
                      refine E.topl (lN_mul (wyI (fun j => σ 8 j 0) j (q + 1) (q - 1)) (σ 8 j 0)) ?_
                      refine E_goto (tgt := 158) dX12_jury_154 (by decide) ?_
                      refine E_ladd dX12_jury_158 ?_
                      refine E.topl (lN_add ((wyI (fun j => σ 8 j 0) j (q + 1) q) * (10 - (σ 8 j 0))) ((wyI (fun j => σ 8 j 0) j (q + 1) (q - 1)) * (σ 8 j 0))) ?_
                      refine E_lastN dX12_jury_159 rfl (Nat.lt_of_lt_of_le (by decide) hN) (by omega) ?_
                      refine E.memJ (putJ_s (f' := (fun y => lN (wyI (fun j => σ 8 j 0) j q y))) J _ (by omega) (fun y hy => ?_)) ?_
                      · by_cases e : y = q
                        · subst e
                          rw [if_pos rfl]
                          show lN (wyI (fun j => σ 8 j 0) j y y) = _
                          unfold wyI
                          rw [if_pos (Nat.le_refl _), if_neg (by omega), if_neg (by omega), wyS_s2 _ _ (by omega)]
                        · rw [if_neg e]
                          show lN (wyI (fun j => σ 8 j 0) j q y) = lN (wyI (fun j => σ 8 j 0) j (q + 1) y)
                          unfold wyI
                          by_cases c : q + 1 ≤ y
                          · rw [if_pos c, if_pos (by omega)]
                          · rw [if_neg c, if_neg (by omega)]
                      refine E_inc (-1) dX12_jury_160 rfl (by decide) ?_
                      refine E_goto (tgt := 105) dX12_jury_163 (by decide) ?_
                      rw [← dn_m1 q] at ih
                      exact ih
                refine E_iload_n dX12_jury_95 rfl ?_
                refine E_iload_n dX12_jury_96 rfl ?_
                refine E_cN_ge (a := j) (b := m) (tgt := 172) dX12_jury_97 (by omega) (by omega) (by decide) (fun c97 => absurd c97 (by omega)) (fun c97 => ?_)
                refine E_iload_n dX12_jury_100 rfl ?_
                refine E_ic (nI 1) dX12_jury_101 (by decide) ?_
                refine E_iadd dX12_jury_102 ?_
                refine E.top (nI_add j 1) ?_
                refine E_istore dX12_jury_103 (Nat.le_of_ble_eq_true rfl) ?_
                refine E.memJ (putJ_e J 143 13 (f' := (fun y => lN (wyI (fun j => σ 8 j 0) j (j + 2) y))) (fun y hy => ?_)) (L2 (j + 2) (Nat.le_refl _))
                show lN _ = lN (if j + 2 ≤ y then _ else _)
                by_cases c : j + 2 ≤ y
                · rw [if_pos c, wyS_0 _ j y (by omega), wyS_0 _ (j + 1) y (by omega)]
                · rw [if_neg c]
            have Lf : ∀ q, q ≤ 13 → E g mX12_jury 900 0 0 66 [.ref 114, .int (nI m), .int (nI k), .int (nI q), jk, jk] [] n (up2 I 114 7 (nI 0)) (putJ J 143 q (fun y => lN (wyS (fun j => σ 8 j 0) 0 y))) R Q := by
              refine loopU 13 ?_ (fun q hq ih => ?_)
              · refine E_iload_n dX12_jury_66 rfl ?_
                refine E_bp (nI 13) dX12_jury_67 (by decide) ?_
                refine E_cN_ge (a := 13) (b := 13) (tgt := 93) dX12_jury_69 (by decide) (by decide) (by decide) (fun c69 => ?_) (fun c69 => absurd c69 (by omega))
                refine E_ic (nI 0) dX12_jury_93 (by decide) ?_
                refine E_istore_n dX12_jury_94 (Nat.le_of_ble_eq_true rfl) ?_
                exact L1 0 (Nat.zero_le _)
              · refine E_iload_n dX12_jury_66 rfl ?_
                refine E_bp (nI 13) dX12_jury_67 (by decide) ?_
                refine E_cN_ge (a := q) (b := 13) (tgt := 93) dX12_jury_69 (by omega) (by decide) (by decide) (fun c69 => absurd c69 (by omega)) (fun c69 => ?_)
                refine E_aload_n dX12_jury_72 rfl ?_
                refine E_getR dX12_jury_73 f_X12_96 rfl (Nat.lt_of_lt_of_le (by decide) hN) rfl (hR _ _ _ rfl) ?_
                refine E_iload_n dX12_jury_76 rfl ?_
                refine E_iload_n dX12_jury_77 rfl ?_
                refine E_zN_ne (a := q) (tgt := 85) dX12_jury_78 (by omega) (by decide) (fun c78 => ?_) (fun c78 => ?_)
                · refine E_lc (lN 0) dX12_jury_85 (by decide) ?_
                  refine E_lastN dX12_jury_86 rfl (Nat.lt_of_lt_of_le (by decide) hN) (by omega) ?_
                  refine E.memJ (putJ_g J (fun y => lN (wyS (fun j => σ 8 j 0) 0 y)) (by show lN (if q = 0 then _ else _) = _; first | rw [if_pos c78] | rw [if_neg (by omega)])) ?_
                  refine E_incN dX12_jury_87 rfl ?_
                  refine E_goto (tgt := 66) dX12_jury_90 (by decide) ?_
                  exact ih
                · refine E_lc (lN 1) dX12_jury_81 (by decide) ?_
                  refine E_goto (tgt := 86) dX12_jury_82 (by decide) ?_
                  refine E_lastN dX12_jury_86 rfl (Nat.lt_of_lt_of_le (by decide) hN) (by omega) ?_
                  refine E.memJ (putJ_g J (fun y => lN (wyS (fun j => σ 8 j 0) 0 y)) (by show lN (if q = 0 then _ else _) = _; first | rw [if_pos c78] | rw [if_neg (by omega)])) ?_
                  refine E_incN dX12_jury_87 rfl ?_
                  refine E_goto (tgt := 66) dX12_jury_90 (by decide) ?_
                  exact ih
            refine E_iload_n dX12_jury_39 rfl ?_
            refine E_iload_n dX12_jury_40 rfl ?_
            refine E_cN_ge (a := m) (b := m) (tgt := 64) dX12_jury_41 (by omega) (by omega) (by decide) (fun c41 => ?_) (fun c41 => absurd c41 (by omega))
            refine E_ic (nI 0) dX12_jury_64 (by decide) ?_
            refine E_istore_n dX12_jury_65 (Nat.le_of_ble_eq_true rfl) ?_
            refine E.memJ (putJ_0 J 143 _).symm (Lf 0 (by omega))
          · have b8 := hB.2.2.2.2.1 j (by omega)
            refine E_iload_n dX12_jury_39 rfl ?_
            refine E_iload_n dX12_jury_40 rfl ?_
            refine E_cN_ge (a := j) (b := m) (tgt := 64) dX12_jury_41 (by omega) (by omega) (by decide) (fun c41 => absurd c41 (by omega)) (fun c41 => ?_)
            refine E_aload_n dX12_jury_44 rfl ?_
            refine E_iload_n dX12_jury_45 rfl ?_
            refine E_callV (As := [_]) (ci := 11) (kc' := 0) (ks' := 0) (kc := 0) (ks := 0) dX12_jury_46 ok_X12_octet w_X12_387 i_X12_octet s_X12_octet rfl (by decide) rfl (Nat.lt_of_lt_of_le (by decide) hN) rfl rfl rfl (Nat.le_of_ble_eq_true rfl) (Nat.le_of_ble_eq_true rfl) (Nat.le_refl _) (m_octet (d := 899) hT hB hN hR (by omega) ?_)
            refine E_bp (nI 10) dX12_jury_49 (by decide) ?_
            refine E_cN_le (a := σ 8 j 0) (b := 10) (tgt := 58) dX12_jury_51 (by omega) (by decide) (by decide) (fun c51 => ?_) (fun c51 => ?_)
            · refine E_incN dX12_jury_58 rfl ?_
              refine E_goto (tgt := 39) dX12_jury_61 (by decide) ?_
              exact ih (fun q2 h2 => by rcases Nat.lt_succ_iff_lt_or_eq.mp h2 with z | z; exact hc q2 z; subst z; exact c51)
            · refine E_ldc2 (-2) dX12_jury_54 k_X12_390 ?_
              exact E_lret dX12_jury_57 rfl (by rw [gd_t ⟨j, hj, c51⟩] at hq; exact hq J)
        refine E_aload_n dX12_jury_32 rfl ?_
        refine E_ic (nI 0) dX12_jury_33 (by decide) ?_
        refine E_putI dX12_jury_34 f_X12_128 rfl (Nat.lt_of_lt_of_le (by decide) hN) rfl ?_
        refine E_ic (nI 0) dX12_jury_37 (by decide) ?_
        refine E_istore_n dX12_jury_38 (Nat.le_of_ble_eq_true rfl) ?_
        exact Lc 0 (Nat.zero_le _) (fun q h => absurd h (Nat.not_lt_zero q))
      · refine E_ldc2 (-1) dX12_jury_28 k_X12_385 ?_
        exact E_lret dX12_jury_31 rfl (by first | exact hq | (have hno : ¬ (tp σ (nI m) 1 12 ∧ rg (nI k) 12) := (fun y => by obtain ⟨⟨m2, q1, q2, q3, q4⟩, -⟩ := y; have := (nI_eq (by omega) (by omega)).mp q4; omega); rw [gd_f hno] at hQ; rw [gd_f hno] at hQ; exact hQ I J hM (fun _ _ => rfl) rfl (fun _ _ _ => rfl)))
    · have hno : ¬ (tp σ (nI m) 1 12 ∧ rg w 12) := fun y => by obtain ⟨j, hj, e⟩ := y.2; exact z j (Nat.zero_le _) hj e
      rw [gd_f hno] at hQ
      rw [gd_f hno] at hQ
      have hq := hQ I J hM (fun _ _ => rfl) rfl (fun _ _ _ => rfl)
      refine E_zN_eq (a := 0) (tgt := 28) dX12_jury_17 (by decide) (by decide) (fun c17 => ?_) (fun c17 => absurd c17 (by omega))
      refine E_ldc2 (-1) dX12_jury_28 k_X12_385 ?_
      exact E_lret dX12_jury_31 rfl (by first | exact hq | (have hno : ¬ (tp σ (nI m) 1 12 ∧ rg (nI k) 12) := (fun y => by obtain ⟨⟨m2, q1, q2, q3, q4⟩, -⟩ := y; have := (nI_eq (by omega) (by omega)).mp q4; omega); rw [gd_f hno] at hQ; rw [gd_f hno] at hQ; exact hQ I J hM (fun _ _ => rfl) rfl (fun _ _ _ => rfl)))
  · have hno : ¬ (tp σ x 1 12 ∧ rg w 12) := fun y => by obtain ⟨m, q1, q2, q3, q4⟩ := y.1; exact z m q1 q2 q4
    rw [gd_f hno] at hQ
    rw [gd_f hno] at hQ
    have hq := hQ I J hM (fun _ _ => rfl) rfl (fun _ _ _ => rfl)
    refine E_zN_eq (a := 0) (tgt := 28) dX12_jury_7 (by decide) (by decide) (fun c7 => ?_) (fun c7 => absurd c7 (by omega))
    refine E_ldc2 (-1) dX12_jury_28 k_X12_385 ?_
    exact E_lret dX12_jury_31 rfl (by first | exact hq | (have hno : ¬ (tp σ (nI m) 1 12 ∧ rg (nI k) 12) := (fun y => by obtain ⟨⟨m2, q1, q2, q3, q4⟩, -⟩ := y; have := (nI_eq (by omega) (by omega)).mp q4; omega); rw [gd_f hno] at hQ; rw [gd_f hno] at hQ; exact hQ I J hM (fun _ _ => rfl) rfl (fun _ _ _ => rfl)))
end PJury
