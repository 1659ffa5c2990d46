/-! ===== wear ===== -/
def gnS (b h : Nat) : Nat := if b = 0 then 1 else h * h
/-- the most that the first j give, by what is to spare -/
def knS (t : Nat → Nat) (b : Nat) : Nat → Nat → Nat
  | 0 => fun _ => 0
  | j + 1 => fun s => if t j ≤ s then max (knS t b j s) (knS t b j (s - t j) + gnS b (t j)) else knS t b j s
theorem knS_t {t : Nat → Nat} {b j s : Nat} (h : t j ≤ s) : knS t b (j + 1) s = max (knS t b j s) (knS t b j (s - t j) + gnS b (t j)) := if_pos h
theorem knS_f {t : Nat → Nat} {b j s : Nat} (h : ¬ t j ≤ s) : knS t b (j + 1) s = knS t b j s := if_neg h
theorem gnS_le {b h : Nat} (h9 : h ≤ 9) : gnS b h ≤ 81 := by
  unfold gnS
  split
  · decide
  · exact Nat.mul_le_mul h9 h9
theorem knS_le {t : Nat → Nat} {b : Nat} : ∀ m, (∀ j, j < m → t j ≤ 9) → ∀ s, knS t b m s ≤ 81 * m
  | 0, _, _ => Nat.zero_le _
  | m + 1, h, s => by
    have h1 := knS_le (b := b) m (fun j hj => h j (by omega))
    have h2 := gnS_le (b := b) (h m (by omega))
    by_cases c : t m ≤ s
    · rw [knS_t c]
      have a1 := h1 s
      have a2 := h1 (s - t m)
      exact Nat.max_le.mpr ⟨by omega, by omega⟩
    · rw [knS_f c]
      have a1 := h1 s
      omega
/-- the row: of j, and in the making from q on of j + 1 -/
def rwS (t : Nat → Nat) (b gd j : Nat) : Nat → Nat := fun y => if y ≤ gd then knS t b j y else 0
def krS (t : Nat → Nat) (b gd j q : Nat) : Nat → Nat := fun y => if y ≤ gd then (if q ≤ y then knS t b (j + 1) y else knS t b j y) else 0
theorem krS_0 (t : Nat → Nat) (b gd j : Nat) {q : Nat} (h : q = 0 ∨ q ≤ t j) (y : Nat) : krS t b gd j q y = rwS t b gd (j + 1) y := by
  unfold krS rwS
  by_cases c : y ≤ gd
  · rw [if_pos c, if_pos c]
    by_cases c2 : q ≤ y
    · rw [if_pos c2]
    · rw [if_neg c2, knS_f (by omega)]
  · rw [if_neg c, if_neg c]
theorem krS_n (t : Nat → Nat) (b gd j : Nat) (y : Nat) : rwS t b gd j y = krS t b gd j (gd + 1) y := by
  unfold krS rwS
  by_cases c : y ≤ gd
  · rw [if_pos c, if_pos c, if_neg (by omega)]
  · rw [if_neg c, if_neg c]
theorem krS_at (t : Nat → Nat) (b : Nat) {gd j q y : Nat} (h : y ≤ gd) (h2 : y < q) : krS t b gd j q y = knS t b j y := by
  unfold krS
  rw [if_pos h, if_neg (by omega)]
theorem krS_s (t : Nat → Nat) (b : Nat) {gd j q : Nat} (h : q ≤ gd) (h2 : t j ≤ q) (y : Nat) : nI (krS t b gd j q y) = if y = q then nI (max (knS t b j q) (knS t b j (q - t j) + gnS b (t j))) else nI (krS t b gd j (q + 1) y) := by
  unfold krS
  by_cases e : y = q
  · subst e
    rw [if_pos rfl, if_pos h, if_pos (Nat.le_refl _), knS_t h2]
  · rw [if_neg e]
    by_cases c : y ≤ gd
    · rw [if_pos c, if_pos c]
      by_cases c2 : q ≤ y
      · rw [if_pos c2, if_pos (by omega)]
      · rw [if_neg c2, if_neg (by omega)]
    · rw [if_neg c, if_neg c]
/-- what those of the set x come to -/
def wtS (w : Nat → Nat) (x : Nat) : Nat → Nat
  | 0 => 0
  | k + 1 => if x / 2 ^ k % 2 = 1 then wtS w x k + w k else wtS w x k
theorem wtS_t {w : Nat → Nat} {x k : Nat} (h : x / 2 ^ k % 2 = 1) : wtS w x (k + 1) = wtS w x k + w k := if_pos h
theorem wtS_f {w : Nat → Nat} {x k : Nat} (h : ¬ x / 2 ^ k % 2 = 1) : wtS w x (k + 1) = wtS w x k := if_neg h
theorem wtS_le {w : Nat → Nat} {x b : Nat} : ∀ m, (∀ k, k < m → w k ≤ b) → wtS w x m ≤ b * m
  | 0, _ => Nat.zero_le _
  | m + 1, h => by
    have h1 := wtS_le (x := x) m (fun k hk => h k (by omega))
    have h2 := h m (by omega)
    rw [Nat.mul_succ]
    by_cases c : x / 2 ^ m % 2 = 1
    · rw [wtS_t c]; omega
    · rw [wtS_f c]; omega
theorem bit_add (x : Nat) {m k : Nat} (h : k < m) : (x + 2 ^ m) / 2 ^ k % 2 = x / 2 ^ k % 2 := by
  rw [show 2 ^ m = 2 ^ k * (2 * 2 ^ (m - (k + 1))) from by rw [← Nat.mul_assoc, ← Nat.pow_succ, ← Nat.pow_add, show k + 1 + (m - (k + 1)) = m by omega], Nat.add_mul_div_left _ _ (Nat.two_pow_pos k), Nat.add_mul_mod_self_left]
theorem bit_top {x m : Nat} (h : x < 2 ^ m) : (x + 2 ^ m) / 2 ^ m % 2 = 1 := by
  rw [Nat.add_div_right _ (Nat.two_pow_pos m), Nat.div_eq_of_lt h]
theorem bit_hi {x m k : Nat} (h : x < 2 ^ m) (hk : m ≤ k) : x / 2 ^ k % 2 = 0 := by
  rw [Nat.div_eq_of_lt (Nat.lt_of_lt_of_le h (Nat.pow_le_pow_right (by decide) hk))]
theorem wtS_add (w : Nat → Nat) (x m : Nat) : ∀ K, K ≤ m → wtS w (x + 2 ^ m) K = wtS w x K
  | 0, _ => rfl
  | K + 1, h => by
    have ih := wtS_add w x m K (by omega)
    by_cases c : x / 2 ^ K % 2 = 1
    · rw [wtS_t c, wtS_t (by rw [bit_add x (by omega)]; exact c), ih]
    · rw [wtS_f c, wtS_f (by rw [bit_add x (by omega)]; exact c), ih]
theorem kn_up (t : Nat → Nat) (b x : Nat) : ∀ m s, wtS t x m ≤ s → wtS (fun k => gnS b (t k)) x m ≤ knS t b m s
  | 0, _, _ => Nat.zero_le _
  | m + 1, s, h => by
    by_cases c : x / 2 ^ m % 2 = 1
    · rw [wtS_t c] at h ⊢
      have h1 := kn_up t b x m (s - t m) (by omega)
      rw [knS_t (show t m ≤ s by omega)]
      exact Nat.le_trans (Nat.add_le_add_right h1 _) (Nat.le_max_right _ _)
    · rw [wtS_f c] at h ⊢
      have h1 := kn_up t b x m s h
      by_cases c2 : t m ≤ s
      · rw [knS_t c2]
        exact Nat.le_trans h1 (Nat.le_max_left _ _)
      · rw [knS_f c2]
        exact h1
theorem kn_ex (t : Nat → Nat) (b : Nat) : ∀ m s, ∃ x, x < 2 ^ m ∧ wtS t x m ≤ s ∧ wtS (fun k => gnS b (t k)) x m = knS t b m s
  | 0, s => ⟨0, by decide, Nat.zero_le _, rfl⟩
  | m + 1, s => by
    obtain ⟨x, x1, x2, x3⟩ := kn_ex t b m s
    have nb : ¬ x / 2 ^ m % 2 = 1 := by rw [bit_hi x1 (Nat.le_refl _)]; decide
    have p2 : 2 ^ (m + 1) = 2 ^ m + 2 ^ m := by rw [Nat.pow_succ]; omega
    by_cases c : t m ≤ s
    · by_cases c2 : knS t b m (s - t m) + gnS b (t m) ≤ knS t b m s
      · refine ⟨x, by omega, ?_, ?_⟩
        · rw [wtS_f nb]; exact x2
        · rw [wtS_f nb, knS_t c, Nat.max_eq_left c2]; exact x3
      · obtain ⟨y, y1, y2, y3⟩ := kn_ex t b m (s - t m)
        refine ⟨y + 2 ^ m, by omega, ?_, ?_⟩
        · rw [wtS_t (bit_top y1), wtS_add t y m m (Nat.le_refl _)]; omega
        · rw [wtS_t (bit_top y1), wtS_add _ y m m (Nat.le_refl _), knS_t c, Nat.max_eq_right (by omega), y3]
    · refine ⟨x, by omega, ?_, ?_⟩
      · rw [wtS_f nb]; exact x2
      · rw [wtS_f nb, knS_f c]; exact x3
theorem pop_hi {x m : Nat} (h : x < 2 ^ m) : ∀ c, pop x (m + c) = pop x m
  | 0 => rfl
  | c + 1 => by
    show pop x (m + c) + x / 2 ^ (m + c) % 2 = _
    rw [pop_hi h c, bit_hi h (by omega)]
    rfl
theorem ws_pop (x : Nat) : ∀ m, wtS (fun _ => 1) x m = pop x m
  | 0 => rfl
  | m + 1 => by
    show _ = pop x m + x / 2 ^ m % 2
    by_cases c : x / 2 ^ m % 2 = 1
    · rw [wtS_t c, ws_pop x m, c]
    · rw [wtS_f c, ws_pop x m, show x / 2 ^ m % 2 = 0 by have := Nat.mod_lt (x / 2 ^ m) (show 0 < 2 by decide); omega]
      rfl
def vlS (t : Nat → Nat) (b m x : Nat) : Nat := if b = 0 then pop x 12 else wtS (fun k => t k * t k) x m
theorem vlS_e (t : Nat → Nat) (b : Nat) {m x : Nat} (hm : m ≤ 12) (hx : x < 2 ^ m) : vlS t b m x = wtS (fun k => gnS b (t k)) x m := by
  unfold vlS gnS
  by_cases c : b = 0
  · simp only [if_pos c]
    rw [ws_pop, show 12 = m + (12 - m) by omega, pop_hi hx]
  · simp only [if_neg c]
def mxS (t : Nat → Nat) (b m gd : Nat) : Nat → Nat
  | 0 => 0
  | x + 1 => if wtS t x m ≤ gd then max (mxS t b m gd x) (vlS t b m x) else mxS t b m gd x
theorem mxS_t {t : Nat → Nat} {b m gd x : Nat} (h : wtS t x m ≤ gd) : mxS t b m gd (x + 1) = max (mxS t b m gd x) (vlS t b m x) := if_pos h
theorem mxS_f {t : Nat → Nat} {b m gd x : Nat} (h : ¬ wtS t x m ≤ gd) : mxS t b m gd (x + 1) = mxS t b m gd x := if_neg h
theorem mxS_le {t : Nat → Nat} {b m gd B : Nat} : ∀ X, (∀ x, x < X → wtS t x m ≤ gd → vlS t b m x ≤ B) → mxS t b m gd X ≤ B
  | 0, _ => Nat.zero_le _
  | X + 1, h => by
    have h1 := mxS_le X (fun x hx => h x (by omega))
    by_cases c : wtS t X m ≤ gd
    · rw [mxS_t c]
      exact Nat.max_le.mpr ⟨h1, h X (by omega) c⟩
    · rw [mxS_f c]
      exact h1
theorem mxS_ge {t : Nat → Nat} {b m gd : Nat} : ∀ X x, x < X → wtS t x m ≤ gd → vlS t b m x ≤ mxS t b m gd X
  | 0, x, h, _ => absurd h (Nat.not_lt_zero x)
  | X + 1, x, h, hc => by
    by_cases e : x = X
    · subst e
      rw [mxS_t hc]
      exact Nat.le_max_right _ _
    · have h1 := mxS_ge (b := b) X x (by omega) hc
      by_cases c : wtS t X m ≤ gd
      · rw [mxS_t c]
        exact Nat.le_trans h1 (Nat.le_max_left _ _)
      · rw [mxS_f c]
        exact h1
theorem wear_eq (t : Nat → Nat) (b gd : Nat) {m : Nat} (hm : m ≤ 12) : mxS t b m gd (2 ^ m) = knS t b m gd := by
  apply Nat.le_antisymm
  · exact mxS_le _ (fun x hx hc => by rw [vlS_e t b hm hx]; exact kn_up t b x m gd hc)
  · obtain ⟨x, x1, x2, x3⟩ := kn_ex t b m gd
    rw [← x3, ← vlS_e t b hm x1]
    exact mxS_ge _ x x1 x2
theorem vlS_le {t : Nat → Nat} {b m x : Nat} (hm : m ≤ 10) (h9 : ∀ k, k < m → t k ≤ 9) : vlS t b m x ≤ 810 := by
  unfold vlS
  split
  · have := pop_le x 12
    omega
  · have := wtS_le (w := fun k => t k * t k) (x := x) (b := 81) m (fun k hk => Nat.mul_le_mul (h9 k hk) (h9 k hk))
    omega
noncomputable def r_wear (x w v : Int32) (σ : ST) : Value := .int (gd (tp σ x 1 10 ∧ rg w 99 ∧ rg v 1) (gd (tpJ σ x.toNatClampNeg 9) (-3) (nI (knS (fun j => σ 8 j 0) v.toNatClampNeg x.toNatClampNeg w.toNatClampNeg))) (-1))
noncomputable def u_wear (x w v : Int32) (σ : ST) : ST := gd (tp σ x 1 10 ∧ rg w 99 ∧ rg v 1) (u0 σ) σ
theorem b_wear (x w v : Int32) : ∀ σ, BND σ → BND (u_wear x w v σ) := by
  intro σ h
  unfold u_wear
  by_cases c : tp σ x 1 10 ∧ rg w 99 ∧ rg v 1
  · rw [gd_t c]
    exact u0_B h
  · rw [gd_f c]
    exact h
section PWear
variable {g : GL} {d n : Nat} {I : IM} {J : JM} {R : RM} {Q : PQ} {σ : ST}
set_option maxRecDepth 100000 in
set_option maxHeartbeats 2000000 in
theorem x_most {m good b : Nat} (hN : 152 ≤ n) (hR : RS R) (hT : TX σ I) (hm : m ≤ 10) (hm2 : m ≤ σ 9 0 0) (hg : good ≤ 99) (hb : b ≤ 1) (h9 : ∀ j, j < m → σ 8 j 0 ≤ 9) (hQ : Q (some (.int (nI (knS (fun j => σ 8 j 0) b m good)))) n (put I 52 100 (fun y => nI (rwS (fun j => σ 8 j 0) b good m y))) J R) : E g mX11_mostOfCorks (d + 1) 0 0 0 (ent 8 [.ref 0, .int (nI m), .int (nI good), .int (nI b)]) [] n I J R Q := by
  have L : ∀ j, j ≤ m → E g mX11_mostOfCorks (d + 1) 0 0 11 [.ref 0, .int (nI m), .int (nI good), .int (nI b), .int (nI j), jk, jk, jk] [] n (put I 52 100 (fun y => nI (rwS (fun j => σ 8 j 0) b good j y))) J R Q := by
    refine loopU m ?_ (fun j hj ihj => ?_)
    · refine E_iload dX11_mostOfCorks_11 rfl ?_
      refine E_iload_n dX11_mostOfCorks_13 rfl ?_
      refine E_cN_ge (a := m) (b := m) (tgt := 93) dX11_mostOfCorks_14 (by omega) (by omega) (by decide) (fun c14 => ?_) (fun c14 => absurd c14 (by omega))
      refine E_aload_n dX11_mostOfCorks_93 rfl ?_
      refine E_getR dX11_mostOfCorks_94 f_X11_79 rfl (Nat.lt_of_lt_of_le (by decide) hN) rfl (hR _ _ _ rfl) ?_
      refine E_iload_n dX11_mostOfCorks_97 rfl ?_
      refine E_ialdN dX11_mostOfCorks_98 rfl (Nat.lt_of_lt_of_le (by decide) hN) (by first | assumption | omega) ?_
      refine E.top ((put_r I _ (show good < 100 by omega)).trans (congrArg nI (show rwS (fun j => σ 8 j 0) b good m good = knS (fun j => σ 8 j 0) b m good from if_pos (Nat.le_refl _)))) ?_
      exact E_iret dX11_mostOfCorks_99 rfl (hQ)
    · have hT : TX σ (put I 52 100 (fun y => nI (rwS (fun j => σ 8 j 0) b good j y))) := fun j hj => by rw [put_o I 52 100 _ (by decide)]; exact hT j hj
      have h9j := h9 j hj
      have L2 : ∀ q, q ≤ good + 1 → E g mX11_mostOfCorks (d + 1) 0 0 44 [.ref 0, .int (nI m), .int (nI good), .int (nI b), .int (nI j), .int (nI (σ 8 j 0)), .int (nI (gnS b (σ 8 j 0))), .int (dnI q)] [] n (put I 52 100 (fun y => nI (krS (fun j => σ 8 j 0) b good j q y))) J R Q := by
        refine loopD ?_ (fun q ih hq => ?_)
        · intro _
          refine E_iload dX11_mostOfCorks_44 rfl ?_
          refine E_iload dX11_mostOfCorks_46 rfl ?_
          refine E_icmp_lt (tgt := 87) dX11_mostOfCorks_48 (by decide) (fun c48 => ?_) (fun c48 => by first | exact absurd c48 (Int32.lt_of_lt_of_le (show dnI 0 < 0 by decide) (Int32.not_lt.mp (nI_pos (by omega)))) | exact absurd (Int32.lt_of_lt_of_le (show dnI 0 < 0 by decide) (Int32.not_lt.mp (nI_pos (by omega)))) c48)
          refine E_incN dX11_mostOfCorks_87 rfl ?_
          refine E_goto (tgt := 11) dX11_mostOfCorks_90 (by decide) ?_
          refine E.mask [true, true, true, true, true, false, false, false] ?_
          refine E.mem (put_e I 52 100 (f' := (fun y => nI (rwS (fun j => σ 8 j 0) b good (j + 1) y))) (fun y hy => congrArg nI (krS_0 _ b good j (Or.inl rfl) y))) ihj
        · have ih := ih (by omega)
          have k1 := knS_le (b := b) j (fun k hk => h9 k (by omega)) q
          have k2 := knS_le (b := b) j (fun k hk => h9 k (by omega)) (q - σ 8 j 0)
          have k3 := gnS_le (b := b) h9j
          refine E.locD ?_
          refine E_iload dX11_mostOfCorks_44 rfl ?_
          refine E_iload dX11_mostOfCorks_46 rfl ?_
          refine E_cN_lt (a := q) (b := σ 8 j 0) (tgt := 87) dX11_mostOfCorks_48 (by omega) (by omega) (by decide) (fun c48 => ?_) (fun c48 => ?_)
          · refine E_incN dX11_mostOfCorks_87 rfl ?_
            refine E_goto (tgt := 11) dX11_mostOfCorks_90 (by decide) ?_
            refine E.mask [true, true, true, true, true, false, false, false] ?_
            refine E.mem (put_e I 52 100 (f' := (fun y => nI (rwS (fun j => σ 8 j 0) b good (j + 1) y))) (fun y hy => congrArg nI (krS_0 _ b good j (Or.inr (by show q + 1 ≤ σ 8 j 0; omega)) y))) ihj
          · refine E_aload_n dX11_mostOfCorks_51 rfl ?_
            refine E_getR dX11_mostOfCorks_52 f_X11_79 rfl (Nat.lt_of_lt_of_le (by decide) hN) rfl (hR _ _ _ rfl) ?_
            refine E_iload dX11_mostOfCorks_55 rfl ?_
            refine E_aload_n dX11_mostOfCorks_57 rfl ?_
            refine E_getR dX11_mostOfCorks_58 f_X11_79 rfl (Nat.lt_of_lt_of_le (by decide) hN) rfl (hR _ _ _ rfl) ?_
            refine E_iload dX11_mostOfCorks_61 rfl ?_
            refine E_ialdN dX11_mostOfCorks_63 rfl (Nat.lt_of_lt_of_le (by decide) hN) (by first | assumption | omega) ?_
            refine E.top ((put_r I _ (show q < 100 by omega)).trans (congrArg nI (krS_at _ b (by omega) (by omega)))) ?_
            refine E_aload_n dX11_mostOfCorks_64 rfl ?_
            refine E_getR dX11_mostOfCorks_65 f_X11_79 rfl (Nat.lt_of_lt_of_le (by decide) hN) rfl (hR _ _ _ rfl) ?_
            refine E_iload dX11_mostOfCorks_68 rfl ?_
            refine E_iload dX11_mostOfCorks_70 rfl ?_
            refine E_isub dX11_mostOfCorks_72 ?_
            refine E.top (pk_sub (a := q) (b := σ 8 j 0) (by omega)) ?_
            refine E_ialdN dX11_mostOfCorks_73 rfl (Nat.lt_of_lt_of_le (by decide) hN) (by first | assumption | omega) ?_
            refine E.top ((put_r I _ (show q - σ 8 j 0 < 100 by omega)).trans (congrArg nI (krS_at _ b (by omega) (by omega)))) ?_
            refine E_iload dX11_mostOfCorks_74 rfl ?_
            refine E_iadd dX11_mostOfCorks_76 ?_
            refine E.top (nI_add (knS (fun j => σ 8 j 0) b j (q - σ 8 j 0)) (gnS b (σ 8 j 0))) ?_
            refine E_mmax dX11_mostOfCorks_77 w_X11_243 (Nat.le_of_ble_eq_true rfl) (by omega) ?_
            refine E.top (nI_max (knS (fun j => σ 8 j 0) b j q) ((knS (fun j => σ 8 j 0) b j (q - σ 8 j 0)) + (gnS b (σ 8 j 0))) (by omega) (by omega)) ?_
            refine E_iastN dX11_mostOfCorks_80 rfl (Nat.lt_of_lt_of_le (by decide) hN) (by first | assumption | omega) ?_
            refine E.mem (put_s (f' := (fun y => nI (krS (fun j => σ 8 j 0) b good j q y))) I _ (by omega) (fun y hy => krS_s (fun j => σ 8 j 0) b (by omega) (by show σ 8 j 0 ≤ q; omega) y)) ?_
            refine E_inc (-1) dX11_mostOfCorks_81 rfl (by decide) ?_
            refine E_goto (tgt := 44) dX11_mostOfCorks_84 (by decide) ?_
            rw [← dn_m1 q] at ih
            exact ih
      refine E_iload dX11_mostOfCorks_11 rfl ?_
      refine E_iload_n dX11_mostOfCorks_13 rfl ?_
      refine E_cN_ge (a := j) (b := m) (tgt := 93) dX11_mostOfCorks_14 (by omega) (by omega) (by decide) (fun c14 => absurd c14 (by omega)) (fun c14 => ?_)
      refine E_aload_n dX11_mostOfCorks_17 rfl ?_
      refine E_getR dX11_mostOfCorks_18 f_X11_15 rfl (Nat.lt_of_lt_of_le (by decide) hN) rfl (hR _ _ _ rfl) ?_
      refine E_iload dX11_mostOfCorks_21 rfl ?_
      refine E_ialdN dX11_mostOfCorks_23 rfl (Nat.lt_of_lt_of_le (by decide) hN) (by first | assumption | omega) ?_
      refine E.top (hT j (by omega)) ?_
      refine E_istore dX11_mostOfCorks_24 (Nat.le_of_ble_eq_true rfl) ?_
      refine E_iload_n dX11_mostOfCorks_26 rfl ?_
      refine E_zN_eq (a := b) (tgt := 38) dX11_mostOfCorks_27 (by omega) (by decide) (fun c27 => ?_) (fun c27 => ?_)
      · refine E_ic (nI 1) dX11_mostOfCorks_38 (by decide) ?_
        refine E_istore dX11_mostOfCorks_39 (Nat.le_of_ble_eq_true rfl) ?_
        refine E_iload_n dX11_mostOfCorks_41 rfl ?_
        refine E_istore dX11_mostOfCorks_42 (Nat.le_of_ble_eq_true rfl) ?_
        have L2 := L2 (good + 1) (Nat.le_refl _)
        rw [show gnS b (σ 8 j 0) = 1 from if_pos (by omega)] at L2
        refine E.mem (put_e I 52 100 (f' := (fun y => nI (krS (fun j => σ 8 j 0) b good j (good + 1) y))) (fun y hy => congrArg nI (krS_n _ b good j y))) L2
      · refine E_iload dX11_mostOfCorks_30 rfl ?_
        refine E_iload dX11_mostOfCorks_32 rfl ?_
        refine E_imul dX11_mostOfCorks_34 ?_
        refine E.top (pk_mul (σ 8 j 0) (σ 8 j 0)) ?_
        refine E_goto (tgt := 39) dX11_mostOfCorks_35 (by decide) ?_
        refine E_istore dX11_mostOfCorks_39 (Nat.le_of_ble_eq_true rfl) ?_
        refine E_iload_n dX11_mostOfCorks_41 rfl ?_
        refine E_istore dX11_mostOfCorks_42 (Nat.le_of_ble_eq_true rfl) ?_
        have L2 := L2 (good + 1) (Nat.le_refl _)
        rw [show gnS b (σ 8 j 0) = (σ 8 j 0) * (σ 8 j 0) from if_neg (by omega)] at L2
        refine E.mem (put_e I 52 100 (f' := (fun y => nI (krS (fun j => σ 8 j 0) b good j (good + 1) y))) (fun y hy => congrArg nI (krS_n _ b good j y))) L2
  refine E_aload_n dX11_mostOfCorks_0 rfl ?_
  refine E_getR dX11_mostOfCorks_1 f_X11_79 rfl (Nat.lt_of_lt_of_le (by decide) hN) rfl (hR _ _ _ rfl) ?_
  refine E_ic (nI 0) dX11_mostOfCorks_4 (by decide) ?_
  refine E_callS (As := [_, _]) (kc' := 0) (ks' := 0) (kc := 0) (ks := 0) dX11_mostOfCorks_5 ok_J7_fill_53178 w_X11_238 st_J7_fill_53178 rfl rfl rfl (Nat.le_of_ble_eq_true rfl) (Nat.le_of_ble_eq_true rfl) (Nat.le_refl _) (c_fillI (L := 100) rfl (Nat.lt_of_lt_of_le (by decide) hN) ?_)
  refine E.mem (put_fil I 52 100 (nI 0) (f := (fun y => nI (rwS (fun j => σ 8 j 0) b good 0 y))) (fun y => by show nI (if y ≤ good then 0 else 0) = nI 0; split <;> rfl)) ?_
  refine E_ic (nI 0) dX11_mostOfCorks_8 (by decide) ?_
  refine E_istore dX11_mostOfCorks_9 (Nat.le_of_ble_eq_true rfl) ?_
  exact L 0 (Nat.zero_le _)
set_option maxRecDepth 100000 in
set_option maxHeartbeats 2000000 in
theorem sx_wear (x w v : Int32) : SX mX11_wear [.int x, .int w, .int v] (r_wear x w v) (u_wear x w v) := by
  intro g n I J R σ Q hB hX hQ
  have hN := hX.2.2.2.1.n.1
  have hR := hX.2.2.2.1.1
  have b9 : σ 9 0 0 ≤ 260 := hB.2.2.2.2.2.1
  unfold r_wear u_wear at hQ
  rcases i32_ix w 100 (by decide) with hw | ⟨k, hk, rfl⟩
  · skip
    have hno : ¬ (tp σ x 1 10 ∧ rg w 99 ∧ rg v 1) := fun z => rg_no hw (by decide) z.2.1
    rw [gd_f hno] at hQ
    rw [gd_f hno] at hQ
    have hq := hQ I J hX (fun _ _ _ => rfl) (fun _ _ _ => rfl)
    refine E_iload_n dX11_wear_0 rfl ?_
    refine E_if_lt (tgt := 23) dX11_wear_1 (by decide) (fun c1 => ?_) (fun c1 => ?_)
    · refine E_ic (nI 0) dX11_wear_23 (by decide) ?_
      refine E_istore dX11_wear_24 (Nat.le_of_ble_eq_true rfl) ?_
      refine E_iload dX11_wear_26 rfl ?_
      refine E_zN_eq (a := 0) (tgt := 42) dX11_wear_28 (by decide) (by decide) (fun c28 => ?_) (fun c28 => absurd c28 (by omega))
      refine E_ic (-1) dX11_wear_42 (by decide) ?_
      exact E_iret dX11_wear_43 rfl (hq)
    · refine E_iload_n dX11_wear_4 rfl ?_
      refine E_bp (nI 99) dX11_wear_5 (by decide) ?_
      refine E_icmp_gt (tgt := 23) dX11_wear_7 (by decide) (fun c7 => ?_) (fun c7 => by first | exact absurd c7 (hw.elim (fun q => absurd q c1) (fun q => Int32.lt_of_lt_of_le (by decide) q)) | exact absurd (hw.elim (fun q => absurd q c1) (fun q => Int32.lt_of_lt_of_le (by decide) q)) c7)
      refine E_ic (nI 0) dX11_wear_23 (by decide) ?_
      refine E_istore dX11_wear_24 (Nat.le_of_ble_eq_true rfl) ?_
      refine E_iload dX11_wear_26 rfl ?_
      refine E_zN_eq (a := 0) (tgt := 42) dX11_wear_28 (by decide) (by decide) (fun c28 => ?_) (fun c28 => absurd c28 (by omega))
      refine E_ic (-1) dX11_wear_42 (by decide) ?_
      exact E_iret dX11_wear_43 rfl (hq)
  rcases i32_ix v 2 (by decide) with hw | ⟨v, hv, rfl⟩
  · skip
    have hno : ¬ (tp σ x 1 10 ∧ rg (nI k) 99 ∧ rg v 1) := fun z => rg_no hw (by decide) z.2.2
    rw [gd_f hno] at hQ
    rw [gd_f hno] at hQ
    have hq := hQ I J hX (fun _ _ _ => rfl) (fun _ _ _ => rfl)
    refine E_iload_n dX11_wear_0 rfl ?_
    refine E_zN_lt (a := k) (tgt := 23) dX11_wear_1 (by omega) (by decide) (fun c1 => c1.elim) (fun c1 => ?_)
    refine E_iload_n dX11_wear_4 rfl ?_
    refine E_bp (nI 99) dX11_wear_5 (by decide) ?_
    refine E_cN_gt (a := k) (b := 99) (tgt := 23) dX11_wear_7 (by omega) (by decide) (by decide) (fun c7 => absurd c7 (by omega)) (fun c7 => ?_)
    refine E_iload_n dX11_wear_10 rfl ?_
    refine E_if_lt (tgt := 23) dX11_wear_11 (by decide) (fun c11 => ?_) (fun c11 => ?_)
    · refine E_ic (nI 0) dX11_wear_23 (by decide) ?_
      refine E_istore dX11_wear_24 (Nat.le_of_ble_eq_true rfl) ?_
      refine E_iload dX11_wear_26 rfl ?_
      refine E_zN_eq (a := 0) (tgt := 42) dX11_wear_28 (by decide) (by decide) (fun c28 => ?_) (fun c28 => absurd c28 (by omega))
      refine E_ic (-1) dX11_wear_42 (by decide) ?_
      exact E_iret dX11_wear_43 rfl (hq)
    · refine E_iload_n dX11_wear_14 rfl ?_
      refine E_ic (nI 1) dX11_wear_15 (by decide) ?_
      refine E_icmp_gt (tgt := 23) dX11_wear_16 (by decide) (fun c16 => ?_) (fun c16 => by first | exact absurd c16 (hw.elim (fun q => absurd q c11) (fun q => Int32.lt_of_lt_of_le (by decide) q)) | exact absurd (hw.elim (fun q => absurd q c11) (fun q => Int32.lt_of_lt_of_le (by decide) q)) c16)
      refine E_ic (nI 0) dX11_wear_23 (by decide) ?_
      refine E_istore dX11_wear_24 (Nat.le_of_ble_eq_true rfl) ?_
      refine E_iload dX11_wear_26 rfl ?_
      refine E_zN_eq (a := 0) (tgt := 42) dX11_wear_28 (by decide) (by decide) (fun c28 => ?_) (fun c28 => absurd c28 (by omega))
      refine E_ic (-1) dX11_wear_42 (by decide) ?_
      exact E_iret dX11_wear_43 rfl (hq)
  refine E_iload_n dX11_wear_0 rfl ?_
  refine E_zN_lt (a := k) (tgt := 23) dX11_wear_1 (by omega) (by decide) (fun c1 => c1.elim) (fun c1 => ?_)
  refine E_iload_n dX11_wear_4 rfl ?_
  refine E_bp (nI 99) dX11_wear_5 (by decide) ?_
  refine E_cN_gt (a := k) (b := 99) (tgt := 23) dX11_wear_7 (by omega) (by decide) (by decide) (fun c7 => absurd c7 (by omega)) (fun c7 => ?_)
  refine E_iload_n dX11_wear_10 rfl ?_
  refine E_zN_lt (a := v) (tgt := 23) dX11_wear_11 (by omega) (by decide) (fun c11 => c11.elim) (fun c11 => ?_)
  refine E_iload_n dX11_wear_14 rfl ?_
  refine E_ic (nI 1) dX11_wear_15 (by decide) ?_
  refine E_cN_gt (a := v) (b := 1) (tgt := 23) dX11_wear_16 (by omega) (by decide) (by decide) (fun c16 => absurd c16 (by omega)) (fun c16 => ?_)
  refine E_ic (nI 1) dX11_wear_19 (by decide) ?_
  refine E_goto (tgt := 24) dX11_wear_20 (by decide) ?_
  refine E_istore dX11_wear_24 (Nat.le_of_ble_eq_true rfl) ?_
  refine E_iload dX11_wear_26 rfl ?_
  refine E_zN_eq (a := 1) (tgt := 42) dX11_wear_28 (by decide) (by decide) (fun c28 => absurd c28 (by omega)) (fun c28 => ?_)
  refine E_aload_n dX11_wear_31 rfl ?_
  refine E_iload_n dX11_wear_32 rfl ?_
  refine E_ic (nI 1) dX11_wear_33 (by decide) ?_
  refine E_bp (nI 10) dX11_wear_34 (by decide) ?_
  refine E_callV (As := [_, _, _]) (ci := 10) (kc' := 0) (ks' := 0) (kc := 0) (ks := 0) dX11_wear_36 ok_X11_tapeHas w_X11_113 i_X11_tapeHas s_X11_tapeHas rfl (by decide) rfl (Nat.lt_of_lt_of_le (by decide) hN) rfl rfl rfl (Nat.le_of_ble_eq_true rfl) (Nat.le_of_ble_eq_true rfl) (Nat.le_refl _) (X_tapeHas (d := 899) (by decide) (by decide) hB hX (fun m h1 h2 h3 e => ?_) (fun z => ?_))
  · subst e
    have hg : tp σ (nI m) 1 10 ∧ rg (nI k) 99 ∧ rg (nI v) 1 := ⟨tp_of h1 h2 h3, rg_of (by omega), rg_of (by omega)⟩
    rw [gd_t hg] at hQ
    rw [gd_t hg, nI_clamp (n := m) (by omega), nI_clamp (n := k) (by omega), nI_clamp (n := v) (by omega)] at hQ
    have hT : TX σ (up2 I 0 2 (nI 0)) := fun j hj => hX.2.2.1 j hj
    refine E_zN_ne (a := 1) (tgt := 44) dX11_wear_39 (by decide) (by decide) (fun c39 => ?_) (fun c39 => absurd c39 (by omega))
    refine E_aload_n dX11_wear_44 rfl ?_
    refine E_ic (nI 0) dX11_wear_45 (by decide) ?_
    refine E_putI dX11_wear_46 f_X11_19 rfl (Nat.lt_of_lt_of_le (by decide) hN) rfl ?_
    refine E_aload_n dX11_wear_49 rfl ?_
    refine E_iload_n dX11_wear_50 rfl ?_
    refine E_ic (nI 0) dX11_wear_51 (by decide) ?_
    refine E_ic (nI 1) dX11_wear_52 (by decide) ?_
    refine E_bp (nI 9) dX11_wear_53 (by decide) ?_
    refine E_callV (As := [_, _, _, _]) (ci := 10) (kc' := 0) (ks' := 0) (kc := 0) (ks := 0) dX11_wear_55 ok_X11_anyAbove w_X11_259 i_X11_anyAbove s_X11_anyAbove rfl (by decide) rfl (Nat.lt_of_lt_of_le (by decide) hN) rfl rfl rfl (Nat.le_of_ble_eq_true rfl) (Nat.le_of_ble_eq_true rfl) (Nat.le_refl _) (x_anyAbove (d := 899) hB hN hR hT h3 (by decide) (by decide) (by decide) (by decide) (fun z => ?_) (fun z => ?_))
    · obtain ⟨q, z1, z2⟩ := z
      rw [Nat.zero_add, Nat.one_mul] at z1 z2
      rw [gd_t ⟨q, z1, z2⟩] at hQ
      have hq := hQ (up2 I 0 2 (nI 0)) J (u0_X hX) (fun a a1 _ => up2_o I 0 2 _ a (by omega)) (fun a a1 _ => up2_o I 0 2 _ a (by omega))
      refine E_zN_eq (a := 1) (tgt := 64) dX11_wear_58 (by decide) (by decide) (fun c58 => absurd c58 (by omega)) (fun c58 => ?_)
      refine E_bp (-3) dX11_wear_61 (by decide) ?_
      exact E_iret dX11_wear_63 rfl (hq)
    · have z : ∀ j, j < m → σ 8 j 0 ≤ 9 := fun j hj => by have := z j; rw [Nat.zero_add, Nat.one_mul] at this; exact this hj
      rw [gd_f (fun y => by obtain ⟨j, y1, y2⟩ := y; have := z j y1; omega)] at hQ
      have hq := hQ (put (up2 I 0 2 (nI 0)) 52 100 (fun y => nI (rwS (fun j => σ 8 j 0) v k m y))) J ((u0_X hX).put 52 100 _ (by decide)) (fun a a1 _ => (put_o _ 52 100 _ (by omega)).trans (up2_o I 0 2 _ a (by omega))) (fun a a1 _ => (put_o _ 52 100 _ (by omega)).trans (up2_o I 0 2 _ a (by omega)))
      refine E_zN_eq (a := 0) (tgt := 64) dX11_wear_58 (by decide) (by decide) (fun c58 => ?_) (fun c58 => absurd c58 (by omega))
      refine E_aload_n dX11_wear_64 rfl ?_
      refine E_iload_n dX11_wear_65 rfl ?_
      refine E_iload_n dX11_wear_66 rfl ?_
      refine E_iload_n dX11_wear_67 rfl ?_
      refine E_ic (nI 1) dX11_wear_68 (by decide) ?_
      refine E_cN_ne (a := v) (b := 1) (tgt := 76) dX11_wear_69 (by omega) (by decide) (by decide) (fun c69 => ?_) (fun c69 => ?_)
      · refine E_ic (nI 0) dX11_wear_76 (by decide) ?_
        refine E.top (show nI 0 = nI v by rw [show v = 0 by omega]) ?_
        refine E_callV (As := [_, _, _]) (ci := 10) (kc' := 0) (ks' := 0) (kc := 0) (ks := 0) dX11_wear_77 ok_X11_mostOfCorks w_X11_304 i_X11_mostOfCorks s_X11_mostOfCorks rfl (by decide) rfl (Nat.lt_of_lt_of_le (by decide) hN) rfl rfl rfl (Nat.le_of_ble_eq_true rfl) (Nat.le_of_ble_eq_true rfl) (Nat.le_refl _) (x_most (d := 898) hN hR hT h2 h3 (by omega) (by omega) z ?_)
        exact E_iret dX11_wear_80 rfl (hq)
      · refine E_ic (nI 1) dX11_wear_72 (by decide) ?_
        refine E.top (show nI 1 = nI v by rw [c69]) ?_
        refine E_goto (tgt := 77) dX11_wear_73 (by decide) ?_
        refine E_callV (As := [_, _, _]) (ci := 10) (kc' := 0) (ks' := 0) (kc := 0) (ks := 0) dX11_wear_77 ok_X11_mostOfCorks w_X11_304 i_X11_mostOfCorks s_X11_mostOfCorks rfl (by decide) rfl (Nat.lt_of_lt_of_le (by decide) hN) rfl rfl rfl (Nat.le_of_ble_eq_true rfl) (Nat.le_of_ble_eq_true rfl) (Nat.le_refl _) (x_most (d := 898) hN hR hT h2 h3 (by omega) (by omega) z ?_)
        exact E_iret dX11_wear_80 rfl (hq)
  · have hno : ¬ (tp σ x 1 10 ∧ rg (nI k) 99 ∧ rg (nI v) 1) := fun y => z y.1
    rw [gd_f hno] at hQ
    rw [gd_f hno] at hQ
    have hq := hQ I J hX (fun _ _ _ => rfl) (fun _ _ _ => rfl)
    refine E_zN_ne (a := 0) (tgt := 44) dX11_wear_39 (by decide) (by decide) (fun c39 => absurd c39 (by omega)) (fun c39 => ?_)
    refine E_ic (-1) dX11_wear_42 (by decide) ?_
    exact E_iret dX11_wear_43 rfl (hq)
set_option maxRecDepth 100000 in
set_option maxHeartbeats 2000000 in
theorem sm_wear (x w v : Int32) : SM mX12_wear [.int x, .int w, .int v] (r_wear x w v) (u_wear x w v) := by
  intro g n I J R σ Q hB hM hN hR hQ
  have b9 : σ 9 0 0 ≤ 260 := hB.2.2.2.2.2.1
  unfold r_wear u_wear at hQ
  refine E_iload_n dX12_wear_0 rfl ?_
  refine E_ic (nI 1) dX12_wear_1 (by decide) ?_
  refine E_bp (nI 10) dX12_wear_2 (by decide) ?_
  refine E_callS (As := [_, _, _]) (kc' := 0) (ks' := 0) (kc := 0) (ks := 0) dX12_wear_4 ok_X12_in w_X12_124 st_X12_in rfl rfl rfl (Nat.le_of_ble_eq_true rfl) (Nat.le_of_ble_eq_true rfl) (Nat.le_refl _) (M_in (by decide) (by decide) (fun m h1 h2 e => ?_) (fun z => ?_))
  · subst e
    refine E_zN_eq (a := 1) (tgt := 37) dX12_wear_7 (by decide) (by decide) (fun c7 => absurd c7 (by omega)) (fun c7 => ?_)
    refine E_iload_n dX12_wear_10 rfl ?_
    refine E_ic (nI 0) dX12_wear_11 (by decide) ?_
    refine E_bp (nI 99) dX12_wear_12 (by decide) ?_
    refine E_callS (As := [_, _, _]) (kc' := 0) (ks' := 0) (kc := 0) (ks := 0) dX12_wear_14 ok_X12_in w_X12_124 st_X12_in rfl rfl rfl (Nat.le_of_ble_eq_true rfl) (Nat.le_of_ble_eq_true rfl) (Nat.le_refl _) (M_in (by decide) (by decide) (fun k _ h4 e => ?_) (fun z => ?_))
    · subst e
      refine E_zN_eq (a := 1) (tgt := 37) dX12_wear_17 (by decide) (by decide) (fun c17 => absurd c17 (by omega)) (fun c17 => ?_)
      refine E_iload_n dX12_wear_20 rfl ?_
      refine E_ic (nI 0) dX12_wear_21 (by decide) ?_
      refine E_ic (nI 1) dX12_wear_22 (by decide) ?_
      refine E_callS (As := [_, _, _]) (kc' := 0) (ks' := 0) (kc := 0) (ks := 0) dX12_wear_23 ok_X12_in w_X12_124 st_X12_in rfl rfl rfl (Nat.le_of_ble_eq_true rfl) (Nat.le_of_ble_eq_true rfl) (Nat.le_refl _) (M_in (by decide) (by decide) (fun v _ h6 e => ?_) (fun z => ?_))
      · subst e
        refine E_zN_eq (a := 1) (tgt := 37) dX12_wear_26 (by decide) (by decide) (fun c26 => absurd c26 (by omega)) (fun c26 => ?_)
        refine E_iload_n dX12_wear_29 rfl ?_
        refine E_aload_n dX12_wear_30 rfl ?_
        refine E_getI dX12_wear_31 f_X12_128 rfl (Nat.lt_of_lt_of_le (by decide) hN) rfl ?_
        refine E.top (hM.2.2.2.1.1) ?_
        refine E_cN_le (a := m) (b := σ 9 0 0) (tgt := 39) dX12_wear_34 (by omega) (by omega) (by decide) (fun c34 => ?_) (fun c34 => ?_)
        · have hg : tp σ (nI m) 1 10 ∧ rg (nI k) 99 ∧ rg (nI v) 1 := ⟨tp_of h1 h2 c34, rg_of h4, rg_of h6⟩
          rw [gd_t hg] at hQ
          rw [gd_t hg, nI_clamp (n := m) (by omega), nI_clamp (n := k) (by omega), nI_clamp (n := v) (by omega)] at hQ
          have hq := hQ (up2 I 114 7 (nI 0)) J (u0_M hM) (fun a a1 => up2_o I 114 7 _ a (by omega)) rfl (fun a a1 _ => up2_o I 114 7 _ a (by omega))
          have hT : MT σ (up2 I 114 7 (nI 0) 121) := hM.2.2.2.2.1
          have Lc : ∀ j, j ≤ m → (∀ q2, q2 < j → σ 8 q2 0 ≤ 9) → E g mX12_wear 900 0 0 47 [.ref 114, .int (nI m), .int (nI k), .int (nI v), .int (nI j), jk, jk, jk, jk] [] n (up2 I 114 7 (nI 0)) J R Q := by
            refine loopU m (fun hc => ?_) (fun j hj ih hc => ?_)
            · have z : ∀ j, j < m → σ 8 j 0 ≤ 9 := hc
              rw [gd_f (fun y => by obtain ⟨j, y1, y2⟩ := y; have := z j y1; omega)] at hq
              have p2 : 2 ^ m ≤ 1024 := Nat.pow_le_pow_right (show 0 < 2 by decide) h2
              have Lx : ∀ x, x ≤ (2 ^ m) → E g mX12_wear 900 0 0 79 [.ref 114, .int (nI m), .int (nI k), .int (nI v), .int (nI (mxS (fun j => σ 8 j 0) v m k x)), .int (nI x), jk, jk, jk] [] n (up2 I 114 7 (nI 0)) J R Q := by
                refine loopU (2 ^ m) ?_ (fun x hx ihx => ?_)
                · rw [← wear_eq (fun j => σ 8 j 0) v k (show m ≤ 12 by omega)] at hq
                  refine E_iload dX12_wear_79 rfl ?_
                  refine E_ic (nI 1) dX12_wear_81 (by decide) ?_
                  refine E_iload_n dX12_wear_82 rfl ?_
                  refine E_ishl dX12_wear_83 ?_
                  refine E.top (shl1 m (by omega)) ?_
                  refine E_cN_ge (a := 2 ^ m) (b := 2 ^ m) (tgt := 183) dX12_wear_84 (by omega) (by omega) (by decide) (fun c84 => ?_) (fun c84 => absurd c84 (by omega))
                  refine E_iload dX12_wear_183 rfl ?_
                  exact E_iret dX12_wear_185 rfl (hq)
                · have hx2 := Nat.lt_of_lt_of_le hx p2
                  have Lq : ∀ q, q ≤ m → E g mX12_wear 900 0 0 96 [.ref 114, .int (nI m), .int (nI k), .int (nI v), .int (nI (mxS (fun j => σ 8 j 0) v m k x)), .int (nI x), .int (nI (wtS (fun j => σ 8 j 0) x q)), .int (nI (wtS (fun k => (fun j => σ 8 j 0) k * (fun j => σ 8 j 0) k) x q)), .int (nI q)] [] n (up2 I 114 7 (nI 0)) J R Q := by
                    refine loopU m ?_ (fun q hq ih => ?_)
                    · have w1 := wtS_le (w := (fun j => σ 8 j 0)) (x := x) (b := 9) m z
                      have w2 := wtS_le (w := (fun k => (fun j => σ 8 j 0) k * (fun j => σ 8 j 0) k)) (x := x) (b := 81) m (fun k hk => Nat.mul_le_mul (z k (by omega)) (z k (by omega)))
                      have pl := pop_le x 12
                      have ml := mxS_le (t := (fun j => σ 8 j 0)) (b := v) (m := m) (gd := k) (B := 810) x (fun y _ _ => vlS_le h2 z)
                      refine E_iload dX12_wear_96 rfl ?_
                      refine E_iload_n dX12_wear_98 rfl ?_
                      refine E_cN_ge (a := m) (b := m) (tgt := 150) dX12_wear_99 (by omega) (by omega) (by decide) (fun c99 => ?_) (fun c99 => absurd c99 (by omega))
                      refine E_iload dX12_wear_150 rfl ?_
                      refine E_iload_n dX12_wear_152 rfl ?_
                      refine E_cN_gt (a := wtS (fun j => σ 8 j 0) x m) (b := k) (tgt := 177) dX12_wear_153 (by omega) (by omega) (by decide) (fun c153 => ?_) (fun c153 => ?_)
                      · refine E_incN dX12_wear_177 rfl ?_
                        refine E_goto (tgt := 79) dX12_wear_180 (by decide) ?_
                        refine E.mask [true, true, true, true, true, true, false, false, false] ?_
                        rw [mxS_f (by omega)] at ihx
                        exact ihx
                      · refine E_iload dX12_wear_156 rfl ?_
                        refine E_iload_n dX12_wear_158 rfl ?_
                        refine E_zN_ne (a := v) (tgt := 170) dX12_wear_159 (by omega) (by decide) (fun c159 => ?_) (fun c159 => ?_)
                        · refine E_iload dX12_wear_170 rfl ?_
                          refine E_callS (As := [_, _]) (kc' := 0) (ks' := 0) (kc := 0) (ks := 0) dX12_wear_172 ok_X12_max w_X12_298 st_X12_max rfl rfl rfl (Nat.le_of_ble_eq_true rfl) (Nat.le_of_ble_eq_true rfl) (Nat.le_refl _) (m_max (by omega) (by omega) ?_)
                          refine E_istore dX12_wear_175 (Nat.le_of_ble_eq_true rfl) ?_
                          refine E_incN dX12_wear_177 rfl ?_
                          refine E_goto (tgt := 79) dX12_wear_180 (by decide) ?_
                          refine E.mask [true, true, true, true, true, true, false, false, false] ?_
                          rw [mxS_t c153] at ihx
                          rw [show vlS (fun j => σ 8 j 0) v m x = wtS (fun k => (fun j => σ 8 j 0) k * (fun j => σ 8 j 0) k) x m from if_neg (by omega)] at ihx
                          exact ihx
                        · refine E_iload dX12_wear_162 rfl ?_
                          refine E_callS (As := [_]) (kc' := 0) (ks' := 0) (kc := 0) (ks := 0) dX12_wear_164 ok_X12_bits w_X12_379 st_X12_bits rfl rfl rfl (Nat.le_of_ble_eq_true rfl) (Nat.le_of_ble_eq_true rfl) (Nat.le_refl _) (m_bits (by omega) ?_)
                          refine E_goto (tgt := 172) dX12_wear_167 (by decide) ?_
                          refine E_callS (As := [_, _]) (kc' := 0) (ks' := 0) (kc := 0) (ks := 0) dX12_wear_172 ok_X12_max w_X12_298 st_X12_max rfl rfl rfl (Nat.le_of_ble_eq_true rfl) (Nat.le_of_ble_eq_true rfl) (Nat.le_refl _) (m_max (by omega) (by omega) ?_)
                          refine E_istore dX12_wear_175 (Nat.le_of_ble_eq_true rfl) ?_
                          refine E_incN dX12_wear_177 rfl ?_
                          refine E_goto (tgt := 79) dX12_wear_180 (by decide) ?_
                          refine E.mask [true, true, true, true, true, true, false, false, false] ?_
                          rw [mxS_t c153] at ihx
                          rw [show vlS (fun j => σ 8 j 0) v m x = pop x 12 from if_pos (by omega)] at ihx
                          exact ihx
                    · have w1 := wtS_le (w := (fun j => σ 8 j 0)) (x := x) (b := 9) q (fun k hk => z k (by omega))
                      have w2 := wtS_le (w := (fun k => (fun j => σ 8 j 0) k * (fun j => σ 8 j 0) k)) (x := x) (b := 81) q (fun k hk => Nat.mul_le_mul (z k (by omega)) (z k (by omega)))
                      have zq := z q hq
                      have zm := Nat.mul_le_mul zq zq
                      refine E_iload dX12_wear_96 rfl ?_
                      refine E_iload_n dX12_wear_98 rfl ?_
                      refine E_cN_ge (a := q) (b := m) (tgt := 150) dX12_wear_99 (by omega) (by omega) (by decide) (fun c99 => absurd c99 (by omega)) (fun c99 => ?_)
                      refine E_iload dX12_wear_102 rfl ?_
                      refine E_iload dX12_wear_104 rfl ?_
                      refine E_callS (As := [_, _]) (kc' := 0) (ks' := 0) (kc := 0) (ks := 0) dX12_wear_106 ok_X12_has w_X12_376 st_X12_has rfl rfl rfl (Nat.le_of_ble_eq_true rfl) (Nat.le_of_ble_eq_true rfl) (Nat.le_refl _) (m_has (fun hh => ?_) (fun hh => ?_))
                      · have hb : x / 2 ^ q % 2 = 1 := by rw [bitT (by omega) (by omega)] at hh; exact (nI_eq (by omega) (by decide)).mp hh
                        refine E_zN_ne (a := 1) (tgt := 115) dX12_wear_109 (by decide) (by decide) (fun c109 => ?_) (fun c109 => absurd c109 (by omega))
                        refine E_iload dX12_wear_115 rfl ?_
                        refine E_aload_n dX12_wear_117 rfl ?_
                        refine E_iload dX12_wear_118 rfl ?_
                        refine E_callV (As := [_]) (ci := 11) (kc' := 0) (ks' := 0) (kc := 0) (ks := 0) dX12_wear_120 ok_X12_octet w_X12_387 i_X12_octet s_X12_octet rfl (by decide) rfl (Nat.lt_of_lt_of_le (by decide) hN) rfl rfl rfl (Nat.le_of_ble_eq_true rfl) (Nat.le_of_ble_eq_true rfl) (Nat.le_refl _) (m_octet (d := 899) hT hB hN hR (by omega) ?_)
                        refine E_iadd dX12_wear_123 ?_
                        refine E.top (nI_add (wtS (fun j => σ 8 j 0) x q) (σ 8 q 0)) ?_
                        refine E_istore dX12_wear_124 (Nat.le_of_ble_eq_true rfl) ?_
                        refine E_iload dX12_wear_126 rfl ?_
                        refine E_aload_n dX12_wear_128 rfl ?_
                        refine E_iload dX12_wear_129 rfl ?_
                        refine E_callV (As := [_]) (ci := 11) (kc' := 0) (ks' := 0) (kc := 0) (ks := 0) dX12_wear_131 ok_X12_octet w_X12_387 i_X12_octet s_X12_octet rfl (by decide) rfl (Nat.lt_of_lt_of_le (by decide) hN) rfl rfl rfl (Nat.le_of_ble_eq_true rfl) (Nat.le_of_ble_eq_true rfl) (Nat.le_refl _) (m_octet (d := 899) hT hB hN hR (by omega) ?_)
                        refine E_aload_n dX12_wear_134 rfl ?_
                        refine E_iload dX12_wear_135 rfl ?_
                        refine E_callV (As := [_]) (ci := 11) (kc' := 0) (ks' := 0) (kc := 0) (ks := 0) dX12_wear_137 ok_X12_octet w_X12_387 i_X12_octet s_X12_octet rfl (by decide) rfl (Nat.lt_of_lt_of_le (by decide) hN) rfl rfl rfl (Nat.le_of_ble_eq_true rfl) (Nat.le_of_ble_eq_true rfl) (Nat.le_refl _) (m_octet (d := 899) hT hB hN hR (by omega) ?_)
                        refine E_imul dX12_wear_140 ?_
                        refine E.top (pk_mul (σ 8 q 0) (σ 8 q 0)) ?_
                        refine E_iadd dX12_wear_141 ?_
                        refine E.top (nI_add (wtS (fun k => (fun j => σ 8 j 0) k * (fun j => σ 8 j 0) k) x q) ((σ 8 q 0) * (σ 8 q 0))) ?_
                        refine E_istore dX12_wear_142 (Nat.le_of_ble_eq_true rfl) ?_
                        refine E_incN dX12_wear_144 rfl ?_
                        refine E_goto (tgt := 96) dX12_wear_147 (by decide) ?_
                        rw [wtS_t hb, wtS_t hb] at ih
                        exact ih
                      · have hb : ¬ x / 2 ^ q % 2 = 1 := fun z => hh (by rw [bitT (by omega) (by omega), z])
                        refine E_zN_ne (a := 0) (tgt := 115) dX12_wear_109 (by decide) (by decide) (fun c109 => absurd c109 (by omega)) (fun c109 => ?_)
                        refine E_goto (tgt := 144) dX12_wear_112 (by decide) ?_
                        refine E_incN dX12_wear_144 rfl ?_
                        refine E_goto (tgt := 96) dX12_wear_147 (by decide) ?_
                        rw [wtS_f hb, wtS_f hb] at ih
                        exact ih
                  refine E_iload dX12_wear_79 rfl ?_
                  refine E_ic (nI 1) dX12_wear_81 (by decide) ?_
                  refine E_iload_n dX12_wear_82 rfl ?_
                  refine E_ishl dX12_wear_83 ?_
                  refine E.top (shl1 m (by omega)) ?_
                  refine E_cN_ge (a := x) (b := 2 ^ m) (tgt := 183) dX12_wear_84 (by omega) (by omega) (by decide) (fun c84 => absurd c84 (by omega)) (fun c84 => ?_)
                  refine E_ic (nI 0) dX12_wear_87 (by decide) ?_
                  refine E_istore dX12_wear_88 (Nat.le_of_ble_eq_true rfl) ?_
                  refine E_ic (nI 0) dX12_wear_90 (by decide) ?_
                  refine E_istore dX12_wear_91 (Nat.le_of_ble_eq_true rfl) ?_
                  refine E_ic (nI 0) dX12_wear_93 (by decide) ?_
                  refine E_istore dX12_wear_94 (Nat.le_of_ble_eq_true rfl) ?_
                  exact Lq 0 (Nat.zero_le _)
              refine E_iload dX12_wear_47 rfl ?_
              refine E_iload_n dX12_wear_49 rfl ?_
              refine E_cN_ge (a := m) (b := m) (tgt := 73) dX12_wear_50 (by omega) (by omega) (by decide) (fun c50 => ?_) (fun c50 => absurd c50 (by omega))
              refine E_ic (nI 0) dX12_wear_73 (by decide) ?_
              refine E_istore dX12_wear_74 (Nat.le_of_ble_eq_true rfl) ?_
              refine E_ic (nI 0) dX12_wear_76 (by decide) ?_
              refine E_istore dX12_wear_77 (Nat.le_of_ble_eq_true rfl) ?_
              exact Lx 0 (Nat.zero_le _)
            · have b8 := hB.2.2.2.2.1 j (by omega)
              refine E_iload dX12_wear_47 rfl ?_
              refine E_iload_n dX12_wear_49 rfl ?_
              refine E_cN_ge (a := j) (b := m) (tgt := 73) dX12_wear_50 (by omega) (by omega) (by decide) (fun c50 => absurd c50 (by omega)) (fun c50 => ?_)
              refine E_aload_n dX12_wear_53 rfl ?_
              refine E_iload dX12_wear_54 rfl ?_
              refine E_callV (As := [_]) (ci := 11) (kc' := 0) (ks' := 0) (kc := 0) (ks := 0) dX12_wear_56 ok_X12_octet w_X12_387 i_X12_octet s_X12_octet rfl (by decide) rfl (Nat.lt_of_lt_of_le (by decide) hN) rfl rfl rfl (Nat.le_of_ble_eq_true rfl) (Nat.le_of_ble_eq_true rfl) (Nat.le_refl _) (m_octet (d := 899) hT hB hN hR (by omega) ?_)
              refine E_bp (nI 9) dX12_wear_59 (by decide) ?_
              refine E_cN_le (a := σ 8 j 0) (b := 9) (tgt := 67) dX12_wear_61 (by omega) (by decide) (by decide) (fun c61 => ?_) (fun c61 => ?_)
              · refine E_incN dX12_wear_67 rfl ?_
                refine E_goto (tgt := 47) dX12_wear_70 (by decide) ?_
                exact ih (fun q2 h2 => by rcases Nat.lt_succ_iff_lt_or_eq.mp h2 with z | z; exact hc q2 z; subst z; exact c61)
              · refine E_bp (-3) dX12_wear_64 (by decide) ?_
                exact E_iret dX12_wear_66 rfl (by rw [gd_t ⟨j, hj, c61⟩] at hq; exact hq)
          refine E_aload_n dX12_wear_39 rfl ?_
          refine E_ic (nI 0) dX12_wear_40 (by decide) ?_
          refine E_putI dX12_wear_41 f_X12_128 rfl (Nat.lt_of_lt_of_le (by decide) hN) rfl ?_
          refine E_ic (nI 0) dX12_wear_44 (by decide) ?_
          refine E_istore dX12_wear_45 (Nat.le_of_ble_eq_true rfl) ?_
          exact Lc 0 (Nat.zero_le _) (fun q h => absurd h (Nat.not_lt_zero q))
        · refine E_ic (-1) dX12_wear_37 (by decide) ?_
          exact E_iret dX12_wear_38 rfl (by first | exact hq | (have hno : ¬ (tp σ (nI m) 1 10 ∧ rg (nI k) 99 ∧ rg (nI v) 1) := (fun y => by obtain ⟨⟨m2, q1, q2, q3, q4⟩, -⟩ := y; have := (nI_eq (by omega) (by omega)).mp q4; omega); rw [gd_f hno] at hQ; rw [gd_f hno] at hQ; exact hQ I J hM (fun _ _ => rfl) rfl (fun _ _ _ => rfl)))
      · have hno : ¬ (tp σ (nI m) 1 10 ∧ rg (nI k) 99 ∧ rg v 1) := fun y => by obtain ⟨j, hj, e⟩ := y.2.2; exact z j (Nat.zero_le _) hj e
        rw [gd_f hno] at hQ
        rw [gd_f hno] at hQ
        have hq := hQ I J hM (fun _ _ => rfl) rfl (fun _ _ _ => rfl)
        refine E_zN_eq (a := 0) (tgt := 37) dX12_wear_26 (by decide) (by decide) (fun c26 => ?_) (fun c26 => absurd c26 (by omega))
        refine E_ic (-1) dX12_wear_37 (by decide) ?_
        exact E_iret dX12_wear_38 rfl (by first | exact hq | (have hno : ¬ (tp σ (nI m) 1 10 ∧ rg (nI k) 99 ∧ rg (nI v) 1) := (fun y => by obtain ⟨⟨m2, q1, q2, q3, q4⟩, -⟩ := y; have := (nI_eq (by omega) (by omega)).mp q4; omega); rw [gd_f hno] at hQ; rw [gd_f hno] at hQ; exact hQ I J hM (fun _ _ => rfl) rfl (fun _ _ _ => rfl)))
    · have hno : ¬ (tp σ (nI m) 1 10 ∧ rg w 99 ∧ rg v 1) := fun y => by obtain ⟨j, hj, e⟩ := y.2.1; exact z j (Nat.zero_le _) hj e
      rw [gd_f hno] at hQ
      rw [gd_f hno] at hQ
      have hq := hQ I J hM (fun _ _ => rfl) rfl (fun _ _ _ => rfl)
      refine E_zN_eq (a := 0) (tgt := 37) dX12_wear_17 (by decide) (by decide) (fun c17 => ?_) (fun c17 => absurd c17 (by omega))
      refine E_ic (-1) dX12_wear_37 (by decide) ?_
      exact E_iret dX12_wear_38 rfl (by first | exact hq | (have hno : ¬ (tp σ (nI m) 1 10 ∧ rg (nI k) 99 ∧ rg (nI v) 1) := (fun y => by obtain ⟨⟨m2, q1, q2, q3, q4⟩, -⟩ := y; have := (nI_eq (by omega) (by omega)).mp q4; omega); rw [gd_f hno] at hQ; rw [gd_f hno] at hQ; exact hQ I J hM (fun _ _ => rfl) rfl (fun _ _ _ => rfl)))
  · have hno : ¬ (tp σ x 1 10 ∧ rg w 99 ∧ rg v 1) := fun y => by obtain ⟨m, q1, q2, q3, q4⟩ := y.1; exact z m q1 q2 q4
    rw [gd_f hno] at hQ
    rw [gd_f hno] at hQ
    have hq := hQ I J hM (fun _ _ => rfl) rfl (fun _ _ _ => rfl)
    refine E_zN_eq (a := 0) (tgt := 37) dX12_wear_7 (by decide) (by decide) (fun c7 => ?_) (fun c7 => absurd c7 (by omega))
    refine E_ic (-1) dX12_wear_37 (by decide) ?_
    exact E_iret dX12_wear_38 rfl (by first | exact hq | (have hno : ¬ (tp σ (nI m) 1 10 ∧ rg (nI k) 99 ∧ rg (nI v) 1) := (fun y => by obtain ⟨⟨m2, q1, q2, q3, q4⟩, -⟩ := y; have := (nI_eq (by omega) (by omega)).mp q4; omega); rw [gd_f hno] at hQ; rw [gd_f hno] at hQ; exact hQ I J hM (fun _ _ => rfl) rfl (fun _ _ _ => rfl)))
end PWear
