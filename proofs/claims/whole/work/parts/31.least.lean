/-! ===== the row that costs least, by the sets of those that stand ===== -/
theorem E_callP {g : GL} {M : MD} {d kc ks pc n : Nat} {ls st : List Value} {I : IM} {J : JM} {R : RM} {Q : PQ} {M' : MD} {idx na d' kc' ks' b ci N : Nat} {C : String} {T : u_T} {stk As : List Value} (hd : decode M.2.1 pc = .ok (.invokevirtual idx, 3)) (hM : MOK M' na) (hna : (parseMethodDescriptor M'.1.desc).map (fun d => d.parameters.length) = some na) (ho : M'.1.cls ≠ "java/lang/invoke/MethodHandle" ∧ M'.1.cls ≠ "java/lang/invoke/VarHandle") (w1 : Cond.methodLink M.1.cls idx M'.1 ∈ tG) (w2 : Cond.instanceMethod M'.1 ∈ tG) (w3 : Cond.selects C M'.1 M'.1 ∈ tG) (w4 : Cond.sameMethod M'.1.cls M'.1.cls M'.1.name M'.1.desc ∈ tG) (hc : vwCl[ci]? = some (C, T, N)) (hci : ci < 20) (hs : (LY b).1 = ci) (hb : b < n) (hst : stk = As.reverse ++ .ref b :: st) (hn : As.length = na) (hj : nJ (.ref b :: As) = true) (hl : slt (.ref b :: As) ≤ M'.2.2.1) (hr : slt st ≤ 8) (hdd : d' + 1 ≤ d) (hE : E g M' d' kc' ks' 0 (ent M'.2.2.1 (.ref b :: As)) [] n I J R (fun v n' I' J' R' => E g M d kc ks (pc + 3) ls (v.toList ++ st) n' I' J' R' Q)) : E g M d (kc' + kc) (ks' + ks) pc ls stk n I J R Q := by
  intro p l e Rm s m args below meth c H locs cells slots mc ms la Z
  have hts := Z.1.2.2.2.2.2.1
  have hf := Z.2.1
  have h3 := Z.2.2.1
  have hR : d' + 1 ≤ Rm.frames ∧ 8 + (M'.2.2.1 + 11) + 64 * d' ≤ Rm.locals := ⟨by omega, by have := hM.2.2.2.2; omega⟩
  obtain ⟨cell, q1, q2, q3, -⟩ := Z.2.2.2.2.2.1.obj hb hs hci hc
  have hG := mw_good M' hM
  have hcm : Cond.code M'.1 M'.2.1 M'.2.2.1 M'.2.2.2 ∈ mw M' := List.mem_cons_self
  refine E_after (a := ((.ref b :: As).map (tr g)).toArray) Z (va_runU (x := M'.1) (owner := M'.1.cls) (bytes := M'.2.1) (maxL := M'.2.2.1) (ret := M'.2.2.2) (n := na) (Ts := tG) (own := M.1.cls) (C := C) (nL := M.2.2.1) (cc := M.2.1) (b := gB g + b) (As := As.map (tr g)) ⟨Z.1.1, Z.1.2.1, Z.1.2.2.2.1, Z.1.2.2.2.2.1, hts⟩ (E.met hM hj hl l hE) ⟨⟨rfl, rfl, hR.1, hR.2, pay_in hts hG, hcm⟩, hts _ hM.2.1, hts _ hM.2.2.1, ho, fun sig h => ?_, hts _ w1, hts _ w4, va_Decl.of (hts _ w2) (hts _ hM.2.1), hts _ w3, hts _ w2⟩ ⟨mP.blind, ⟨cell, q1, by rw [q3]; rfl, by rw [q2]; exact (Z.2.2.2.1.1 ci _ hc).2.1⟩, fun U hU hW => ⟨rfl, by rw [hU]; exact Z.2.2.2.2.2.1, Z.2.2.2.1.moved hW⟩⟩ rfl (by rw [List.length_map]; exact hn) Z.2.2.2.2.2.2.2.1.1 (by subst hst; simp [tr]) (by rw [cat_tr]; show 2 * 0 + slt st ≤ 8; omega) hd ⟨by omega, by omega⟩)
  rw [h] at hna
  exact (Option.some.inj hna).symm
theorem or_ltm {s w m : Nat} (hs : s < 2 ^ m) (hw : w < m) : s ||| 2 ^ w < 2 ^ m := Nat.or_lt_two_pow hs (Nat.pow_lt_pow_right (by decide) hw)
theorem or_lt8 {s w : Nat} (hs : s < 256) (hw : w < 8) : s ||| 2 ^ w < 256 := or_ltm (m := 8) hs hw
theorem pred_dn (q : Nat) : nI q - nI 1 = dnI q := by
  rw [← dn_m1 q]
  show nI q - 1 = nI q + (-1)
  rw [Int32.sub_eq_add_neg]
theorem orb_bit (y w j : Nat) : (y ||| 2 ^ w) / 2 ^ j % 2 = if j = w then 1 else y / 2 ^ j % 2 := by
  rw [← Nat.toNat_testBit, ← Nat.toNat_testBit, Nat.testBit_or, Nat.testBit_two_pow]
  by_cases h : j = w
  · subst h
    rw [if_pos rfl, decide_eq_true rfl, Bool.or_true]
    rfl
  · rw [if_neg h, decide_eq_false (fun z => h z.symm), Bool.or_false]
theorem bit_cases (x k : Nat) : x / 2 ^ k % 2 = 0 ∨ x / 2 ^ k % 2 = 1 := by
  have := Nat.mod_lt (x / 2 ^ k) (show 0 < 2 by decide)
  omega
theorem pop_orb (y w : Nat) (h : y / 2 ^ w % 2 = 0) : ∀ K, pop (y ||| 2 ^ w) K = pop y K + (if w < K then 1 else 0)
  | 0 => rfl
  | K + 1 => by
    have ih := pop_orb y w h K
    show pop (y ||| 2 ^ w) K + (y ||| 2 ^ w) / 2 ^ K % 2 = pop y K + y / 2 ^ K % 2 + _
    rw [ih, orb_bit]
    by_cases e : K = w
    · subst e
      rw [if_pos rfl, if_neg (by omega), if_pos (by omega), h]
    · rw [if_neg e]
      by_cases c : w < K
      · rw [if_pos c, if_pos (by omega)]
        omega
      · rw [if_neg c, if_neg (by omega)]
        omega
theorem orb_gt (y w : Nat) (h : y / 2 ^ w % 2 = 0) : y < y ||| 2 ^ w := by
  refine Nat.lt_of_le_of_ne Nat.left_le_or (fun e => ?_)
  have := orb_bit y w w
  rw [← e, h, if_pos rfl] at this
  exact absurd this (by decide)
theorem full_bits {y : Nat} : ∀ m, (∀ w, w < m → y / 2 ^ w % 2 = 1) → y % 2 ^ m = 2 ^ m - 1
  | 0, _ => by rw [Nat.pow_zero, Nat.mod_one]
  | m + 1, h => by
    have ih := full_bits m (fun w hw => h w (by omega))
    rw [Nat.mod_pow_succ, ih, h m (by omega), Nat.mul_one]
    have := Nat.two_pow_pos m
    rw [Nat.pow_succ]
    omega
theorem free_bit {y m : Nat} (h : y < 2 ^ m - 1) : ∃ w, w < m ∧ y / 2 ^ w % 2 = 0 := by
  apply Classical.byContradiction
  intro hn
  have := full_bits (y := y) m (fun w hw => (bit_cases y w).elim (fun z => absurd ⟨w, hw, z⟩ hn) id)
  rw [Nat.mod_eq_of_lt (by omega)] at this
  omega
theorem pop_le_m {y m : Nat} (h : y < 2 ^ m) (hm : m ≤ 12) : pop y 12 ≤ m := by
  rw [show 12 = m + (12 - m) by omega, pop_hi h]
  exact pop_le y m
/-- what costs least next, and which -/
def bnS (c : Nat → Nat → Nat) (r : Nat → Nat) (s : Nat) : Nat → Nat × Nat
  | 0 => (1000000, 0)
  | w + 1 => if s / 2 ^ w % 2 = 0 ∧ c s w + r (s ||| 2 ^ w) < (bnS c r s w).1 then (c s w + r (s ||| 2 ^ w), w) else bnS c r s w
theorem bnS_le (c : Nat → Nat → Nat) (r : Nat → Nat) (s : Nat) : ∀ w, (bnS c r s w).1 ≤ 1000000 ∧ (bnS c r s w).2 ≤ w
  | 0 => ⟨Nat.le_refl _, Nat.le_refl _⟩
  | w + 1 => by
    have ih := bnS_le c r s w
    unfold bnS
    split
    · rename_i h
      have := h.2
      exact ⟨by show c s w + r (s ||| 2 ^ w) ≤ _; omega, Nat.le_succ w⟩
    · exact ⟨ih.1, by omega⟩
theorem bnS_ok (c : Nat → Nat → Nat) (r : Nat → Nat) (s : Nat) : ∀ w, (∀ d, d < w → s / 2 ^ d % 2 = 0 → (bnS c r s w).1 ≤ c s d + r (s ||| 2 ^ d)) ∧ ((bnS c r s w).1 = 1000000 ∨ ((bnS c r s w).2 < w ∧ s / 2 ^ (bnS c r s w).2 % 2 = 0 ∧ c s (bnS c r s w).2 + r (s ||| 2 ^ (bnS c r s w).2) = (bnS c r s w).1 ∧ ∀ d, d < (bnS c r s w).2 → s / 2 ^ d % 2 = 0 → (bnS c r s w).1 < c s d + r (s ||| 2 ^ d)))
  | 0 => ⟨fun d h => absurd h (Nat.not_lt_zero d), Or.inl rfl⟩
  | w + 1 => by
    obtain ⟨h1, h2⟩ := bnS_ok c r s w
    by_cases h : s / 2 ^ w % 2 = 0 ∧ c s w + r (s ||| 2 ^ w) < (bnS c r s w).1
    · rw [show bnS c r s (w + 1) = (c s w + r (s ||| 2 ^ w), w) from if_pos h]
      have h3 := h.2
      refine ⟨fun d hd hf => ?_, Or.inr ⟨Nat.lt_succ_self w, h.1, rfl, fun d hd hf => Nat.lt_of_lt_of_le h3 (h1 d hd hf)⟩⟩
      rcases Nat.lt_succ_iff_lt_or_eq.mp hd with z | z
      · exact Nat.le_of_lt (Nat.lt_of_lt_of_le h3 (h1 d z hf))
      · subst z
        exact Nat.le_refl _
    · rw [show bnS c r s (w + 1) = bnS c r s w from if_neg h]
      refine ⟨fun d hd hf => ?_, ?_⟩
      · rcases Nat.lt_succ_iff_lt_or_eq.mp hd with z | z
        · exact h1 d z hf
        · subst z
          exact Nat.not_lt.mp (fun q => h ⟨hf, q⟩)
      · rcases h2 with h2 | ⟨a1, a2, a3, a4⟩
        · exact Or.inl h2
        · exact Or.inr ⟨by omega, a2, a3, a4⟩
/-- one is found, the first of those that cost least -/
theorem bnS_fd {c : Nat → Nat → Nat} {r : Nat → Nat} {s m : Nat} (h : ∃ w, w < m ∧ s / 2 ^ w % 2 = 0 ∧ c s w + r (s ||| 2 ^ w) < 1000000) : (bnS c r s m).2 < m ∧ s / 2 ^ (bnS c r s m).2 % 2 = 0 ∧ c s (bnS c r s m).2 + r (s ||| 2 ^ (bnS c r s m).2) = (bnS c r s m).1 ∧ ∀ d, d < (bnS c r s m).2 → s / 2 ^ d % 2 = 0 → (bnS c r s m).1 < c s d + r (s ||| 2 ^ d) := by
  obtain ⟨w, hw, hf, hp⟩ := h
  obtain ⟨h1, h2⟩ := bnS_ok c r s m
  have := h1 w hw hf
  rcases h2 with h2 | h2
  · omega
  · exact h2
theorem bnS_e {c : Nat → Nat → Nat} {r r' : Nat → Nat} {s : Nat} : ∀ m, (∀ w, w < m → s / 2 ^ w % 2 = 0 → r (s ||| 2 ^ w) = r' (s ||| 2 ^ w)) → bnS c r s m = bnS c r' s m
  | 0, _ => rfl
  | m + 1, h => by
    have ih := bnS_e (c := c) m (fun w hw => h w (by omega))
    unfold bnS
    rw [ih]
    by_cases hf : s / 2 ^ m % 2 = 0
    · rw [h m (by omega) hf]
    · rw [if_neg (fun z => hf z.1), if_neg (fun z => hf z.1)]
/-- the table after j sets, the largest first -/
def tbS (c : Nat → Nat → Nat) (m : Nat) : Nat → Nat → Nat
  | 0 => fun _ => 0
  | j + 1 => fun y => if y = 2 ^ m - 1 - (j + 1) then (bnS c (tbS c m j) y m).1 else tbS c m j y
theorem tbS_q {c : Nat → Nat → Nat} {m q : Nat} (h : q < 2 ^ m - 1) (y : Nat) : tbS c m (2 ^ m - 1 - q) y = if y = q then (bnS c (tbS c m (2 ^ m - 1 - (q + 1))) q m).1 else tbS c m (2 ^ m - 1 - (q + 1)) y := by
  rw [show 2 ^ m - 1 - q = (2 ^ m - 1 - (q + 1)) + 1 by omega]
  show (if y = 2 ^ m - 1 - (2 ^ m - 1 - (q + 1) + 1) then _ else _) = _
  rw [show 2 ^ m - 1 - (2 ^ m - 1 - (q + 1) + 1) = q by omega]
  by_cases e : y = q
  · rw [if_pos e, if_pos e, e]
  · rw [if_neg e, if_neg e]
theorem tbS_hi {c : Nat → Nat → Nat} {m : Nat} : ∀ j q, q + j ≤ 2 ^ m - 1 → ∀ y, q + j ≤ y → tbS c m (2 ^ m - 1 - q) y = tbS c m (2 ^ m - 1 - (q + j)) y
  | 0, _, _, _, _ => rfl
  | j + 1, q, h, y, hy => by
    rw [tbS_q (by omega), if_neg (by omega), tbS_hi j (q + 1) (by omega) y (by omega)]
    rw [show q + 1 + j = q + (j + 1) by omega]
theorem tbS_top {c : Nat → Nat → Nat} {m q : Nat} (hq : q ≤ 2 ^ m - 1) : tbS c m (2 ^ m - 1 - q) (2 ^ m - 1) = 0 := by
  have := tbS_hi (c := c) (m := m) (2 ^ m - 1 - q) q (by omega) (2 ^ m - 1) (by omega)
  rw [this, show 2 ^ m - 1 - (q + (2 ^ m - 1 - q)) = 0 by omega]
  rfl
theorem tb_le {c : Nat → Nat → Nat} {m B : Nat} (hm : m ≤ 8) (hcb : ∀ s w, s < 2 ^ m → w < m → c s w ≤ B) : ∀ j q, q + j = 2 ^ m - 1 → ∀ y, q ≤ y → y < 2 ^ m → tbS c m (2 ^ m - 1 - q) y ≤ B * (m - pop y 12)
  | 0, q, h, y, h1, h2 => by
    rw [show y = 2 ^ m - 1 by omega, show q = 2 ^ m - 1 by omega, tbS_top (Nat.le_refl _)]
    exact Nat.zero_le _
  | j + 1, q, h, y, h1, h2 => by
    have ih := tb_le hm hcb j (q + 1) (by omega)
    rw [tbS_q (by omega)]
    by_cases e : y = q
    · subst e
      rw [if_pos rfl]
      obtain ⟨w, hw, hf⟩ := free_bit (y := y) (m := m) (by omega)
      have a1 := (bnS_ok c (tbS c m (2 ^ m - 1 - (y + 1))) y m).1 w hw hf
      have a2 := ih (y ||| 2 ^ w) (orb_gt y w hf) (or_ltm h2 hw)
      have a3 := hcb y w h2 hw
      have a4 := pop_orb y w hf 12
      rw [if_pos (by omega)] at a4
      have a5 := pop_le_m (or_ltm h2 hw) (by omega : m ≤ 12)
      rw [a4] at a2 a5
      have a6 : B * (m - pop y 12) = B * (m - (pop y 12 + 1)) + B := by rw [← Nat.mul_succ]; congr 1; omega
      omega
    · rw [if_neg e]
      exact ih y (by omega) h2
/-- the table in the memory -/
def tbI (I : IM) (a : Nat) (c : Nat → Nat → Nat) (m j : Nat) : Nat → Int32 := fun y => if 2 ^ m - 1 - j ≤ y ∧ y ≤ 2 ^ m - 1 then nI (tbS c m j y) else I a y
theorem tbI_r {I : IM} {a : Nat} {c : Nat → Nat → Nat} {m q y : Nat} (hm : m ≤ 8) (hq : q ≤ 2 ^ m - 1) (h1 : q ≤ y) (h2 : y < 2 ^ m) : put I a 256 (tbI I a c m (2 ^ m - 1 - q)) a y = nI (tbS c m (2 ^ m - 1 - q) y) := by
  have p2 : 2 ^ m ≤ 256 := Nat.pow_le_pow_right (show 0 < 2 by decide) hm
  rw [put_r I _ (by omega)]
  exact if_pos ⟨by omega, by omega⟩
theorem tbI_0 (I : IM) (a : Nat) (c : Nat → Nat → Nat) {m : Nat} (hm : m ≤ 8) : up2 I a (2 ^ m - 1) (nI 0) = put I a 256 (tbI I a c m 0) := by
  have p2 : 2 ^ m ≤ 256 := Nat.pow_le_pow_right (show 0 < 2 by decide) hm
  have p1 : 0 < 2 ^ m := Nat.two_pow_pos m
  funext x y
  unfold up2 put tbI
  by_cases e : x = a
  · subst e
    by_cases h : y = 2 ^ m - 1
    · subst h
      rw [if_pos ⟨rfl, rfl⟩, if_pos ⟨rfl, by omega⟩, if_pos ⟨by omega, by omega⟩]
      rfl
    · have e2 : ¬ (2 ^ m - 1 - 0 ≤ y ∧ y ≤ 2 ^ m - 1) := fun z => h (by omega)
      rw [if_neg (fun z => h z.2)]
      by_cases hy : y < 256
      · rw [if_pos ⟨rfl, hy⟩, if_neg e2]
      · rw [if_neg (fun z => hy z.2)]
  · rw [if_neg (fun z => e z.1), if_neg (fun z => e z.1)]
theorem tbI_s (I : IM) (a : Nat) (c : Nat → Nat → Nat) {m q : Nat} (hm : m ≤ 8) (hq : q < 2 ^ m - 1) : up2 (put I a 256 (tbI I a c m (2 ^ m - 1 - (q + 1)))) a q (nI (bnS c (tbS c m (2 ^ m - 1 - (q + 1))) q m).1) = put I a 256 (tbI I a c m (2 ^ m - 1 - q)) := by
  have p2 : 2 ^ m ≤ 256 := Nat.pow_le_pow_right (show 0 < 2 by decide) hm
  refine put_s I _ (by omega) (fun y hy => ?_)
  unfold tbI
  rw [tbS_q hq y]
  by_cases e : y = q
  · subst e
    rw [if_pos ⟨by omega, by omega⟩, if_pos rfl, if_pos rfl]
  · rw [if_neg e, if_neg e]
    by_cases c1 : q ≤ y ∧ y ≤ 2 ^ m - 1
    · rw [if_pos ⟨by omega, by omega⟩, if_pos ⟨by omega, by omega⟩]
    · rw [if_neg (fun z => c1 ⟨by omega, by omega⟩), if_neg (fun z => c1 ⟨by omega, by omega⟩)]
theorem tb_price {c : Nat → Nat → Nat} {m B q : Nat} (hm : m ≤ 8) (hcb : ∀ s w, s < 2 ^ m → w < m → c s w ≤ B) (hq : q < 2 ^ m) {w : Nat} (hw : w < m) (hf : q / 2 ^ w % 2 = 0) {q2 : Nat} (h2 : q2 ≤ q + 1) : c q w + tbS c m (2 ^ m - 1 - q2) (q ||| 2 ^ w) ≤ B * 8 := by
  have a1 := orb_gt q w hf
  have a2 := tb_le hm hcb (2 ^ m - 1 - q2) q2 (by have := or_ltm hq hw; omega) (q ||| 2 ^ w) (by omega) (or_ltm hq hw)
  have a3 := hcb q w hq hw
  have a4 := pop_orb q w hf 12
  rw [if_pos (by omega)] at a4
  rw [a4] at a2
  have a5 : B * (m - (pop q 12 + 1)) ≤ B * 7 := Nat.mul_le_mul_left B (by omega)
  omega
theorem tb_step (I : IM) (a : Nat) {c : Nat → Nat → Nat} {m B q : Nat} (hm : m ≤ 8) (hcb : ∀ s w, s < 2 ^ m → w < m → c s w ≤ B) (hB : B * 8 < 1000000) (hq : q < 2 ^ m - 1) : (∀ w, w < m → q / 2 ^ w % 2 = 0 → put I a 256 (tbI I a c m (2 ^ m - 1 - (q + 1))) a (q ||| 2 ^ w) = nI (tbS c m (2 ^ m - 1 - (q + 1)) (q ||| 2 ^ w))) ∧ (∀ w, w < m → q / 2 ^ w % 2 = 0 → c q w + tbS c m (2 ^ m - 1 - (q + 1)) (q ||| 2 ^ w) < 2 ^ 30) ∧ ((bnS c (tbS c m (2 ^ m - 1 - (q + 1))) q m).1 < 1000000 + 1 ∧ (bnS c (tbS c m (2 ^ m - 1 - (q + 1))) q m).2 < m ∧ q / 2 ^ (bnS c (tbS c m (2 ^ m - 1 - (q + 1))) q m).2 % 2 = 0 ∧ c q (bnS c (tbS c m (2 ^ m - 1 - (q + 1))) q m).2 + tbS c m (2 ^ m - 1 - (q + 1)) (q ||| 2 ^ (bnS c (tbS c m (2 ^ m - 1 - (q + 1))) q m).2) = (bnS c (tbS c m (2 ^ m - 1 - (q + 1))) q m).1 ∧ True) := by
  have pr : ∀ w, w < m → q / 2 ^ w % 2 = 0 → c q w + tbS c m (2 ^ m - 1 - (q + 1)) (q ||| 2 ^ w) ≤ B * 8 := fun w hw hf => tb_price hm hcb (by omega) hw hf (Nat.le_refl _)
  refine ⟨fun w hw hf => tbI_r hm (by omega) (orb_gt q w hf) (or_ltm (by omega) hw), fun w hw hf => by have := pr w hw hf; omega, ?_⟩
  obtain ⟨w, hw, hf⟩ := free_bit hq
  obtain ⟨b1, b2, b3, -⟩ := bnS_fd (c := c) (r := tbS c m (2 ^ m - 1 - (q + 1))) (s := q) (m := m) ⟨w, hw, hf, by have := pr w hw hf; omega⟩
  exact ⟨Nat.lt_succ_of_le (bnS_le c _ q m).1, b1, b2, b3, trivial⟩
/-- the way: those that stand, the last of them -/
def pthS (c : Nat → Nat → Nat) (r : Nat → Nat) (m : Nat) : Nat → Nat × Nat
  | 0 => (0, 0)
  | p + 1 => ((pthS c r m p).1 ||| 2 ^ (bnS c r (pthS c r m p).1 m).2, (bnS c r (pthS c r m p).1 m).2)
abbrev rtS (c : Nat → Nat → Nat) (m : Nat) : Nat → Nat := tbS c m (2 ^ m - 1 - 0)
theorem rtS_e {c : Nat → Nat → Nat} {m q : Nat} (hq : q < 2 ^ m - 1) : rtS c m q = (bnS c (rtS c m) q m).1 := by
  have h1 := tbS_hi (c := c) (m := m) q 0 (by omega) q (by omega)
  rw [Nat.zero_add] at h1
  show tbS c m (2 ^ m - 1 - 0) q = _
  rw [h1, tbS_q hq, if_pos rfl]
  congr 1
  refine bnS_e m (fun w hw hf => ?_)
  have h2 := tbS_hi (c := c) (m := m) (q + 1) 0 (by omega) (q ||| 2 ^ w) (by have := orb_gt q w hf; omega)
  rw [Nat.zero_add] at h2
  exact h2.symm
theorem rt_fd {c : Nat → Nat → Nat} {m B s : Nat} (hm : m ≤ 8) (hcb : ∀ s w, s < 2 ^ m → w < m → c s w ≤ B) (hB : B * 8 < 1000000) (hs : s < 2 ^ m - 1) : (bnS c (rtS c m) s m).2 < m ∧ s / 2 ^ (bnS c (rtS c m) s m).2 % 2 = 0 ∧ c s (bnS c (rtS c m) s m).2 + rtS c m (s ||| 2 ^ (bnS c (rtS c m) s m).2) = (bnS c (rtS c m) s m).1 ∧ ∀ d, d < (bnS c (rtS c m) s m).2 → s / 2 ^ d % 2 = 0 → (bnS c (rtS c m) s m).1 < c s d + rtS c m (s ||| 2 ^ d) := by
  obtain ⟨w, hw, hf⟩ := free_bit hs
  exact bnS_fd ⟨w, hw, hf, by have := tb_price hm hcb (show s < 2 ^ m by omega) hw hf (Nat.zero_le (s + 1)); show c s w + tbS c m (2 ^ m - 1 - 0) (s ||| 2 ^ w) < _; omega⟩
theorem pop_full {m : Nat} (hm : m ≤ 12) : pop (2 ^ m - 1) 12 = m := by
  have key : ∀ m, m < 13 → pop (2 ^ m - 1) 12 = m := by decide +kernel
  exact key m (by omega)
theorem pth_ok {c : Nat → Nat → Nat} {m B : Nat} (hm : m ≤ 8) (hcb : ∀ s w, s < 2 ^ m → w < m → c s w ≤ B) (hB : B * 8 < 1000000) : ∀ p, p ≤ m → (pthS c (rtS c m) m p).1 < 2 ^ m ∧ pop (pthS c (rtS c m) m p).1 12 = p ∧ (p < m → (pthS c (rtS c m) m p).1 < 2 ^ m - 1)
  | 0, _ => by
    have p1 := Nat.two_pow_pos m
    refine ⟨p1, by show pop 0 12 = 0; decide, fun h => ?_⟩
    have : 2 ^ 1 ≤ 2 ^ m := Nat.pow_le_pow_right (by decide) h
    show 0 < _
    omega
  | p + 1, h => by
    obtain ⟨h1, h2, h3⟩ := pth_ok hm hcb hB p (by omega)
    obtain ⟨b1, b2, b3, -⟩ := rt_fd hm hcb hB (h3 (by omega))
    have a1 : (pthS c (rtS c m) m (p + 1)).1 < 2 ^ m := or_ltm h1 b1
    have a2 : pop (pthS c (rtS c m) m (p + 1)).1 12 = p + 1 := by
      show pop ((pthS c (rtS c m) m p).1 ||| 2 ^ (bnS c (rtS c m) (pthS c (rtS c m) m p).1 m).2) 12 = _
      rw [pop_orb _ _ b2, h2, if_pos (by omega)]
    refine ⟨a1, a2, fun q => ?_⟩
    rcases Nat.lt_or_ge (pthS c (rtS c m) m (p + 1)).1 (2 ^ m - 1) with z | z
    · exact z
    · have e : (pthS c (rtS c m) m (p + 1)).1 = 2 ^ m - 1 := by omega
      rw [e, pop_full (by omega)] at a2
      omega

theorem put_up (I : IM) (f : Nat → Int32) {a b L i : Nat} {v : Int32} (h : a ≠ b) : up2 (put I b L f) a i v = put (up2 I a i v) b L f := by
  funext x y
  show (if x = a ∧ y = i then v else if x = b ∧ y < L then f y else I x y) = (if x = b ∧ y < L then f y else if x = a ∧ y = i then v else I x y)
  by_cases e : x = a
  · subst e
    rw [if_neg (fun z : x = b ∧ y < L => h z.1), if_neg (fun z : x = b ∧ y < L => h z.1)]
  · rw [if_neg (fun z : x = a ∧ y = i => e z.1), if_neg (fun z : x = a ∧ y = i => e z.1)]
theorem up2_up2 {α : Type} (I : Nat → Nat → α) (a i : Nat) (v w : α) : up2 (up2 I a i v) a i w = up2 I a i w := by
  funext x y
  unfold up2
  by_cases e : x = a ∧ y = i
  · rw [if_pos e, if_pos e]
  · rw [if_neg e, if_neg e, if_neg e]
/-- so far apart -/
def dfS (a b : Nat) : Nat := if b ≤ a then a - b else b - a
theorem dfS_le {a b c : Nat} (ha : a ≤ c) (hb : b ≤ c) : dfS a b ≤ c := by
  unfold dfS
  split <;> omega
theorem df_neg {a b : Nat} (ha : a < 2 ^ 30) (hb : b < 2 ^ 30) : (nI a - nI b < 0 ↔ a < b) := by
  rw [Int32.lt_iff_toInt_lt, pk_sub_toInt ha hb]
  show (a : Int) - b < 0 ↔ _
  omega
theorem ab_df {a b : Nat} (ha : a < 2 ^ 30) (hb : b < 2 ^ 30) : iabs (nI a - nI b) = nI (dfS a b) := by
  unfold iabs dfS
  by_cases h : b ≤ a
  · rw [if_pos h, if_pos (Int32.not_lt.mp (fun z => by have := (df_neg ha hb).mp z; omega)), pk_sub h]
  · rw [if_neg h, if_neg (fun z => Int32.not_lt.mpr z ((df_neg ha hb).mpr (by omega))), Int32.zero_sub, Int32.neg_sub, pk_sub (by omega)]
section PLeast
variable {g : GL} {d n : Nat} {I : IM} {J : JM} {R : RM} {Q : PQ} {σ : ST}
set_option maxRecDepth 100000 in
set_option maxHeartbeats 2000000 in
theorem x1_bestNext {m s : Nat} {c : Nat → Nat → Nat} {r : Nat → Nat} (hN : 152 ≤ n) (hR : RS R) (hmany : I 43 1 = nI m) (hm : m ≤ 8) (hs : s < 2 ^ m) (hr : ∀ w, w < m → s / 2 ^ w % 2 = 0 → I 44 (s ||| 2 ^ w) = nI (r (s ||| 2 ^ w))) (hb : ∀ w, w < m → s / 2 ^ w % 2 = 0 → c s w + r (s ||| 2 ^ w) < 2 ^ 30) (hc : ∀ {Q2 : PQ} (w : Nat), w < m → s / 2 ^ w % 2 = 0 → Q2 (some (.int (nI (c s w)))) n I J R → E g mX1_cost (d + 1) 0 0 0 (ent 4 [.ref 43, .int (nI s), .int (nI w)]) [] n I J R Q2) (hQ : Q (some (.int (nI (bnS c r s m).2))) n I J R) : E g mX5_bestNext (d + 2) 0 0 0 (ent 6 [.ref 43, .int (nI s)]) [] n I J R Q := by
  have p2 : 2 ^ m ≤ 256 := Nat.pow_le_pow_right (show 0 < 2 by decide) hm
  have L : ∀ w, w ≤ m → E g mX5_bestNext (d + 2) 0 0 8 [.ref 43, .int (nI s), .int (nI ((bnS c r s w).2)), .int (nI ((bnS c r s w).1)), .int (nI w), jk] [] n I J R Q := by
    refine loopU m ?_ (fun w hw ih => ?_)
    · refine E_iload dX5_bestNext_8 rfl ?_
      refine E_aload_n dX5_bestNext_10 rfl ?_
      refine E_getI dX5_bestNext_11 f_X5_15_1 rfl (Nat.lt_of_lt_of_le (by decide) hN) rfl ?_
      refine E.top (hmany) ?_
      refine E_cN_ge (a := m) (b := m) (tgt := 65) dX5_bestNext_14 (by omega) (by omega) (by decide) (fun c14 => ?_) (fun c14 => absurd c14 (by omega))
      refine E_iload_n dX5_bestNext_65 rfl ?_
      exact E_iret dX5_bestNext_66 rfl (hQ)
    · have l1 := bnS_le c r s w
      have w2 := Nat.pow_lt_pow_right (show 1 < 2 by decide) (show w < 8 by omega)
      have o1 := or_lt8 (show s < 256 by omega) (show w < 8 by omega)
      have hb2 := hb w (by omega)
      refine E_iload dX5_bestNext_8 rfl ?_
      refine E_aload_n dX5_bestNext_10 rfl ?_
      refine E_getI dX5_bestNext_11 f_X5_15_1 rfl (Nat.lt_of_lt_of_le (by decide) hN) rfl ?_
      refine E.top (hmany) ?_
      refine E_cN_ge (a := w) (b := m) (tgt := 65) dX5_bestNext_14 (by omega) (by omega) (by decide) (fun c14 => absurd c14 (by omega)) (fun c14 => ?_)
      refine E_iload_n dX5_bestNext_17 rfl ?_
      refine E_iload dX5_bestNext_18 rfl ?_
      refine E_ishr dX5_bestNext_20 ?_
      refine E_ic (nI 1) dX5_bestNext_21 (by decide) ?_
      refine E_iand dX5_bestNext_22 ?_
      refine E.top (bitT (by omega) (by omega)) ?_
      refine E_zN_ne (a := s / 2 ^ w % 2) (tgt := 59) dX5_bestNext_23 (by omega) (by decide) (fun c23 => ?_) (fun c23 => ?_)
      · refine E_incN dX5_bestNext_59 rfl ?_
        refine E_goto (tgt := 8) dX5_bestNext_62 (by decide) ?_
        refine E.mask [true, true, true, true, true, false] ?_
        rw [show bnS c r s (w + 1) = bnS c r s w from if_neg (fun z => by first | (have := z.1; omega) | (have := z.2; omega))] at ih
        exact ih
      · refine E_aload_n dX5_bestNext_26 rfl ?_
        refine E_iload_n dX5_bestNext_27 rfl ?_
        refine E_iload dX5_bestNext_28 rfl ?_
        refine E_callU (As := [_, _]) (kc' := 0) (ks' := 0) (kc := 0) (ks := 0) (ci := 1) (x := ⟨RX5, "cost", "(II)I"⟩) (C := RX1) (owner := RX5) dX5_bestNext_30 ok_X1_cost (by decide +kernel) (by decide) w_X5_32 i_X1_cost s2_X1_X5_cost sm_X5_cost dc_X5_cost rfl (by decide) rfl (by first | assumption | omega) rfl rfl rfl (Nat.le_of_ble_eq_true rfl) (Nat.le_of_ble_eq_true rfl) (Nat.le_refl _) (hc w (by omega) c23 ?_)
        refine E_aload_n dX5_bestNext_33 rfl ?_
        refine E_getR dX5_bestNext_34 f_X5_9_1 rfl (Nat.lt_of_lt_of_le (by decide) hN) rfl (hR _ _ _ rfl) ?_
        refine E_iload_n dX5_bestNext_37 rfl ?_
        refine E_ic (nI 1) dX5_bestNext_38 (by decide) ?_
        refine E_iload dX5_bestNext_39 rfl ?_
        refine E_ishl dX5_bestNext_41 ?_
        refine E.top (shl1 w (by omega)) ?_
        refine E_ior dX5_bestNext_42 ?_
        refine E.top (nI_or (by omega) (by omega)) ?_
        refine E_ialdN dX5_bestNext_43 rfl (Nat.lt_of_lt_of_le (by decide) hN) (by omega) ?_
        refine E.top (hr w (by omega) c23) ?_
        refine E_iadd dX5_bestNext_44 ?_
        refine E.top (nI_add (c s w) (r (s ||| 2 ^ w))) ?_
        refine E_istore dX5_bestNext_45 (Nat.le_of_ble_eq_true rfl) ?_
        refine E_iload dX5_bestNext_47 rfl ?_
        refine E_iload_n dX5_bestNext_49 rfl ?_
        refine E_cN_ge (a := (c s w) + (r (s ||| 2 ^ w))) (b := (bnS c r s w).1) (tgt := 59) dX5_bestNext_50 (by omega) (by omega) (by decide) (fun c50 => ?_) (fun c50 => ?_)
        · refine E_incN dX5_bestNext_59 rfl ?_
          refine E_goto (tgt := 8) dX5_bestNext_62 (by decide) ?_
          refine E.mask [true, true, true, true, true, false] ?_
          rw [show bnS c r s (w + 1) = bnS c r s w from if_neg (fun z => by first | (have := z.1; omega) | (have := z.2; omega))] at ih
          exact ih
        · refine E_iload dX5_bestNext_53 rfl ?_
          refine E_istore_n dX5_bestNext_55 (Nat.le_of_ble_eq_true rfl) ?_
          refine E_iload dX5_bestNext_56 rfl ?_
          refine E_istore_n dX5_bestNext_58 (Nat.le_of_ble_eq_true rfl) ?_
          refine E_incN dX5_bestNext_59 rfl ?_
          refine E_goto (tgt := 8) dX5_bestNext_62 (by decide) ?_
          refine E.mask [true, true, true, true, true, false] ?_
          rw [show bnS c r s (w + 1) = (c s w + r (s ||| 2 ^ w), w) from if_pos ⟨c23, c50⟩] at ih
          exact ih
  refine E_ic (nI 0) dX5_bestNext_0 (by decide) ?_
  refine E_istore_n dX5_bestNext_1 (Nat.le_of_ble_eq_true rfl) ?_
  refine E_ldc (nI 1000000) dX5_bestNext_2 k_X5_35 ?_
  refine E_istore_n dX5_bestNext_4 (Nat.le_of_ble_eq_true rfl) ?_
  refine E_ic (nI 0) dX5_bestNext_5 (by decide) ?_
  refine E_istore dX5_bestNext_6 (Nat.le_of_ble_eq_true rfl) ?_
  exact L 0 (Nat.zero_le _)
set_option maxRecDepth 100000 in
set_option maxHeartbeats 2000000 in
theorem x1_reckon {m B : Nat} {c : Nat → Nat → Nat} (hN : 152 ≤ n) (hR : RS R) (hm : m ≤ 8) (hcb : ∀ s w, s < 2 ^ m → w < m → c s w ≤ B) (hB1 : B * 8 < 1000000) (hc : ∀ (I2 : IM) {Q2 : PQ}, (∀ x, x ≠ 44 → I2 x = up2 I 43 1 (nI m) x) → ∀ s w : Nat, s < 2 ^ m → w < m → s / 2 ^ w % 2 = 0 → Q2 (some (.int (nI (c s w)))) n I2 J R → E g mX1_cost (d + 1) 0 0 0 (ent 4 [.ref 43, .int (nI s), .int (nI w)]) [] n I2 J R Q2) (hQ : Q none n (put (up2 I 43 1 (nI m)) 44 256 (tbI (up2 I 43 1 (nI m)) 44 c m (2 ^ m - 1 - 0))) J R) : E g mX5_reckon (d + 3) 0 0 0 (ent 5 [.ref 43, .int (nI m)]) [] n I J R Q := by
  have p2 : 2 ^ m ≤ 256 := Nat.pow_le_pow_right (show 0 < 2 by decide) hm
  have p1 : 0 < 2 ^ m := Nat.two_pow_pos m
  have L : ∀ q, q ≤ 2 ^ m - 1 → E g mX5_reckon (d + 3) 0 0 34 [.ref 43, .int (nI m), .int (nI (2 ^ m - 1)), .int (dnI q), jk] [] n (put (up2 I 43 1 (nI m)) 44 256 (tbI (up2 I 43 1 (nI m)) 44 c m (2 ^ m - 1 - q))) J R Q := by
    refine loopD ?_ (fun q ih hq => ?_)
    · intro _
      refine E_iload_n dX5_reckon_34 rfl ?_
      refine E_if_lt (tgt := 76) dX5_reckon_35 (by decide) (fun c35 => ?_) (fun c35 => by first | exact absurd c35 ((by decide)) | exact absurd ((by decide)) c35)
      exact E_ret dX5_reckon_76 rfl (hQ)
    · have ih := ih (by omega)
      have hmany : (put (up2 I 43 1 (nI m)) 44 256 (tbI (up2 I 43 1 (nI m)) 44 c m (2 ^ m - 1 - (q + 1)))) 43 1 = nI m := by rw [put_o _ 44 256 _ (by decide)]; exact up2_s _ _ _ _
      obtain ⟨hr, hb, ⟨b1, b2, b3, b4, b5⟩⟩ := tb_step (up2 I 43 1 (nI m)) 44 hm hcb hB1 (show q < 2 ^ m - 1 by omega)
      have w2 := Nat.pow_lt_pow_right (show 1 < 2 by decide) (show (bnS c (tbS c m (2 ^ m - 1 - (q + 1))) q m).2 < 8 by omega)
      have o1 := or_lt8 (show q < 256 by omega) (show (bnS c (tbS c m (2 ^ m - 1 - (q + 1))) q m).2 < 8 by omega)
      have hbb := hb _ b2 b3
      refine E.locD ?_
      refine E_iload_n dX5_reckon_34 rfl ?_
      refine E_zN_lt (a := q) (tgt := 76) dX5_reckon_35 (by omega) (by decide) (fun c35 => c35.elim) (fun c35 => ?_)
      refine E_aload_n dX5_reckon_38 rfl ?_
      refine E_iload_n dX5_reckon_39 rfl ?_
      refine E_callP (As := [_]) (kc' := 0) (ks' := 0) (kc := 0) (ks := 0) (ci := 1) (C := RX1) dX5_reckon_40 ok_X5_bestNext (by decide +kernel) (by decide) w_X5_28 i_X5_bestNext s2_X1_X5_bestNext sm_X5_bestNext rfl (by decide) rfl (by first | assumption | omega) rfl rfl rfl (Nat.le_of_ble_eq_true rfl) (Nat.le_of_ble_eq_true rfl) (Nat.le_refl _) (x1_bestNext (d := d) (c := c) (r := (tbS c m (2 ^ m - 1 - (q + 1)))) hN hR hmany hm (by omega) hr hb (fun w hw hf h => hc _ (fun x hx => put_o _ 44 256 _ hx) q w (by omega) hw hf h) ?_)
      refine E_istore dX5_reckon_43 (Nat.le_of_ble_eq_true rfl) ?_
      refine E_aload_n dX5_reckon_45 rfl ?_
      refine E_getR dX5_reckon_46 f_X5_9_1 rfl (Nat.lt_of_lt_of_le (by decide) hN) rfl (hR _ _ _ rfl) ?_
      refine E_iload_n dX5_reckon_49 rfl ?_
      refine E_aload_n dX5_reckon_50 rfl ?_
      refine E_iload_n dX5_reckon_51 rfl ?_
      refine E_iload dX5_reckon_52 rfl ?_
      refine E_callU (As := [_, _]) (kc' := 0) (ks' := 0) (kc := 0) (ks := 0) (ci := 1) (x := ⟨RX5, "cost", "(II)I"⟩) (C := RX1) (owner := RX5) dX5_reckon_54 ok_X1_cost (by decide +kernel) (by decide) w_X5_32 i_X1_cost s2_X1_X5_cost sm_X5_cost dc_X5_cost rfl (by decide) rfl (by first | assumption | omega) rfl rfl rfl (Nat.le_of_ble_eq_true rfl) (Nat.le_of_ble_eq_true rfl) (show d + 1 + 1 ≤ d + 3 by omega) (hc (put (up2 I 43 1 (nI m)) 44 256 (tbI (up2 I 43 1 (nI m)) 44 c m (2 ^ m - 1 - (q + 1)))) (fun x hx => put_o _ 44 256 _ hx) q _ (by omega) b2 b3 ?_)
      refine E_aload_n dX5_reckon_57 rfl ?_
      refine E_getR dX5_reckon_58 f_X5_9_1 rfl (Nat.lt_of_lt_of_le (by decide) hN) rfl (hR _ _ _ rfl) ?_
      refine E_iload_n dX5_reckon_61 rfl ?_
      refine E_ic (nI 1) dX5_reckon_62 (by decide) ?_
      refine E_iload dX5_reckon_63 rfl ?_
      refine E_ishl dX5_reckon_65 ?_
      refine E.top (shl1 (bnS c (tbS c m (2 ^ m - 1 - (q + 1))) q m).2 (by omega)) ?_
      refine E_ior dX5_reckon_66 ?_
      refine E.top (nI_or (by omega) (by omega)) ?_
      refine E_ialdN dX5_reckon_67 rfl (Nat.lt_of_lt_of_le (by decide) hN) (by omega) ?_
      refine E.top (hr _ b2 b3) ?_
      refine E_iadd dX5_reckon_68 ?_
      refine E.top (nI_add (c q (bnS c (tbS c m (2 ^ m - 1 - (q + 1))) q m).2) ((tbS c m (2 ^ m - 1 - (q + 1))) (q ||| 2 ^ (bnS c (tbS c m (2 ^ m - 1 - (q + 1))) q m).2))) ?_
      refine E.top (congrArg nI b4) ?_
      refine E_iastN dX5_reckon_69 rfl (Nat.lt_of_lt_of_le (by decide) hN) (by first | assumption | omega) ?_
      refine E.mem (tbI_s (up2 I 43 1 (nI m)) 44 c hm (by omega)) ?_
      refine E_inc (-1) dX5_reckon_70 rfl (by decide) ?_
      refine E_goto (tgt := 34) dX5_reckon_73 (by decide) ?_
      rw [← dn_m1 q] at ih
      refine E.mask [true, true, true, true, false] ?_
      exact ih
  refine E_aload_n dX5_reckon_0 rfl ?_
  refine E_ic (nI 0) dX5_reckon_1 (by decide) ?_
  refine E_iload_n dX5_reckon_2 rfl ?_
  refine E_bp (nI 8) dX5_reckon_3 (by decide) ?_
  refine E_mmin dX5_reckon_5 w_X5_19 (Nat.le_of_ble_eq_true rfl) (by omega) ?_
  refine E.top (nI_min m 8 (by omega) (by omega)) ?_
  refine E_mmax dX5_reckon_8 w_X5_25 (Nat.le_of_ble_eq_true rfl) (by omega) ?_
  refine E.top (nI_max 0 (min m 8) (by omega) (by omega)) ?_
  refine E.top (congrArg nI (show max 0 (min m 8) = m by omega)) ?_
  refine E_putI dX5_reckon_11 f_X5_15_1 rfl (Nat.lt_of_lt_of_le (by decide) hN) rfl ?_
  refine E_ic (nI 1) dX5_reckon_14 (by decide) ?_
  refine E_aload_n dX5_reckon_15 rfl ?_
  refine E_getI dX5_reckon_16 f_X5_15_1 rfl (Nat.lt_of_lt_of_le (by decide) hN) rfl ?_
  refine E.top (up2_s _ _ _ _) ?_
  refine E_ishl dX5_reckon_19 ?_
  refine E.top (shl1 m (by omega)) ?_
  refine E_ic (nI 1) dX5_reckon_20 (by decide) ?_
  refine E_isub dX5_reckon_21 ?_
  refine E.top (pk_sub (a := 2 ^ m) (b := 1) (by omega)) ?_
  refine E_istore_n dX5_reckon_22 (Nat.le_of_ble_eq_true rfl) ?_
  refine E_aload_n dX5_reckon_23 rfl ?_
  refine E_getR dX5_reckon_24 f_X5_9_1 rfl (Nat.lt_of_lt_of_le (by decide) hN) rfl (hR _ _ _ rfl) ?_
  refine E_iload_n dX5_reckon_27 rfl ?_
  refine E_ic (nI 0) dX5_reckon_28 (by decide) ?_
  refine E_iastN dX5_reckon_29 rfl (Nat.lt_of_lt_of_le (by decide) hN) (by first | assumption | omega) ?_
  refine E.mem (tbI_0 (up2 I 43 1 (nI m)) 44 c hm) ?_
  refine E_iload_n dX5_reckon_30 rfl ?_
  refine E_ic (nI 1) dX5_reckon_31 (by decide) ?_
  refine E_isub dX5_reckon_32 ?_
  refine E.top (show nI (2 ^ m - 1) - nI 1 = dnI (2 ^ m - 1) from pred_dn _) ?_
  refine E_istore_n dX5_reckon_33 (Nat.le_of_ble_eq_true rfl) ?_
  have L := L (2 ^ m - 1) (Nat.le_refl _)
  rw [Nat.sub_self] at L
  exact L
set_option maxRecDepth 100000 in
set_option maxHeartbeats 2000000 in
theorem x1_price {v : Nat} (hN : 152 ≤ n) (hR : RS R) (h0 : I 44 0 = nI v) (hQ : Q (some (.int (nI v))) n I J R) : E g mX5_price d 0 0 0 (ent 1 [.ref 43]) [] n I J R Q := by
  refine E_aload_n dX5_price_0 rfl ?_
  refine E_getR dX5_price_1 f_X5_9_1 rfl (Nat.lt_of_lt_of_le (by decide) hN) rfl (hR _ _ _ rfl) ?_
  refine E_ic (nI 0) dX5_price_4 (by decide) ?_
  refine E_ialdN dX5_price_5 rfl (Nat.lt_of_lt_of_le (by decide) hN) (by decide) ?_
  refine E.top (h0) ?_
  exact E_iret dX5_price_6 rfl (hQ)
set_option maxRecDepth 100000 in
set_option maxHeartbeats 2000000 in
theorem x1_stands {m k : Nat} {c : Nat → Nat → Nat} {r : Nat → Nat} (hN : 152 ≤ n) (hR : RS R) (hmany : I 43 1 = nI m) (hm : m ≤ 8) (hk : k < m) (hr : ∀ y, y < 2 ^ m → I 44 y = nI (r y)) (hb : ∀ s w, s < 2 ^ m → w < m → s / 2 ^ w % 2 = 0 → c s w + r (s ||| 2 ^ w) < 2 ^ 30) (hp : ∀ q, q < m → (pthS c r m q).1 < 2 ^ m ∧ (bnS c r (pthS c r m q).1 m).2 < m) (hc : ∀ {Q2 : PQ} (s w : Nat), s < 2 ^ m → w < m → s / 2 ^ w % 2 = 0 → Q2 (some (.int (nI (c s w)))) n I J R → E g mX1_cost (d + 1) 0 0 0 (ent 4 [.ref 43, .int (nI s), .int (nI w)]) [] n I J R Q2) (hQ : Q (some (.int (nI (pthS c r m (k + 1)).2))) n I J R) : E g mX5_standsAt (d + 3) 0 0 0 (ent 5 [.ref 43, .int (nI k)]) [] n I J R Q := by
  have L : ∀ q, q ≤ (k + 1) → E g mX5_standsAt (d + 3) 0 0 7 [.ref 43, .int (nI k), .int (nI ((pthS c r m q).1)), .int (nI ((pthS c r m q).2)), .int (nI q)] [] n I J R Q := by
    refine loopU (k + 1) ?_ (fun q hq ih => ?_)
    · refine E_iload dX5_standsAt_7 rfl ?_
      refine E_iload_n dX5_standsAt_9 rfl ?_
      refine E_cN_gt (a := k + 1) (b := k) (tgt := 40) dX5_standsAt_10 (by omega) (by omega) (by decide) (fun c10 => ?_) (fun c10 => absurd c10 (by omega))
      refine E_iload_n dX5_standsAt_40 rfl ?_
      exact E_iret dX5_standsAt_41 rfl (hQ)
    · obtain ⟨q1, q2⟩ := hp q (by omega)
      have w2 := Nat.pow_lt_pow_right (show 1 < 2 by decide) (show (bnS c r (pthS c r m q).1 m).2 < 8 by omega)
      have w3 := Nat.pow_le_pow_right (show 0 < 2 by decide) hm
      refine E_iload dX5_standsAt_7 rfl ?_
      refine E_iload_n dX5_standsAt_9 rfl ?_
      refine E_cN_gt (a := q) (b := k) (tgt := 40) dX5_standsAt_10 (by omega) (by omega) (by decide) (fun c10 => absurd c10 (by omega)) (fun c10 => ?_)
      refine E_iload dX5_standsAt_13 rfl ?_
      refine E_aload_n dX5_standsAt_15 rfl ?_
      refine E_getI dX5_standsAt_16 f_X5_15_1 rfl (Nat.lt_of_lt_of_le (by decide) hN) rfl ?_
      refine E.top (hmany) ?_
      refine E_cN_ge (a := q) (b := m) (tgt := 40) dX5_standsAt_19 (by omega) (by omega) (by decide) (fun c19 => absurd c19 (by omega)) (fun c19 => ?_)
      refine E_aload_n dX5_standsAt_22 rfl ?_
      refine E_iload_n dX5_standsAt_23 rfl ?_
      refine E_callP (As := [_]) (kc' := 0) (ks' := 0) (kc := 0) (ks := 0) (ci := 1) (C := RX1) dX5_standsAt_24 ok_X5_bestNext (by decide +kernel) (by decide) w_X5_28 i_X5_bestNext s2_X1_X5_bestNext sm_X5_bestNext rfl (by decide) rfl (by first | assumption | omega) rfl rfl rfl (Nat.le_of_ble_eq_true rfl) (Nat.le_of_ble_eq_true rfl) (Nat.le_refl _) (x1_bestNext (d := d) (c := c) (r := r) hN hR hmany hm q1 (fun w hw hf => hr _ (or_ltm q1 hw)) (fun w hw hf => hb _ w q1 hw hf) (fun w hw hf h => hc _ w q1 hw hf h) ?_)
      refine E_istore_n dX5_standsAt_27 (Nat.le_of_ble_eq_true rfl) ?_
      refine E_iload_n dX5_standsAt_28 rfl ?_
      refine E_ic (nI 1) dX5_standsAt_29 (by decide) ?_
      refine E_iload_n dX5_standsAt_30 rfl ?_
      refine E_ishl dX5_standsAt_31 ?_
      refine E.top (shl1 _ (by omega)) ?_
      refine E_ior dX5_standsAt_32 ?_
      refine E.top (nI_or (by omega) (by omega)) ?_
      refine E_istore_n dX5_standsAt_33 (Nat.le_of_ble_eq_true rfl) ?_
      refine E_incN dX5_standsAt_34 rfl ?_
      refine E_goto (tgt := 7) dX5_standsAt_37 (by decide) ?_
      exact ih
  refine E_ic (nI 0) dX5_standsAt_0 (by decide) ?_
  refine E_istore_n dX5_standsAt_1 (Nat.le_of_ble_eq_true rfl) ?_
  refine E_ic (nI 0) dX5_standsAt_2 (by decide) ?_
  refine E_istore_n dX5_standsAt_3 (Nat.le_of_ble_eq_true rfl) ?_
  refine E_ic (nI 0) dX5_standsAt_4 (by decide) ?_
  refine E_istore dX5_standsAt_5 (Nat.le_of_ble_eq_true rfl) ?_
  exact L 0 (Nat.zero_le _)
set_option maxRecDepth 100000 in
set_option maxHeartbeats 2000000 in
theorem x9_bestNext {m s : Nat} {c : Nat → Nat → Nat} {r : Nat → Nat} (hN : 152 ≤ n) (hR : RS R) (hmany : I 40 1 = nI m) (hm : m ≤ 8) (hs : s < 2 ^ m) (hr : ∀ w, w < m → s / 2 ^ w % 2 = 0 → I 41 (s ||| 2 ^ w) = nI (r (s ||| 2 ^ w))) (hb : ∀ w, w < m → s / 2 ^ w % 2 = 0 → c s w + r (s ||| 2 ^ w) < 2 ^ 30) (hc : ∀ {Q2 : PQ} (w : Nat), w < m → s / 2 ^ w % 2 = 0 → Q2 (some (.int (nI (c s w)))) n I J R → E g mX9_cost (d + 1) 0 0 0 (ent 5 [.ref 40, .int (nI s), .int (nI w)]) [] n I J R Q2) (hQ : Q (some (.int (nI (bnS c r s m).2))) n I J R) : E g mX5_bestNext (d + 2) 0 0 0 (ent 6 [.ref 40, .int (nI s)]) [] n I J R Q := by
  have p2 : 2 ^ m ≤ 256 := Nat.pow_le_pow_right (show 0 < 2 by decide) hm
  have L : ∀ w, w ≤ m → E g mX5_bestNext (d + 2) 0 0 8 [.ref 40, .int (nI s), .int (nI ((bnS c r s w).2)), .int (nI ((bnS c r s w).1)), .int (nI w), jk] [] n I J R Q := by
    refine loopU m ?_ (fun w hw ih => ?_)
    · refine E_iload dX5_bestNext_8 rfl ?_
      refine E_aload_n dX5_bestNext_10 rfl ?_
      refine E_getI dX5_bestNext_11 f_X5_15_8 rfl (Nat.lt_of_lt_of_le (by decide) hN) rfl ?_
      refine E.top (hmany) ?_
      refine E_cN_ge (a := m) (b := m) (tgt := 65) dX5_bestNext_14 (by omega) (by omega) (by decide) (fun c14 => ?_) (fun c14 => absurd c14 (by omega))
      refine E_iload_n dX5_bestNext_65 rfl ?_
      exact E_iret dX5_bestNext_66 rfl (hQ)
    · have l1 := bnS_le c r s w
      have w2 := Nat.pow_lt_pow_right (show 1 < 2 by decide) (show w < 8 by omega)
      have o1 := or_lt8 (show s < 256 by omega) (show w < 8 by omega)
      have hb2 := hb w (by omega)
      refine E_iload dX5_bestNext_8 rfl ?_
      refine E_aload_n dX5_bestNext_10 rfl ?_
      refine E_getI dX5_bestNext_11 f_X5_15_8 rfl (Nat.lt_of_lt_of_le (by decide) hN) rfl ?_
      refine E.top (hmany) ?_
      refine E_cN_ge (a := w) (b := m) (tgt := 65) dX5_bestNext_14 (by omega) (by omega) (by decide) (fun c14 => absurd c14 (by omega)) (fun c14 => ?_)
      refine E_iload_n dX5_bestNext_17 rfl ?_
      refine E_iload dX5_bestNext_18 rfl ?_
      refine E_ishr dX5_bestNext_20 ?_
      refine E_ic (nI 1) dX5_bestNext_21 (by decide) ?_
      refine E_iand dX5_bestNext_22 ?_
      refine E.top (bitT (by omega) (by omega)) ?_
      refine E_zN_ne (a := s / 2 ^ w % 2) (tgt := 59) dX5_bestNext_23 (by omega) (by decide) (fun c23 => ?_) (fun c23 => ?_)
      · refine E_incN dX5_bestNext_59 rfl ?_
        refine E_goto (tgt := 8) dX5_bestNext_62 (by decide) ?_
        refine E.mask [true, true, true, true, true, false] ?_
        rw [show bnS c r s (w + 1) = bnS c r s w from if_neg (fun z => by first | (have := z.1; omega) | (have := z.2; omega))] at ih
        exact ih
      · refine E_aload_n dX5_bestNext_26 rfl ?_
        refine E_iload_n dX5_bestNext_27 rfl ?_
        refine E_iload dX5_bestNext_28 rfl ?_
        refine E_callU (As := [_, _]) (kc' := 0) (ks' := 0) (kc := 0) (ks := 0) (ci := 8) (x := ⟨RX5, "cost", "(II)I"⟩) (C := RX9) (owner := RX5) dX5_bestNext_30 ok_X9_cost (by decide +kernel) (by decide) w_X5_32 i_X9_cost s2_X9_X5_cost sm_X5_cost dc_X5_cost rfl (by decide) rfl (by first | assumption | omega) rfl rfl rfl (Nat.le_of_ble_eq_true rfl) (Nat.le_of_ble_eq_true rfl) (Nat.le_refl _) (hc w (by omega) c23 ?_)
        refine E_aload_n dX5_bestNext_33 rfl ?_
        refine E_getR dX5_bestNext_34 f_X5_9_8 rfl (Nat.lt_of_lt_of_le (by decide) hN) rfl (hR _ _ _ rfl) ?_
        refine E_iload_n dX5_bestNext_37 rfl ?_
        refine E_ic (nI 1) dX5_bestNext_38 (by decide) ?_
        refine E_iload dX5_bestNext_39 rfl ?_
        refine E_ishl dX5_bestNext_41 ?_
        refine E.top (shl1 w (by omega)) ?_
        refine E_ior dX5_bestNext_42 ?_
        refine E.top (nI_or (by omega) (by omega)) ?_
        refine E_ialdN dX5_bestNext_43 rfl (Nat.lt_of_lt_of_le (by decide) hN) (by omega) ?_
        refine E.top (hr w (by omega) c23) ?_
        refine E_iadd dX5_bestNext_44 ?_
        refine E.top (nI_add (c s w) (r (s ||| 2 ^ w))) ?_
        refine E_istore dX5_bestNext_45 (Nat.le_of_ble_eq_true rfl) ?_
        refine E_iload dX5_bestNext_47 rfl ?_
        refine E_iload_n dX5_bestNext_49 rfl ?_
        refine E_cN_ge (a := (c s w) + (r (s ||| 2 ^ w))) (b := (bnS c r s w).1) (tgt := 59) dX5_bestNext_50 (by omega) (by omega) (by decide) (fun c50 => ?_) (fun c50 => ?_)
        · refine E_incN dX5_bestNext_59 rfl ?_
          refine E_goto (tgt := 8) dX5_bestNext_62 (by decide) ?_
          refine E.mask [true, true, true, true, true, false] ?_
          rw [show bnS c r s (w + 1) = bnS c r s w from if_neg (fun z => by first | (have := z.1; omega) | (have := z.2; omega))] at ih
          exact ih
        · refine E_iload dX5_bestNext_53 rfl ?_
          refine E_istore_n dX5_bestNext_55 (Nat.le_of_ble_eq_true rfl) ?_
          refine E_iload dX5_bestNext_56 rfl ?_
          refine E_istore_n dX5_bestNext_58 (Nat.le_of_ble_eq_true rfl) ?_
          refine E_incN dX5_bestNext_59 rfl ?_
          refine E_goto (tgt := 8) dX5_bestNext_62 (by decide) ?_
          refine E.mask [true, true, true, true, true, false] ?_
          rw [show bnS c r s (w + 1) = (c s w + r (s ||| 2 ^ w), w) from if_pos ⟨c23, c50⟩] at ih
          exact ih
  refine E_ic (nI 0) dX5_bestNext_0 (by decide) ?_
  refine E_istore_n dX5_bestNext_1 (Nat.le_of_ble_eq_true rfl) ?_
  refine E_ldc (nI 1000000) dX5_bestNext_2 k_X5_35 ?_
  refine E_istore_n dX5_bestNext_4 (Nat.le_of_ble_eq_true rfl) ?_
  refine E_ic (nI 0) dX5_bestNext_5 (by decide) ?_
  refine E_istore dX5_bestNext_6 (Nat.le_of_ble_eq_true rfl) ?_
  exact L 0 (Nat.zero_le _)
set_option maxRecDepth 100000 in
set_option maxHeartbeats 2000000 in
theorem x9_reckon {m B : Nat} {c : Nat → Nat → Nat} (hN : 152 ≤ n) (hR : RS R) (hm : m ≤ 8) (hcb : ∀ s w, s < 2 ^ m → w < m → c s w ≤ B) (hB1 : B * 8 < 1000000) (hc : ∀ (I2 : IM) {Q2 : PQ}, (∀ x, x ≠ 41 → I2 x = up2 I 40 1 (nI m) x) → ∀ s w : Nat, s < 2 ^ m → w < m → s / 2 ^ w % 2 = 0 → Q2 (some (.int (nI (c s w)))) n I2 J R → E g mX9_cost (d + 1) 0 0 0 (ent 5 [.ref 40, .int (nI s), .int (nI w)]) [] n I2 J R Q2) (hQ : Q none n (put (up2 I 40 1 (nI m)) 41 256 (tbI (up2 I 40 1 (nI m)) 41 c m (2 ^ m - 1 - 0))) J R) : E g mX5_reckon (d + 3) 0 0 0 (ent 5 [.ref 40, .int (nI m)]) [] n I J R Q := by
  have p2 : 2 ^ m ≤ 256 := Nat.pow_le_pow_right (show 0 < 2 by decide) hm
  have p1 : 0 < 2 ^ m := Nat.two_pow_pos m
  have L : ∀ q, q ≤ 2 ^ m - 1 → E g mX5_reckon (d + 3) 0 0 34 [.ref 40, .int (nI m), .int (nI (2 ^ m - 1)), .int (dnI q), jk] [] n (put (up2 I 40 1 (nI m)) 41 256 (tbI (up2 I 40 1 (nI m)) 41 c m (2 ^ m - 1 - q))) J R Q := by
    refine loopD ?_ (fun q ih hq => ?_)
    · intro _
      refine E_iload_n dX5_reckon_34 rfl ?_
      refine E_if_lt (tgt := 76) dX5_reckon_35 (by decide) (fun c35 => ?_) (fun c35 => by first | exact absurd c35 ((by decide)) | exact absurd ((by decide)) c35)
      exact E_ret dX5_reckon_76 rfl (hQ)
    · have ih := ih (by omega)
      have hmany : (put (up2 I 40 1 (nI m)) 41 256 (tbI (up2 I 40 1 (nI m)) 41 c m (2 ^ m - 1 - (q + 1)))) 40 1 = nI m := by rw [put_o _ 41 256 _ (by decide)]; exact up2_s _ _ _ _
      obtain ⟨hr, hb, ⟨b1, b2, b3, b4, b5⟩⟩ := tb_step (up2 I 40 1 (nI m)) 41 hm hcb hB1 (show q < 2 ^ m - 1 by omega)
      have w2 := Nat.pow_lt_pow_right (show 1 < 2 by decide) (show (bnS c (tbS c m (2 ^ m - 1 - (q + 1))) q m).2 < 8 by omega)
      have o1 := or_lt8 (show q < 256 by omega) (show (bnS c (tbS c m (2 ^ m - 1 - (q + 1))) q m).2 < 8 by omega)
      have hbb := hb _ b2 b3
      refine E.locD ?_
      refine E_iload_n dX5_reckon_34 rfl ?_
      refine E_zN_lt (a := q) (tgt := 76) dX5_reckon_35 (by omega) (by decide) (fun c35 => c35.elim) (fun c35 => ?_)
      refine E_aload_n dX5_reckon_38 rfl ?_
      refine E_iload_n dX5_reckon_39 rfl ?_
      refine E_callP (As := [_]) (kc' := 0) (ks' := 0) (kc := 0) (ks := 0) (ci := 8) (C := RX9) dX5_reckon_40 ok_X5_bestNext (by decide +kernel) (by decide) w_X5_28 i_X5_bestNext s2_X9_X5_bestNext sm_X5_bestNext rfl (by decide) rfl (by first | assumption | omega) rfl rfl rfl (Nat.le_of_ble_eq_true rfl) (Nat.le_of_ble_eq_true rfl) (Nat.le_refl _) (x9_bestNext (d := d) (c := c) (r := (tbS c m (2 ^ m - 1 - (q + 1)))) hN hR hmany hm (by omega) hr hb (fun w hw hf h => hc _ (fun x hx => put_o _ 41 256 _ hx) q w (by omega) hw hf h) ?_)
      refine E_istore dX5_reckon_43 (Nat.le_of_ble_eq_true rfl) ?_
      refine E_aload_n dX5_reckon_45 rfl ?_
      refine E_getR dX5_reckon_46 f_X5_9_8 rfl (Nat.lt_of_lt_of_le (by decide) hN) rfl (hR _ _ _ rfl) ?_
      refine E_iload_n dX5_reckon_49 rfl ?_
      refine E_aload_n dX5_reckon_50 rfl ?_
      refine E_iload_n dX5_reckon_51 rfl ?_
      refine E_iload dX5_reckon_52 rfl ?_
      refine E_callU (As := [_, _]) (kc' := 0) (ks' := 0) (kc := 0) (ks := 0) (ci := 8) (x := ⟨RX5, "cost", "(II)I"⟩) (C := RX9) (owner := RX5) dX5_reckon_54 ok_X9_cost (by decide +kernel) (by decide) w_X5_32 i_X9_cost s2_X9_X5_cost sm_X5_cost dc_X5_cost rfl (by decide) rfl (by first | assumption | omega) rfl rfl rfl (Nat.le_of_ble_eq_true rfl) (Nat.le_of_ble_eq_true rfl) (show d + 1 + 1 ≤ d + 3 by omega) (hc (put (up2 I 40 1 (nI m)) 41 256 (tbI (up2 I 40 1 (nI m)) 41 c m (2 ^ m - 1 - (q + 1)))) (fun x hx => put_o _ 41 256 _ hx) q _ (by omega) b2 b3 ?_)
      refine E_aload_n dX5_reckon_57 rfl ?_
      refine E_getR dX5_reckon_58 f_X5_9_8 rfl (Nat.lt_of_lt_of_le (by decide) hN) rfl (hR _ _ _ rfl) ?_
      refine E_iload_n dX5_reckon_61 rfl ?_
      refine E_ic (nI 1) dX5_reckon_62 (by decide) ?_
      refine E_iload dX5_reckon_63 rfl ?_
      refine E_ishl dX5_reckon_65 ?_
      refine E.top (shl1 (bnS c (tbS c m (2 ^ m - 1 - (q + 1))) q m).2 (by omega)) ?_
      refine E_ior dX5_reckon_66 ?_
      refine E.top (nI_or (by omega) (by omega)) ?_
      refine E_ialdN dX5_reckon_67 rfl (Nat.lt_of_lt_of_le (by decide) hN) (by omega) ?_
      refine E.top (hr _ b2 b3) ?_
      refine E_iadd dX5_reckon_68 ?_
      refine E.top (nI_add (c q (bnS c (tbS c m (2 ^ m - 1 - (q + 1))) q m).2) ((tbS c m (2 ^ m - 1 - (q + 1))) (q ||| 2 ^ (bnS c (tbS c m (2 ^ m - 1 - (q + 1))) q m).2))) ?_
      refine E.top (congrArg nI b4) ?_
      refine E_iastN dX5_reckon_69 rfl (Nat.lt_of_lt_of_le (by decide) hN) (by first | assumption | omega) ?_
      refine E.mem (tbI_s (up2 I 40 1 (nI m)) 41 c hm (by omega)) ?_
      refine E_inc (-1) dX5_reckon_70 rfl (by decide) ?_
      refine E_goto (tgt := 34) dX5_reckon_73 (by decide) ?_
      rw [← dn_m1 q] at ih
      refine E.mask [true, true, true, true, false] ?_
      exact ih
  refine E_aload_n dX5_reckon_0 rfl ?_
  refine E_ic (nI 0) dX5_reckon_1 (by decide) ?_
  refine E_iload_n dX5_reckon_2 rfl ?_
  refine E_bp (nI 8) dX5_reckon_3 (by decide) ?_
  refine E_mmin dX5_reckon_5 w_X5_19 (Nat.le_of_ble_eq_true rfl) (by omega) ?_
  refine E.top (nI_min m 8 (by omega) (by omega)) ?_
  refine E_mmax dX5_reckon_8 w_X5_25 (Nat.le_of_ble_eq_true rfl) (by omega) ?_
  refine E.top (nI_max 0 (min m 8) (by omega) (by omega)) ?_
  refine E.top (congrArg nI (show max 0 (min m 8) = m by omega)) ?_
  refine E_putI dX5_reckon_11 f_X5_15_8 rfl (Nat.lt_of_lt_of_le (by decide) hN) rfl ?_
  refine E_ic (nI 1) dX5_reckon_14 (by decide) ?_
  refine E_aload_n dX5_reckon_15 rfl ?_
  refine E_getI dX5_reckon_16 f_X5_15_8 rfl (Nat.lt_of_lt_of_le (by decide) hN) rfl ?_
  refine E.top (up2_s _ _ _ _) ?_
  refine E_ishl dX5_reckon_19 ?_
  refine E.top (shl1 m (by omega)) ?_
  refine E_ic (nI 1) dX5_reckon_20 (by decide) ?_
  refine E_isub dX5_reckon_21 ?_
  refine E.top (pk_sub (a := 2 ^ m) (b := 1) (by omega)) ?_
  refine E_istore_n dX5_reckon_22 (Nat.le_of_ble_eq_true rfl) ?_
  refine E_aload_n dX5_reckon_23 rfl ?_
  refine E_getR dX5_reckon_24 f_X5_9_8 rfl (Nat.lt_of_lt_of_le (by decide) hN) rfl (hR _ _ _ rfl) ?_
  refine E_iload_n dX5_reckon_27 rfl ?_
  refine E_ic (nI 0) dX5_reckon_28 (by decide) ?_
  refine E_iastN dX5_reckon_29 rfl (Nat.lt_of_lt_of_le (by decide) hN) (by first | assumption | omega) ?_
  refine E.mem (tbI_0 (up2 I 40 1 (nI m)) 41 c hm) ?_
  refine E_iload_n dX5_reckon_30 rfl ?_
  refine E_ic (nI 1) dX5_reckon_31 (by decide) ?_
  refine E_isub dX5_reckon_32 ?_
  refine E.top (show nI (2 ^ m - 1) - nI 1 = dnI (2 ^ m - 1) from pred_dn _) ?_
  refine E_istore_n dX5_reckon_33 (Nat.le_of_ble_eq_true rfl) ?_
  have L := L (2 ^ m - 1) (Nat.le_refl _)
  rw [Nat.sub_self] at L
  exact L
set_option maxRecDepth 100000 in
set_option maxHeartbeats 2000000 in
theorem x9_price {v : Nat} (hN : 152 ≤ n) (hR : RS R) (h0 : I 41 0 = nI v) (hQ : Q (some (.int (nI v))) n I J R) : E g mX5_price d 0 0 0 (ent 1 [.ref 40]) [] n I J R Q := by
  refine E_aload_n dX5_price_0 rfl ?_
  refine E_getR dX5_price_1 f_X5_9_8 rfl (Nat.lt_of_lt_of_le (by decide) hN) rfl (hR _ _ _ rfl) ?_
  refine E_ic (nI 0) dX5_price_4 (by decide) ?_
  refine E_ialdN dX5_price_5 rfl (Nat.lt_of_lt_of_le (by decide) hN) (by decide) ?_
  refine E.top (h0) ?_
  exact E_iret dX5_price_6 rfl (hQ)
set_option maxRecDepth 100000 in
set_option maxHeartbeats 2000000 in
theorem x9_stands {m k : Nat} {c : Nat → Nat → Nat} {r : Nat → Nat} (hN : 152 ≤ n) (hR : RS R) (hmany : I 40 1 = nI m) (hm : m ≤ 8) (hk : k < m) (hr : ∀ y, y < 2 ^ m → I 41 y = nI (r y)) (hb : ∀ s w, s < 2 ^ m → w < m → s / 2 ^ w % 2 = 0 → c s w + r (s ||| 2 ^ w) < 2 ^ 30) (hp : ∀ q, q < m → (pthS c r m q).1 < 2 ^ m ∧ (bnS c r (pthS c r m q).1 m).2 < m) (hc : ∀ {Q2 : PQ} (s w : Nat), s < 2 ^ m → w < m → s / 2 ^ w % 2 = 0 → Q2 (some (.int (nI (c s w)))) n I J R → E g mX9_cost (d + 1) 0 0 0 (ent 5 [.ref 40, .int (nI s), .int (nI w)]) [] n I J R Q2) (hQ : Q (some (.int (nI (pthS c r m (k + 1)).2))) n I J R) : E g mX5_standsAt (d + 3) 0 0 0 (ent 5 [.ref 40, .int (nI k)]) [] n I J R Q := by
  have L : ∀ q, q ≤ (k + 1) → E g mX5_standsAt (d + 3) 0 0 7 [.ref 40, .int (nI k), .int (nI ((pthS c r m q).1)), .int (nI ((pthS c r m q).2)), .int (nI q)] [] n I J R Q := by
    refine loopU (k + 1) ?_ (fun q hq ih => ?_)
    · refine E_iload dX5_standsAt_7 rfl ?_
      refine E_iload_n dX5_standsAt_9 rfl ?_
      refine E_cN_gt (a := k + 1) (b := k) (tgt := 40) dX5_standsAt_10 (by omega) (by omega) (by decide) (fun c10 => ?_) (fun c10 => absurd c10 (by omega))
      refine E_iload_n dX5_standsAt_40 rfl ?_
      exact E_iret dX5_standsAt_41 rfl (hQ)
    · obtain ⟨q1, q2⟩ := hp q (by omega)
      have w2 := Nat.pow_lt_pow_right (show 1 < 2 by decide) (show (bnS c r (pthS c r m q).1 m).2 < 8 by omega)
      have w3 := Nat.pow_le_pow_right (show 0 < 2 by decide) hm
      refine E_iload dX5_standsAt_7 rfl ?_
      refine E_iload_n dX5_standsAt_9 rfl ?_
      refine E_cN_gt (a := q) (b := k) (tgt := 40) dX5_standsAt_10 (by omega) (by omega) (by decide) (fun c10 => absurd c10 (by omega)) (fun c10 => ?_)
      refine E_iload dX5_standsAt_13 rfl ?_
      refine E_aload_n dX5_standsAt_15 rfl ?_
      refine E_getI dX5_standsAt_16 f_X5_15_8 rfl (Nat.lt_of_lt_of_le (by decide) hN) rfl ?_
      refine E.top (hmany) ?_
      refine E_cN_ge (a := q) (b := m) (tgt := 40) dX5_standsAt_19 (by omega) (by omega) (by decide) (fun c19 => absurd c19 (by omega)) (fun c19 => ?_)
      refine E_aload_n dX5_standsAt_22 rfl ?_
      refine E_iload_n dX5_standsAt_23 rfl ?_
      refine E_callP (As := [_]) (kc' := 0) (ks' := 0) (kc := 0) (ks := 0) (ci := 8) (C := RX9) dX5_standsAt_24 ok_X5_bestNext (by decide +kernel) (by decide) w_X5_28 i_X5_bestNext s2_X9_X5_bestNext sm_X5_bestNext rfl (by decide) rfl (by first | assumption | omega) rfl rfl rfl (Nat.le_of_ble_eq_true rfl) (Nat.le_of_ble_eq_true rfl) (Nat.le_refl _) (x9_bestNext (d := d) (c := c) (r := r) hN hR hmany hm q1 (fun w hw hf => hr _ (or_ltm q1 hw)) (fun w hw hf => hb _ w q1 hw hf) (fun w hw hf h => hc _ w q1 hw hf h) ?_)
      refine E_istore_n dX5_standsAt_27 (Nat.le_of_ble_eq_true rfl) ?_
      refine E_iload_n dX5_standsAt_28 rfl ?_
      refine E_ic (nI 1) dX5_standsAt_29 (by decide) ?_
      refine E_iload_n dX5_standsAt_30 rfl ?_
      refine E_ishl dX5_standsAt_31 ?_
      refine E.top (shl1 _ (by omega)) ?_
      refine E_ior dX5_standsAt_32 ?_
      refine E.top (nI_or (by omega) (by omega)) ?_
      refine E_istore_n dX5_standsAt_33 (Nat.le_of_ble_eq_true rfl) ?_
      refine E_incN dX5_standsAt_34 rfl ?_
      refine E_goto (tgt := 7) dX5_standsAt_37 (by decide) ?_
      exact ih
  refine E_ic (nI 0) dX5_standsAt_0 (by decide) ?_
  refine E_istore_n dX5_standsAt_1 (Nat.le_of_ble_eq_true rfl) ?_
  refine E_ic (nI 0) dX5_standsAt_2 (by decide) ?_
  refine E_istore_n dX5_standsAt_3 (Nat.le_of_ble_eq_true rfl) ?_
  refine E_ic (nI 0) dX5_standsAt_4 (by decide) ?_
  refine E_istore dX5_standsAt_5 (Nat.le_of_ble_eq_true rfl) ?_
  exact L 0 (Nat.zero_le _)
end PLeast
