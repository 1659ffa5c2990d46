/-! ===== heard ===== -/
theorem nI_and {a b : Nat} (ha : a < 2 ^ 32) (hb : b < 2 ^ 32) : nI a &&& nI b = nI (a &&& b) := by
  apply Int32.toBitVec_inj.mp
  apply BitVec.eq_of_toNat_eq
  rw [Int32.toBitVec_and, BitVec.toNat_and, pk_tn ha, pk_tn hb, pk_tn (Nat.lt_of_le_of_lt Nat.and_le_left ha)]
theorem nI_ne2 {b : Nat} (h : b < 2 ^ 31) : ¬ nI b = -2 := fun z => nI_pos h (by rw [z]; decide)
theorem bitT {x k : Nat} (hx : x < 2 ^ 31) (hk : k < 32) : nI x >>> (nI k &&& 31) &&& nI 1 = nI (x / 2 ^ k % 2) := by
  have key : ∀ k, k < 32 → ((nI k &&& 31).toBitVec.smod 32).toNat = k := by decide +kernel
  rw [pk_shrN hx (nI k &&& 31) k (key k hk), pk_andN (Nat.lt_of_le_of_lt (Nat.div_le_self _ _) (by omega)) (m := nI 1) 1 (by decide)]
/-- the SINS left as a number -/
def snN (f : Nat → Nat) : Nat → Nat → Nat → Nat
  | 0, _, a => a
  | m + 1, i, a => snN f m (i + 1) (a ||| 2 ^ f i)
theorem snN_lt {f : Nat → Nat} : ∀ (m i a : Nat), (∀ j, i ≤ j → j < i + m → f j < 16) → a < 2 ^ 16 → snN f m i a < 2 ^ 16
  | 0, _, _, _, h => h
  | m + 1, i, a, h, ha => snN_lt m (i + 1) _ (fun j h1 h2 => h j (by omega) (by omega)) (Nat.or_lt_two_pow ha (Nat.pow_lt_pow_right (by decide) (h i (by omega) (by omega))))
theorem sinS_n {f : Nat → Nat} : ∀ (m i a : Nat), (∀ j, i ≤ j → j < i + m → f j < 16) → a < 2 ^ 16 → sinS f m i (nI a) = nI (snN f m i a)
  | 0, _, _, _, _ => rfl
  | m + 1, i, a, h, ha => by
    have h1 := h i (by omega) (by omega)
    have h2 : 2 ^ f i < 2 ^ 16 := Nat.pow_lt_pow_right (by decide) h1
    show sinS f m (i + 1) (nI a ||| ((1 : Int32) <<< (nI (f i) &&& 31))) = nI (snN f m (i + 1) (a ||| 2 ^ f i))
    rw [show (1 : Int32) <<< (nI (f i) &&& 31) = nI (2 ^ f i) from shl1 (f i) (by omega), nI_or (by omega) (by omega)]
    exact sinS_n m (i + 1) _ (fun j h1 h2 => h j (by omega) (by omega)) (Nat.or_lt_two_pow ha h2)
def AS (σ : ST) (k : Nat) : Nat := snN (σ 2 k) (σ 0 k 0 - σ 3 k 3) (σ 3 k 3) 0
theorem AS_lt {σ : ST} (hB : BND σ) {k : Nat} (hk : k < 12) : AS σ k < 65536 := snN_lt _ _ _ (fun j h1 h2 => ((hB.1 k hk).2.1 j (by have := (hB.1 k hk).2.2.2; omega)).2) (by decide)
theorem AS_e {σ : ST} (hB : BND σ) {k : Nat} (hk : k < 12) : sinS (σ 2 k) (σ 0 k 0 - σ 3 k 3) (σ 3 k 3) 0 = nI (AS σ k) := sinS_n _ _ 0 (fun j h1 h2 => ((hB.1 k hk).2.1 j (by have := (hB.1 k hk).2.2.2; omega)).2) (by decide)
theorem AS_0 {σ : ST} {k : Nat} (h : σ 0 k 0 = 0) : AS σ k = 0 := by
  unfold AS
  rw [h, Nat.zero_sub]
  rfl
/-- what those of the set x have together -/
def orS (c : Nat → Nat) (x : Nat) : Nat → Nat
  | 0 => 0
  | k + 1 => if x / 2 ^ k % 2 = 1 then orS c x k ||| c k else orS c x k
theorem orS_t {c : Nat → Nat} {x k : Nat} (h : x / 2 ^ k % 2 = 1) : orS c x (k + 1) = orS c x k ||| c k := if_pos h
theorem orS_f {c : Nat → Nat} {x k : Nat} (h : ¬ x / 2 ^ k % 2 = 1) : orS c x (k + 1) = orS c x k := if_neg h
theorem orS_lt {c : Nat → Nat} {x : Nat} : ∀ K, (∀ k, k < K → c k < 65536) → orS c x K < 2 ^ 16
  | 0, _ => by show 0 < 65536; decide
  | K + 1, h => by
    have h1 := orS_lt (x := x) K (fun k hk => h k (by omega))
    unfold orS
    split
    · exact Nat.or_lt_two_pow h1 (h K (by omega))
    · exact h1
theorem orS_and (c : Nat → Nat) (s x : Nat) : ∀ K, orS (fun k => c k &&& s) x K = orS c x K &&& s
  | 0 => (Nat.zero_and s).symm
  | K + 1 => by
    unfold orS
    split
    · rw [orS_and c s x K, Nat.and_or_distrib_right]
    · exact orS_and c s x K
theorem orS_all (c : Nat → Nat) (x : Nat) (K : Nat) (s : Nat) (h : s &&& orS c x K = s) : s &&& orS c 4095 K = s ∨ 12 < K := by
  by_cases hK : 12 < K
  · exact Or.inr hK
  · left
    have key : ∀ k, k < 12 → 4095 / 2 ^ k % 2 = 1 := by decide
    have mono : ∀ K, K ≤ 12 → ∀ i, (orS c x K).testBit i = true → (orS c 4095 K).testBit i = true := by
      intro K
      induction K with
      | zero => intro _ i h; exact h
      | succ K ih =>
        intro hK i h
        rw [orS_t (key K (by omega)), Nat.testBit_or]
        unfold orS at h
        split at h
        · rw [Nat.testBit_or] at h
          rcases Bool.or_eq_true_iff.mp h with h | h
          · rw [ih (by omega) i h, Bool.true_or]
          · rw [h, Bool.or_true]
        · rw [ih (by omega) i h, Bool.true_or]
    apply Nat.eq_of_testBit_eq
    intro i
    have h1 : (s &&& orS c x K).testBit i = s.testBit i := by rw [h]
    rw [Nat.testBit_and] at h1 ⊢
    cases hs : s.testBit i with
    | false => rw [Bool.false_and]
    | true =>
      rw [hs, Bool.true_and] at h1
      rw [mono K (by omega) i h1, Bool.true_and]
theorem bit_eq (x k : Nat) : (x / 2 ^ k % 2 = 1 ↔ x.testBit k = true) := by
  rw [← Nat.toNat_testBit]
  cases x.testBit k <;> decide
/-- one taken out of the set -/
theorem xo_bit (x k j : Nat) (hx : x / 2 ^ k % 2 = 1) : (x ^^^ 2 ^ k) / 2 ^ j % 2 = if j = k then 0 else x / 2 ^ j % 2 := by
  rw [← Nat.toNat_testBit, ← Nat.toNat_testBit, Nat.testBit_xor, Nat.testBit_two_pow]
  by_cases h : j = k
  · subst h
    rw [if_pos rfl, (bit_eq x j).mp hx, decide_eq_true rfl]
    rfl
  · rw [if_neg h, decide_eq_false (fun z => h z.symm), Bool.xor_false]
theorem xo_pop (x k : Nat) (hx : x / 2 ^ k % 2 = 1) : ∀ K, pop (x ^^^ 2 ^ k) K + (if k < K then 1 else 0) = pop x K
  | 0 => rfl
  | K + 1 => by
    have h := xo_pop x k hx K
    show pop (x ^^^ 2 ^ k) K + (x ^^^ 2 ^ k) / 2 ^ K % 2 + _ = pop x K + x / 2 ^ K % 2
    rw [xo_bit x k K hx]
    by_cases e : K = k
    · subst e
      rw [if_pos rfl, if_pos (by omega)]
      rw [if_neg (by omega)] at h
      omega
    · rw [if_neg e]
      by_cases c : k < K
      · rw [if_pos (by omega)]
        rw [if_pos c] at h
        omega
      · rw [if_neg (by omega)]
        rw [if_neg c] at h
        omega
theorem xo_or {c : Nat → Nat} {x k : Nat} (hx : x / 2 ^ k % 2 = 1) (hc : c k = 0) : ∀ K, orS c (x ^^^ 2 ^ k) K = orS c x K
  | 0 => rfl
  | K + 1 => by
    have h := xo_or hx hc K
    by_cases e : K = k
    · subst e
      rw [orS_t hx, orS_f (by rw [xo_bit x K K hx, if_pos rfl]; decide), h, hc, Nat.or_zero]
    · by_cases b : x / 2 ^ K % 2 = 1
      · rw [orS_t b, orS_t (by rw [xo_bit x k K hx, if_neg e]; exact b), h]
      · rw [orS_f b, orS_f (by rw [xo_bit x k K hx, if_neg e]; exact b), h]
theorem pop12 : ∀ a, a < 64 → ∀ b, b < 64 → 12 ≤ pop (64 * a + b) 12 → 64 * a + b = 4095 := by decide +kernel
theorem pop_12 {x : Nat} (h : x < 4096) (hp : 12 ≤ pop x 12) : x = 4095 := by
  have := pop12 (x / 64) (by omega) (x % 64) (by omega)
  rw [show 64 * (x / 64) + x % 64 = x by omega] at this
  exact this hp
/-- the class's search; the reference's -/
def hcS (C : Nat → Prop) [DecidablePred C] : Nat → Nat × Nat
  | 0 => (4095, 12)
  | x + 1 => if pop x 12 < (hcS C x).2 ∧ C x then (x, pop x 12) else hcS C x
def hmS (C : Nat → Prop) [DecidablePred C] : Nat → Option Nat
  | 0 => none
  | x + 1 => if C x ∧ (∀ b, hmS C x = some b → pop x 12 < pop b 12) then some x else hmS C x
theorem hcS_ok (C : Nat → Prop) [DecidablePred C] : ∀ X, X ≤ 4096 → (hcS C X).2 = pop (hcS C X).1 12 ∧ (hcS C X).1 < 4096 ∧ (∀ y, y < X → C y → (hcS C X).2 ≤ pop y 12) ∧ (((hcS C X).1 = 4095 ∧ (hcS C X).2 = 12 ∧ ∀ y, y < X → C y → 12 ≤ pop y 12) ∨ (C (hcS C X).1 ∧ ∀ y, y < (hcS C X).1 → C y → (hcS C X).2 < pop y 12))
  | 0, _ => ⟨by show 12 = pop 4095 12; decide, by show 4095 < 4096; decide, fun y h => absurd h (by omega), Or.inl ⟨rfl, rfl, fun y h => absurd h (by omega)⟩⟩
  | X + 1, h => by
    obtain ⟨h1, h2, h3, h4⟩ := hcS_ok C X (by omega)
    by_cases c : pop X 12 < (hcS C X).2 ∧ C X
    · rw [show hcS C (X + 1) = (X, pop X 12) from if_pos c]
      refine ⟨rfl, by omega, fun y hy cy => ?_, Or.inr ⟨c.2, fun y hy cy => Nat.lt_of_lt_of_le c.1 (h3 y hy cy)⟩⟩
      rcases Nat.lt_succ_iff_lt_or_eq.mp hy with z | z
      · exact Nat.le_of_lt (Nat.lt_of_lt_of_le c.1 (h3 y z cy))
      · subst z
        exact Nat.le_refl _
    · rw [show hcS C (X + 1) = hcS C X from if_neg c]
      have h3' : ∀ y, y < X + 1 → C y → (hcS C X).2 ≤ pop y 12 := by
        intro y hy cy
        rcases Nat.lt_succ_iff_lt_or_eq.mp hy with z | z
        · exact h3 y z cy
        · subst z
          exact Nat.not_lt.mp (fun q => c ⟨q, cy⟩)
      refine ⟨h1, h2, h3', ?_⟩
      rcases h4 with ⟨a, b, _⟩ | h4
      · exact Or.inl ⟨a, b, fun y hy cy => by have := h3' y hy cy; rw [b] at this; exact this⟩
      · exact Or.inr h4
theorem hmS_ok (C : Nat → Prop) [DecidablePred C] : ∀ X, (∀ b, hmS C X = some b → b < X ∧ C b ∧ (∀ y, y < X → C y → pop b 12 ≤ pop y 12) ∧ ∀ y, y < b → C y → pop b 12 < pop y 12) ∧ (hmS C X = none → ∀ y, y < X → ¬ C y)
  | 0 => ⟨fun b h => (by cases h), fun _ y h => absurd h (by omega)⟩
  | X + 1 => by
    obtain ⟨h1, h2⟩ := hmS_ok C X
    by_cases c : C X ∧ (∀ b, hmS C X = some b → pop X 12 < pop b 12)
    · rw [show hmS C (X + 1) = some X from if_pos c]
      have key : ∀ y, y < X → C y → pop X 12 < pop y 12 := by
        intro y hy cy
        cases e : hmS C X with
        | none => exact absurd cy (h2 e y hy)
        | some b => exact Nat.lt_of_lt_of_le (c.2 b e) ((h1 b e).2.2.1 y hy cy)
      refine ⟨fun b e => ?_, fun e => (by cases e)⟩
      cases e
      refine ⟨by omega, c.1, fun y hy cy => ?_, key⟩
      rcases Nat.lt_succ_iff_lt_or_eq.mp hy with z | z
      · exact Nat.le_of_lt (key y z cy)
      · subst z
        exact Nat.le_refl _
    · rw [show hmS C (X + 1) = hmS C X from if_neg c]
      refine ⟨fun b e => ?_, fun e y hy cy => ?_⟩
      · obtain ⟨a1, a2, a3, a4⟩ := h1 b e
        refine ⟨by omega, a2, fun y hy cy => ?_, a4⟩
        rcases Nat.lt_succ_iff_lt_or_eq.mp hy with z | z
        · exact a3 y z cy
        · subst z
          refine Nat.not_lt.mp (fun q => c ⟨cy, fun b' e' => ?_⟩)
          rw [e] at e'
          cases e'
          exact q
      · rcases Nat.lt_succ_iff_lt_or_eq.mp hy with z | z
        · exact h2 e y z cy
        · subst z
          exact c ⟨cy, fun b' e' => by rw [e] at e'; cases e'⟩
/-- all of the set told; what they have covers s -/
abbrev toldS (σ : ST) (x : Nat) : Prop := ∀ k, k < 12 → x / 2 ^ k % 2 = 1 → 0 < σ 0 k 0
abbrev covS (σ : ST) (s x : Nat) : Prop := s &&& orS (AS σ) x 12 = s
theorem heard_eq {σ : ST} {s : Nat} (h : covS σ s 4095) : hmS (fun x => toldS σ x ∧ covS σ s x) 4096 = some (hcS (covS σ s) 4096).1 := by
  obtain ⟨h1, h2, h3, h4⟩ := hcS_ok (covS σ s) 4096 (Nat.le_refl _)
  generalize hcS (covS σ s) 4096 = r at h1 h2 h3 h4
  obtain ⟨b, f⟩ := r
  simp only at h1 h2 h3 h4
  have hC : covS σ s b ∧ ∀ y, y < b → covS σ s y → f < pop y 12 := by
    rcases h4 with ⟨e1, e2, e3⟩ | h4
    · subst e1
      refine ⟨h, fun y hy cy => ?_⟩
      have := pop_12 (x := y) (by omega) (e3 y (by omega) cy)
      omega
    · exact h4
  have hT : toldS σ b := by
    intro k hk hb
    refine Nat.pos_of_ne_zero (fun z => ?_)
    have e1 := xo_pop b k hb 12
    rw [if_pos hk] at e1
    have e2 : covS σ s (b ^^^ 2 ^ k) := by
      show s &&& orS (AS σ) (b ^^^ 2 ^ k) 12 = s
      rw [xo_or hb (AS_0 z)]
      exact hC.1
    have e3 := h3 (b ^^^ 2 ^ k) (Nat.xor_lt_two_pow (n := 12) h2 (Nat.pow_lt_pow_right (by decide) hk)) e2
    omega
  obtain ⟨m1, m2⟩ := hmS_ok (fun x => toldS σ x ∧ covS σ s x) 4096
  cases e : hmS (fun x => toldS σ x ∧ covS σ s x) 4096 with
  | none => exact absurd ⟨hT, hC.1⟩ (m2 e b h2)
  | some c =>
    obtain ⟨a1, a2, a3, a4⟩ := m1 c e
    have q1 := a3 b h2 ⟨hT, hC.1⟩
    have q2 := h3 c a1 a2.2
    rcases Nat.lt_trichotomy c b with z | z | z
    · have := hC.2 c z a2.2
      omega
    · rw [z]
    · have := a4 b z ⟨hT, hC.1⟩
      omega
theorem heard_no {σ : ST} {s : Nat} (h : ¬ covS σ s 4095) : hmS (fun x => toldS σ x ∧ covS σ s x) 4096 = none := by
  obtain ⟨m1, m2⟩ := hmS_ok (fun x => toldS σ x ∧ covS σ s x) 4096
  cases e : hmS (fun x => toldS σ x ∧ covS σ s x) 4096 with
  | none => rfl
  | some c =>
    obtain ⟨a1, a2, a3, a4⟩ := m1 c e
    rcases orS_all (AS σ) c 12 s a2.2 with z | z
    · exact absurd z h
    · exact absurd z (by decide)
noncomputable def r_heard (x w : Int32) (σ : ST) : Value := .int (gd (rg x 65535 ∧ rg w 1) (if covS σ x.toNatClampNeg 4095 then (if w = nI 0 then nI (hcS (covS σ x.toNatClampNeg) 4096).2 else nI (hcS (covS σ x.toNatClampNeg) 4096).1) else -2) (-1))
section PHeard
variable {g : GL} {d n : Nat} {I : IM} {J : JM} {R : RM} {Q : PQ} {σ : ST}
set_option maxRecDepth 100000 in
set_option maxHeartbeats 2000000 in
theorem x_scratchOf {c : Nat → Nat} {x : Nat} (hN : 152 ≤ n) (hR : RS R) (hc : ∀ k, k < 12 → c k < 65536) (hx : x < 4096) (hQ : Q (some (.int (nI (orS c x 12)))) n (put I 52 12 (fun k => nI (c k))) J R) : E g mX11_scratchOf d 0 0 0 (ent 4 [.ref 0, .int (nI x)]) [] n (put I 52 12 (fun k => nI (c k))) J R Q := by
  have L : ∀ i, i ≤ 12 → E g mX11_scratchOf d 0 0 4 [.ref 0, .int (nI x), .int (nI (orS c x i)), .int (nI i)] [] n (put I 52 12 (fun k => nI (c k))) J R Q := by
    refine loopU 12 ?_ (fun i hi ih => ?_)
    · refine E_iload_n dX11_scratchOf_4 rfl ?_
      refine E_bp (nI 12) dX11_scratchOf_5 (by decide) ?_
      refine E_cN_ge (a := 12) (b := 12) (tgt := 34) dX11_scratchOf_7 (by decide) (by decide) (by decide) (fun c7 => ?_) (fun c7 => absurd c7 (by omega))
      refine E_iload_n dX11_scratchOf_34 rfl ?_
      exact E_iret dX11_scratchOf_35 rfl (hQ)
    · have o1 := orS_lt (x := x) i (fun k hk => hc k (by omega))
      have o2 := hc i hi
      refine E_iload_n dX11_scratchOf_4 rfl ?_
      refine E_bp (nI 12) dX11_scratchOf_5 (by decide) ?_
      refine E_cN_ge (a := i) (b := 12) (tgt := 34) dX11_scratchOf_7 (by omega) (by decide) (by decide) (fun c7 => absurd c7 (by omega)) (fun c7 => ?_)
      refine E_iload_n dX11_scratchOf_10 rfl ?_
      refine E_iload_n dX11_scratchOf_11 rfl ?_
      refine E_ishr dX11_scratchOf_12 ?_
      refine E_ic (nI 1) dX11_scratchOf_13 (by decide) ?_
      refine E_iand dX11_scratchOf_14 ?_
      refine E.top (bitT (by omega) (by omega)) ?_
      refine E_ic (nI 1) dX11_scratchOf_15 (by decide) ?_
      refine E_cN_ne (a := x / 2 ^ i % 2) (b := 1) (tgt := 28) dX11_scratchOf_16 (by omega) (by decide) (by decide) (fun c16 => ?_) (fun c16 => ?_)
      · refine E_incN dX11_scratchOf_28 rfl ?_
        refine E_goto (tgt := 4) dX11_scratchOf_31 (by decide) ?_
        rw [orS_f c16] at ih
        exact ih
      · refine E_iload_n dX11_scratchOf_19 rfl ?_
        refine E_aload_n dX11_scratchOf_20 rfl ?_
        refine E_getR dX11_scratchOf_21 f_X11_79 rfl (Nat.lt_of_lt_of_le (by decide) hN) rfl (hR _ _ _ rfl) ?_
        refine E_iload_n dX11_scratchOf_24 rfl ?_
        refine E_ialdN dX11_scratchOf_25 rfl (Nat.lt_of_lt_of_le (by decide) hN) (by first | assumption | omega) ?_
        refine E.top (put_r I (fun k => nI (c k)) (by omega)) ?_
        refine E_ior dX11_scratchOf_26 ?_
        refine E.top (nI_or (by omega) (by omega)) ?_
        refine E_istore_n dX11_scratchOf_27 (Nat.le_of_ble_eq_true rfl) ?_
        refine E_incN dX11_scratchOf_28 rfl ?_
        refine E_goto (tgt := 4) dX11_scratchOf_31 (by decide) ?_
        rw [orS_t c16] at ih
        exact ih
  refine E_ic (nI 0) dX11_scratchOf_0 (by decide) ?_
  refine E_istore_n dX11_scratchOf_1 (Nat.le_of_ble_eq_true rfl) ?_
  refine E_ic (nI 0) dX11_scratchOf_2 (by decide) ?_
  refine E_istore_n dX11_scratchOf_3 (Nat.le_of_ble_eq_true rfl) ?_
  exact L 0 (by omega)
set_option maxRecDepth 100000 in
set_option maxHeartbeats 2000000 in
theorem sx_heard (x w : Int32) : SX mX11_heard [.int x, .int w] (r_heard x w) id := by
  intro g n I J R σ Q hB hX hQ
  have hN := hX.2.2.2.1.n.1
  have hR := hX.2.2.2.1.1
  unfold r_heard at hQ
  by_cases hg : rg x 65535 ∧ rg w 1
  · rw [gd_t hg] at hQ
    obtain ⟨⟨s, hs, rfl⟩, ⟨v, hv, rfl⟩⟩ := hg
    rw [nI_clamp (by omega)] at hQ
    have hX2 := hX.put 52 12 (fun k => nI (AS σ k &&& s)) (by omega)
    have hq := hQ (put I 52 12 (fun k => nI (AS σ k &&& s))) J hX2 (fun a a1 _ => put_o I 52 12 _ (by omega)) (fun a a1 _ => put_o I 52 12 _ (by omega))
    have cl : ∀ k, k < 12 → AS σ k &&& s < 65536 := fun k hk => Nat.lt_of_le_of_lt Nat.and_le_left (AS_lt hB hk)
    have ce : ∀ x, (orS (fun k => AS σ k &&& s) x 12 = s ↔ covS σ s x) := fun x => by
      rw [orS_and, Nat.and_comm]
    have L0 : ∀ k, k ≤ 12 → E g mX11_heard 900 0 0 23 [.ref 0, .int (nI s), .int (nI v), .int (nI k), jk, jk] [] n (put I 52 k (fun k => nI (AS σ k &&& s))) J R Q := by
      refine loopU 12 ?_ (fun k hk ih => ?_)
      · have ol := orS_lt (c := (fun k => AS σ k &&& s)) (x := 4095) 12 cl
        refine E_iload_n dX11_heard_23 rfl ?_
        refine E_bp (nI 12) dX11_heard_24 (by decide) ?_
        refine E_cN_ge (a := 12) (b := 12) (tgt := 52) dX11_heard_26 (by decide) (by decide) (by decide) (fun c26 => ?_) (fun c26 => absurd c26 (by omega))
        refine E_sp (nI 4095) dX11_heard_52 (by decide) ?_
        refine E_istore_n dX11_heard_55 (Nat.le_of_ble_eq_true rfl) ?_
        refine E_aload_n dX11_heard_56 rfl ?_
        refine E_iload_n dX11_heard_57 rfl ?_
        refine E_callV (As := [_]) (ci := 10) (kc' := 0) (ks' := 0) (kc := 0) (ks := 0) dX11_heard_58 ok_X11_scratchOf w_X11_230 i_X11_scratchOf s_X11_scratchOf rfl (by decide) rfl (Nat.lt_of_lt_of_le (by decide) hN) rfl rfl rfl (Nat.le_of_ble_eq_true rfl) (Nat.le_of_ble_eq_true rfl) (Nat.le_refl _) (x_scratchOf (d := 899) (c := (fun k => AS σ k &&& s)) hN hR cl (by omega) ?_)
        refine E_iload_n dX11_heard_61 rfl ?_
        refine E_cN_eq (a := orS (fun k => AS σ k &&& s) 4095 12) (b := s) (tgt := 68) dX11_heard_62 (by omega) (by omega) (by decide) (fun c62 => ?_) (fun c62 => ?_)
        · rw [if_pos ((ce 4095).mp c62)] at hq
          have L : ∀ x, x ≤ 4096 → E g mX11_heard 900 0 0 75 [.ref 0, .int (nI s), .int (nI v), .int (nI ((hcS (covS σ s) x).1)), .int (nI ((hcS (covS σ s) x).2)), .int (nI x)] [] n (put I 52 12 (fun k => nI (AS σ k &&& s))) J R Q := by
            refine loopU 4096 ?_ (fun x hx ih => ?_)
            · obtain ⟨q1, q2, -, -⟩ := hcS_ok (covS σ s) 4096 (by omega)
              refine E_iload dX11_heard_75 rfl ?_
              refine E_sp (nI 4096) dX11_heard_77 (by decide) ?_
              refine E_cN_ge (a := 4096) (b := 4096) (tgt := 119) dX11_heard_80 (by decide) (by decide) (by decide) (fun c80 => ?_) (fun c80 => absurd c80 (by omega))
              refine E_iload_n dX11_heard_119 rfl ?_
              refine E_zN_ne (a := v) (tgt := 128) dX11_heard_120 (by omega) (by decide) (fun c120 => ?_) (fun c120 => ?_)
              · refine E_iload_n dX11_heard_128 rfl ?_
                exact E_iret dX11_heard_129 rfl (by first | (rw [if_pos (by rw [c120])] at hq; exact hq) | (rw [if_neg (fun q => by have := (nI_eq (by omega) (by decide)).mp q; omega)] at hq; exact hq))
              · refine E_iload dX11_heard_123 rfl ?_
                refine E_goto (tgt := 129) dX11_heard_125 (by decide) ?_
                exact E_iret dX11_heard_129 rfl (by first | (rw [if_pos (by rw [c120])] at hq; exact hq) | (rw [if_neg (fun q => by have := (nI_eq (by omega) (by decide)).mp q; omega)] at hq; exact hq))
            · have pl := pop_le x 12
              have ol := orS_lt (c := (fun k => AS σ k &&& s)) (x := x) 12 cl
              obtain ⟨q1, q2, -, -⟩ := hcS_ok (covS σ s) x (by omega)
              have q3 := pop_le (hcS (covS σ s) x).1 12
              refine E_iload dX11_heard_75 rfl ?_
              refine E_sp (nI 4096) dX11_heard_77 (by decide) ?_
              refine E_cN_ge (a := x) (b := 4096) (tgt := 119) dX11_heard_80 (by omega) (by decide) (by decide) (fun c80 => absurd c80 (by omega)) (fun c80 => ?_)
              refine E_iload dX11_heard_83 rfl ?_
              refine E_callS (As := [_]) (kc' := 0) (ks' := 0) (kc := 0) (ks := 0) dX11_heard_85 ok_J6_bitCount_0f7a4 w_X11_233 st_J6_bitCount_0f7a4 rfl rfl rfl (Nat.le_of_ble_eq_true rfl) (Nat.le_of_ble_eq_true rfl) (Nat.le_refl _) (c_bitCount ?_)
              refine E.top (bc_pop _ (by omega)) ?_
              refine E_iload dX11_heard_88 rfl ?_
              refine E_cN_ge (a := pop x 12) (b := (hcS (covS σ s) x).2) (tgt := 113) dX11_heard_90 (by omega) (by omega) (by decide) (fun c90 => ?_) (fun c90 => ?_)
              · refine E_incN dX11_heard_113 rfl ?_
                refine E_goto (tgt := 75) dX11_heard_116 (by decide) ?_
                rw [show hcS (covS σ s) (x + 1) = hcS (covS σ s) x from if_neg (fun z => by first | (have := z.1; omega) | exact c100 ((ce x).mpr z.2))] at ih
                exact ih
              · refine E_aload_n dX11_heard_93 rfl ?_
                refine E_iload dX11_heard_94 rfl ?_
                refine E_callV (As := [_]) (ci := 10) (kc' := 0) (ks' := 0) (kc := 0) (ks := 0) dX11_heard_96 ok_X11_scratchOf w_X11_230 i_X11_scratchOf s_X11_scratchOf rfl (by decide) rfl (Nat.lt_of_lt_of_le (by decide) hN) rfl rfl rfl (Nat.le_of_ble_eq_true rfl) (Nat.le_of_ble_eq_true rfl) (Nat.le_refl _) (x_scratchOf (d := 899) (c := (fun k => AS σ k &&& s)) hN hR cl (by omega) ?_)
                refine E_iload_n dX11_heard_99 rfl ?_
                refine E_cN_ne (a := orS (fun k => AS σ k &&& s) x 12) (b := s) (tgt := 113) dX11_heard_100 (by omega) (by omega) (by decide) (fun c100 => ?_) (fun c100 => ?_)
                · refine E_incN dX11_heard_113 rfl ?_
                  refine E_goto (tgt := 75) dX11_heard_116 (by decide) ?_
                  rw [show hcS (covS σ s) (x + 1) = hcS (covS σ s) x from if_neg (fun z => by first | (have := z.1; omega) | exact c100 ((ce x).mpr z.2))] at ih
                  exact ih
                · refine E_iload dX11_heard_103 rfl ?_
                  refine E_istore_n dX11_heard_105 (Nat.le_of_ble_eq_true rfl) ?_
                  refine E_iload dX11_heard_106 rfl ?_
                  refine E_callS (As := [_]) (kc' := 0) (ks' := 0) (kc := 0) (ks := 0) dX11_heard_108 ok_J6_bitCount_0f7a4 w_X11_233 st_J6_bitCount_0f7a4 rfl rfl rfl (Nat.le_of_ble_eq_true rfl) (Nat.le_of_ble_eq_true rfl) (Nat.le_refl _) (c_bitCount ?_)
                  refine E.top (bc_pop _ (by omega)) ?_
                  refine E_istore dX11_heard_111 (Nat.le_of_ble_eq_true rfl) ?_
                  refine E_incN dX11_heard_113 rfl ?_
                  refine E_goto (tgt := 75) dX11_heard_116 (by decide) ?_
                  rw [show hcS (covS σ s) (x + 1) = (x, pop x 12) from if_pos ⟨c90, (ce x).mp c100⟩] at ih
                  exact ih
          refine E_bp (nI 12) dX11_heard_68 (by decide) ?_
          refine E_istore dX11_heard_70 (Nat.le_of_ble_eq_true rfl) ?_
          refine E_ic (nI 0) dX11_heard_72 (by decide) ?_
          refine E_istore dX11_heard_73 (Nat.le_of_ble_eq_true rfl) ?_
          exact L 0 (by omega)
        · rw [if_neg (fun z => c62 ((ce 4095).mpr z))] at hq
          refine E_bp (-2) dX11_heard_65 (by decide) ?_
          exact E_iret dX11_heard_67 rfl (hq)
      · have hX := hX.put 52 k (fun k => nI (AS σ k &&& s)) (by omega)
        have al := AS_lt hB hk
        refine E_iload_n dX11_heard_23 rfl ?_
        refine E_bp (nI 12) dX11_heard_24 (by decide) ?_
        refine E_cN_ge (a := k) (b := 12) (tgt := 52) dX11_heard_26 (by omega) (by decide) (by decide) (fun c26 => absurd c26 (by omega)) (fun c26 => ?_)
        refine E_aload_n dX11_heard_29 rfl ?_
        refine E_getR dX11_heard_30 f_X11_79 rfl (Nat.lt_of_lt_of_le (by decide) hN) rfl (hR _ _ _ rfl) ?_
        refine E_iload_n dX11_heard_33 rfl ?_
        refine E_aload_n dX11_heard_34 rfl ?_
        refine E_getR dX11_heard_35 f_X11_11 rfl (Nat.lt_of_lt_of_le (by decide) hN) rfl (hR _ _ _ rfl) ?_
        refine E_iload_n dX11_heard_38 rfl ?_
        refine E_aaldN dX11_heard_39 rfl (Nat.lt_of_lt_of_le (by decide) hN) (by first | assumption | omega) (hR _ _ _ (RT1 k (by first | assumption | omega))) ?_
        refine E_callV (As := []) (ci := 9) (kc' := 0) (ks' := 0) (kc := 0) (ks := 0) dX11_heard_40 ok_X10_sinsLeft w_X11_202 i_X10_sinsLeft s_X10_sinsLeft rfl (by decide) (LYw k (by first | assumption | omega)).1 (by first | assumption | omega) rfl rfl rfl (Nat.le_of_ble_eq_true rfl) (Nat.le_of_ble_eq_true rfl) (Nat.le_refl _) (x_sinsLeft (d := 898) hB hX hk ?_)
        refine E.top (AS_e hB hk) ?_
        refine E_iload_n dX11_heard_43 rfl ?_
        refine E_iand dX11_heard_44 ?_
        refine E.top (nI_and (by omega) (by omega)) ?_
        refine E_iastN dX11_heard_45 rfl (Nat.lt_of_lt_of_le (by decide) hN) (by first | assumption | omega) ?_
        refine E.mem (put_g I (fun k => nI (AS σ k &&& s)) rfl) ?_
        refine E_incN dX11_heard_46 rfl ?_
        refine E_goto (tgt := 23) dX11_heard_49 (by decide) ?_
        exact ih
    refine E_iload_n dX11_heard_0 rfl ?_
    refine E_zN_lt (a := s) (tgt := 19) dX11_heard_1 (by omega) (by decide) (fun c1 => c1.elim) (fun c1 => ?_)
    refine E_iload_n dX11_heard_4 rfl ?_
    refine E_ldc (nI 65536) dX11_heard_5 k_X11_229 ?_
    refine E_cN_ge (a := s) (b := 65536) (tgt := 19) dX11_heard_7 (by omega) (by decide) (by decide) (fun c7 => absurd c7 (by omega)) (fun c7 => ?_)
    refine E_iload_n dX11_heard_10 rfl ?_
    refine E_zN_lt (a := v) (tgt := 19) dX11_heard_11 (by omega) (by decide) (fun c11 => c11.elim) (fun c11 => ?_)
    refine E_iload_n dX11_heard_14 rfl ?_
    refine E_ic (nI 1) dX11_heard_15 (by decide) ?_
    refine E_cN_le (a := v) (b := 1) (tgt := 21) dX11_heard_16 (by omega) (by decide) (by decide) (fun c16 => ?_) (fun c16 => absurd c16 (by omega))
    refine E_ic (nI 0) dX11_heard_21 (by decide) ?_
    refine E_istore_n dX11_heard_22 (Nat.le_of_ble_eq_true rfl) ?_
    refine E.memE (L0 0 (by omega)) (put_0 I 52 _).symm
  · rw [gd_f hg] at hQ
    have hq := hQ I J hX (fun _ _ _ => rfl) (fun _ _ _ => rfl)
    have ix : rg x 65535 → ¬ x < 0 ∧ ¬ nI 65536 ≤ x := fun z => by obtain ⟨j, hj, rfl⟩ := z; exact ⟨nI_pos (by omega), nI_ge (by omega) (by decide)⟩
    have xi : ∀ {m : Nat}, m + 1 < 2 ^ 31 → ∀ {y : Int32}, ¬ y < 0 → ¬ nI (m + 1) ≤ y → rg y m := fun {m} hm {y} h0 h1 => by
      obtain ⟨j, hj, rfl⟩ := nI_of h0
      exact ⟨j, Nat.le_of_lt_succ ((nI_ltI hj hm).mp (Int32.not_le.mp h1)), rfl⟩
    refine E_iload_n dX11_heard_0 rfl ?_
    refine E_if_lt (tgt := 19) dX11_heard_1 (by decide) (fun c1 => ?_) (fun c1 => ?_)
    · refine E_ic (-1) dX11_heard_19 (by decide) ?_
      exact E_iret dX11_heard_20 rfl (hq)
    · refine E_iload_n dX11_heard_4 rfl ?_
      refine E_ldc (nI 65536) dX11_heard_5 k_X11_229 ?_
      refine E_icmp_ge (tgt := 19) dX11_heard_7 (by decide) (fun c7 => ?_) (fun c7 => ?_)
      · refine E_ic (-1) dX11_heard_19 (by decide) ?_
        exact E_iret dX11_heard_20 rfl (hq)
      · refine E_iload_n dX11_heard_10 rfl ?_
        refine E_if_lt (tgt := 19) dX11_heard_11 (by decide) (fun c11 => ?_) (fun c11 => ?_)
        · refine E_ic (-1) dX11_heard_19 (by decide) ?_
          exact E_iret dX11_heard_20 rfl (hq)
        · refine E_iload_n dX11_heard_14 rfl ?_
          refine E_ic (nI 1) dX11_heard_15 (by decide) ?_
          refine E_icmp_le (tgt := 21) dX11_heard_16 (by decide) (fun c16 => by first | exact absurd c16 (fun z => hg ⟨xi (by decide) c1 c7, xi (by decide) c11 (Int32.not_le.mpr (Int32.lt_of_le_of_lt z (by decide)))⟩) | exact absurd (fun z => hg ⟨xi (by decide) c1 c7, xi (by decide) c11 (Int32.not_le.mpr (Int32.lt_of_le_of_lt z (by decide)))⟩) c16) (fun c16 => ?_)
          refine E_ic (-1) dX11_heard_19 (by decide) ?_
          exact E_iret dX11_heard_20 rfl (hq)
set_option maxRecDepth 100000 in
set_option maxHeartbeats 2000000 in
theorem m_bits {x : Nat} (hx : x < 4096) (hQ : Q (some (.int (nI (pop x 12)))) n I J R) : E g mX12_bits d 0 0 0 (ent 3 [.int (nI x)]) [] n I J R Q := by
  have L : ∀ i, i ≤ 12 → E g mX12_bits d 0 0 4 [.int (nI x), .int (nI (pop x i)), .int (nI i)] [] n I J R Q := by
    refine loopU 12 ?_ (fun i hi ih => ?_)
    · refine E_iload_n dX12_bits_4 rfl ?_
      refine E_bp (nI 12) dX12_bits_5 (by decide) ?_
      refine E_cN_ge (a := 12) (b := 12) (tgt := 24) dX12_bits_7 (by decide) (by decide) (by decide) (fun c7 => ?_) (fun c7 => absurd c7 (by omega))
      refine E_iload_n dX12_bits_24 rfl ?_
      exact E_iret dX12_bits_25 rfl (hQ)
    · refine E_iload_n dX12_bits_4 rfl ?_
      refine E_bp (nI 12) dX12_bits_5 (by decide) ?_
      refine E_cN_ge (a := i) (b := 12) (tgt := 24) dX12_bits_7 (by omega) (by decide) (by decide) (fun c7 => absurd c7 (by omega)) (fun c7 => ?_)
      refine E_iload_n dX12_bits_10 rfl ?_
      refine E_iload_n dX12_bits_11 rfl ?_
      refine E_iload_n dX12_bits_12 rfl ?_
      refine E_ishr dX12_bits_13 ?_
      refine E_ic (nI 1) dX12_bits_14 (by decide) ?_
      refine E_iand dX12_bits_15 ?_
      refine E.top (bitT (by omega) (by omega)) ?_
      refine E_iadd dX12_bits_16 ?_
      refine E.top (nI_add (pop x i) (x / 2 ^ i % 2)) ?_
      refine E_istore_n dX12_bits_17 (Nat.le_of_ble_eq_true rfl) ?_
      refine E_incN dX12_bits_18 rfl ?_
      refine E_goto (tgt := 4) dX12_bits_21 (by decide) ?_
      exact ih
  refine E_ic (nI 0) dX12_bits_0 (by decide) ?_
  refine E_istore_n dX12_bits_1 (Nat.le_of_ble_eq_true rfl) ?_
  refine E_ic (nI 0) dX12_bits_2 (by decide) ?_
  refine E_istore_n dX12_bits_3 (Nat.le_of_ble_eq_true rfl) ?_
  exact L 0 (by omega)
/-- all told so far, and what they have -/
def tlS (σ : ST) (x : Nat) : Nat → Nat × Nat
  | 0 => (1, 0)
  | k + 1 => if x / 2 ^ k % 2 = 1 then (if 0 < (tlS σ x k).1 ∧ 0 < σ 0 k 0 then (1, (tlS σ x k).2 ||| AS σ k) else (0, (tlS σ x k).2)) else tlS σ x k
theorem tlS_ok {σ : ST} (hB : BND σ) (x : Nat) : ∀ K, K ≤ 12 → (tlS σ x K).1 ≤ 1 ∧ (tlS σ x K).2 < 65536 ∧ (0 < (tlS σ x K).1 ↔ ∀ k, k < K → x / 2 ^ k % 2 = 1 → 0 < σ 0 k 0) ∧ (0 < (tlS σ x K).1 → (tlS σ x K).2 = orS (AS σ) x K)
  | 0, _ => ⟨Nat.le_refl 1, by show 0 < 65536; decide, ⟨fun _ k hk => absurd hk (by omega), fun _ => by show 0 < 1; decide⟩, fun _ => rfl⟩
  | K + 1, h => by
    obtain ⟨h1, h2, h3, h4⟩ := tlS_ok hB x K (by omega)
    have hor : (tlS σ x K).2 ||| AS σ K < 65536 := Nat.or_lt_two_pow (n := 16) h2 (AS_lt hB (by omega))
    unfold tlS
    by_cases b : x / 2 ^ K % 2 = 1
    · rw [if_pos b]
      by_cases c : 0 < (tlS σ x K).1 ∧ 0 < σ 0 K 0
      · rw [if_pos c]
        refine ⟨Nat.le_refl 1, hor, ⟨fun _ k hk hb => ?_, fun _ => by show 0 < 1; decide⟩, fun _ => ?_⟩
        · rcases Nat.lt_succ_iff_lt_or_eq.mp hk with z | z
          · exact h3.mp c.1 k z hb
          · subst z
            exact c.2
        · rw [orS_t b, ← h4 c.1]
      · rw [if_neg c]
        refine ⟨Nat.zero_le 1, h2, ⟨fun z => absurd z (by show ¬ 0 < 0; decide), fun z => ?_⟩, fun z => absurd z (by show ¬ 0 < 0; decide)⟩
        exact absurd ⟨h3.mpr (fun k hk hb => z k (by omega) hb), z K (by omega) b⟩ c
    · rw [if_neg b, orS_f b]
      refine ⟨h1, h2, ⟨fun z k hk hb => ?_, fun z => h3.mpr (fun k hk hb => z k (by omega) hb)⟩, h4⟩
      rcases Nat.lt_succ_iff_lt_or_eq.mp hk with q | q
      · exact h3.mp z k q hb
      · subst q
        exact absurd hb b
theorem tlS_0 {σ : ST} {x k : Nat} (b : ¬ x / 2 ^ k % 2 = 1) : tlS σ x (k + 1) = tlS σ x k := if_neg b
theorem tlS_t {σ : ST} {x k : Nat} (b : x / 2 ^ k % 2 = 1) (h1 : 0 < (tlS σ x k).1) (h2 : 0 < σ 0 k 0) : tlS σ x (k + 1) = (1, (tlS σ x k).2 ||| AS σ k) := (if_pos b).trans (if_pos ⟨h1, h2⟩)
theorem tlS_f {σ : ST} {x k : Nat} (b : x / 2 ^ k % 2 = 1) (h : ¬ (0 < (tlS σ x k).1 ∧ 0 < σ 0 k 0)) : tlS σ x (k + 1) = (0, (tlS σ x k).2) := (if_pos b).trans (if_neg h)
/-- s lies within h -/
theorem cov_i {s h : Nat} (hs : s < 65536) (hh : h < 65536) : (nI s &&& (nI h ^^^ (-1)) = 0 ↔ s &&& h = s) := by
  have e1 : (nI s &&& (nI h ^^^ (-1))).toBitVec = BitVec.ofNat 32 s &&& ~~~ BitVec.ofNat 32 h := by
    rw [Int32.toBitVec_and, Int32.toBitVec_xor]
    show BitVec.ofNat 32 s &&& (BitVec.ofNat 32 h ^^^ BitVec.allOnes 32) = _
    rw [BitVec.xor_allOnes]
  constructor
  · intro z
    have z2 : BitVec.ofNat 32 s &&& ~~~ BitVec.ofNat 32 h = 0#32 := by rw [← e1, z]; rfl
    apply Nat.eq_of_testBit_eq
    intro i
    rw [Nat.testBit_and]
    cases hsi : s.testBit i with
    | false => rw [Bool.false_and]
    | true =>
      have hi : i < 16 := Nat.lt_of_not_le (fun q => by rw [Nat.testBit_lt_two_pow (Nat.lt_of_lt_of_le hs (show 65536 ≤ 2 ^ i from Nat.pow_le_pow_right (show 0 < 2 by decide) q))] at hsi; cases hsi)
      have := congrArg (fun v => v.getLsbD i) z2
      simp only [BitVec.getLsbD_and, BitVec.getLsbD_not, BitVec.getLsbD_ofNat, BitVec.getLsbD_zero, Nat.zero_testBit, hsi, show i < 32 by omega, decide_true, Bool.true_and, Bool.and_true] at this
      rw [Bool.true_and]
      exact Bool.not_eq_false' .. |>.mp this
  · intro z
    apply Int32.toBitVec_inj.mp
    rw [e1]
    show _ = 0#32
    apply BitVec.eq_of_getLsbD_eq
    intro i hi
    have := congrArg (fun v => v.testBit i) z
    simp only [Nat.testBit_and] at this
    simp only [BitVec.getLsbD_and, BitVec.getLsbD_not, BitVec.getLsbD_ofNat, BitVec.getLsbD_zero, Nat.zero_testBit, hi, decide_true, Bool.true_and]
    cases hsi : s.testBit i with
    | false => rw [Bool.false_and]
    | true =>
      rw [hsi, Bool.true_and] at this
      rw [this]
      rfl
def obI : Option Nat → Int32
  | none => -2
  | some b => nI b
abbrev hP (σ : ST) (s : Nat) : Nat → Prop := fun x => toldS σ x ∧ covS σ s x
set_option maxRecDepth 100000 in
set_option maxHeartbeats 2000000 in
theorem sm_heard (x w : Int32) : SM mX12_heard [.int x, .int w] (r_heard x w) id := by
  intro g n I J R σ Q hB hM hN hR hQ
  have hq := hQ I J hM (fun _ _ => rfl) rfl (fun _ _ _ => rfl)
  unfold r_heard at hq
  refine E_iload_n dX12_heard_0 rfl ?_
  refine E_ic (nI 0) dX12_heard_1 (by decide) ?_
  refine E_ldcw (nI 65535) dX12_heard_2 k_X12_375 ?_
  refine E_callS (As := [_, _, _]) (kc' := 0) (ks' := 0) (kc := 0) (ks := 0) dX12_heard_5 ok_X12_in w_X12_124 st_X12_in rfl rfl rfl (Nat.le_of_ble_eq_true rfl) (Nat.le_of_ble_eq_true rfl) (Nat.le_refl _) (M_in (by decide) (by decide) (fun s _ h2 e => ?_) (fun z => ?_))
  · subst e
    refine E_zN_eq (a := 1) (tgt := 20) dX12_heard_8 (by decide) (by decide) (fun c8 => absurd c8 (by omega)) (fun c8 => ?_)
    refine E_iload_n dX12_heard_11 rfl ?_
    refine E_ic (nI 0) dX12_heard_12 (by decide) ?_
    refine E_ic (nI 1) dX12_heard_13 (by decide) ?_
    refine E_callS (As := [_, _, _]) (kc' := 0) (ks' := 0) (kc := 0) (ks := 0) dX12_heard_14 ok_X12_in w_X12_124 st_X12_in rfl rfl rfl (Nat.le_of_ble_eq_true rfl) (Nat.le_of_ble_eq_true rfl) (Nat.le_refl _) (M_in (by decide) (by decide) (fun v _ h4 e => ?_) (fun z => ?_))
    · subst e
      rw [gd_t ⟨rg_of h2, rg_of h4⟩, nI_clamp (by omega)] at hq
      have Lend : E g mX12_heard 900 0 0 149 [.ref 114, .int (nI s), .int (nI v), .int (obI (hmS (hP σ s) 4096)), .int (nI 4096), jk, jk, jk] [] n I J R Q := by
        by_cases hcv : covS σ s 4095
        · obtain ⟨q1, q2, -, -⟩ := hcS_ok (covS σ s) 4096 (by omega)
          rw [if_pos hcv] at hq
          rw [heard_eq hcv]
          generalize hcS (covS σ s) 4096 = r at q1 q2 hq
          obtain ⟨b, f⟩ := r
          simp only at q1 q2 hq
          refine E.locD ?_
          refine E_iload_n dX12_heard_149 rfl ?_
          refine E_ic (nI 1) dX12_heard_150 (by decide) ?_
          refine E_cN_eq (a := v) (b := 1) (tgt := 160) dX12_heard_151 (by omega) (by decide) (by decide) (fun c151 => ?_) (fun c151 => ?_)
          · refine E_iload_n dX12_heard_160 rfl ?_
            refine E_goto (tgt := 168) dX12_heard_161 (by decide) ?_
            exact E_iret dX12_heard_168 rfl (by first | (rw [if_neg (fun q => by have := (nI_eq (by omega) (by decide)).mp q; omega)] at hq; exact hq) | (rw [if_pos (by rw [show v = 0 by omega]), q1] at hq; exact hq))
          · refine E_iload_n dX12_heard_154 rfl ?_
            refine E_bp (-2) dX12_heard_155 (by decide) ?_
            refine E_icmp_ne (tgt := 164) dX12_heard_157 (by decide) (fun c157 => ?_) (fun c157 => by first | exact absurd c157 (nI_ne2 (by omega)) | exact absurd (nI_ne2 (by omega)) c157)
            refine E_iload_n dX12_heard_164 rfl ?_
            refine E_callS (As := [_]) (kc' := 0) (ks' := 0) (kc := 0) (ks := 0) dX12_heard_165 ok_X12_bits w_X12_379 st_X12_bits rfl rfl rfl (Nat.le_of_ble_eq_true rfl) (Nat.le_of_ble_eq_true rfl) (Nat.le_refl _) (m_bits (by omega) ?_)
            exact E_iret dX12_heard_168 rfl (by first | (rw [if_neg (fun q => by have := (nI_eq (by omega) (by decide)).mp q; omega)] at hq; exact hq) | (rw [if_pos (by rw [show v = 0 by omega]), q1] at hq; exact hq))
        · rw [if_neg hcv] at hq
          rw [heard_no hcv]
          refine E.locD ?_
          refine E_iload_n dX12_heard_149 rfl ?_
          refine E_ic (nI 1) dX12_heard_150 (by decide) ?_
          refine E_cN_eq (a := v) (b := 1) (tgt := 160) dX12_heard_151 (by omega) (by decide) (by decide) (fun c151 => ?_) (fun c151 => ?_)
          · refine E_iload_n dX12_heard_160 rfl ?_
            refine E_goto (tgt := 168) dX12_heard_161 (by decide) ?_
            exact E_iret dX12_heard_168 rfl (hq)
          · refine E_iload_n dX12_heard_154 rfl ?_
            refine E_bp (-2) dX12_heard_155 (by decide) ?_
            refine E_icmp_ne (tgt := 164) dX12_heard_157 (by decide) (fun c157 => by first | exact absurd c157 (by decide) | exact absurd (by decide) c157) (fun c157 => ?_)
            refine E_iload_n dX12_heard_160 rfl ?_
            refine E_goto (tgt := 168) dX12_heard_161 (by decide) ?_
            exact E_iret dX12_heard_168 rfl (hq)
      have L : ∀ x, x ≤ 4096 → E g mX12_heard 900 0 0 28 [.ref 114, .int (nI s), .int (nI v), .int (obI (hmS (hP σ s) x)), .int (nI x), jk, jk, jk] [] n I J R Q := by
        refine loopU 4096 ?_ (fun x hx ih => ?_)
        · refine E_iload dX12_heard_28 rfl ?_
          refine E_sp (nI 4096) dX12_heard_30 (by decide) ?_
          refine E_cN_ge (a := 4096) (b := 4096) (tgt := 149) dX12_heard_33 (by decide) (by decide) (by decide) (fun c33 => ?_) (fun c33 => absurd c33 (by omega))
          exact Lend
        · have L2 : ∀ k, k ≤ 12 → E g mX12_heard 900 0 0 45 [.ref 114, .int (nI s), .int (nI v), .int (obI (hmS (hP σ s) x)), .int (nI x), .int (nI ((tlS σ x k).2)), .int (nI ((tlS σ x k).1)), .int (nI k)] [] n I J R Q := by
            refine loopU 12 ?_ (fun k hk ihk => ?_)
            · obtain ⟨t1, t2, t3, t4⟩ := tlS_ok hB x 12 (by omega)
              have pl := pop_le x 12
              refine E_iload dX12_heard_45 rfl ?_
              refine E_bp (nI 12) dX12_heard_47 (by decide) ?_
              refine E_cN_ge (a := 12) (b := 12) (tgt := 108) dX12_heard_49 (by decide) (by decide) (by decide) (fun c49 => ?_) (fun c49 => absurd c49 (by omega))
              refine E_iload dX12_heard_108 rfl ?_
              refine E_zN_eq (a := (tlS σ x 12).1) (tgt := 143) dX12_heard_110 (by omega) (by decide) (fun c110 => ?_) (fun c110 => ?_)
              · have hno : ¬ hP σ s x := fun z => by first | (have := t3.mpr z.1; omega) | (have h1 := t3.mpr z.1; exact c119 ((cov_i (by omega) t2).mpr (by rw [t4 h1]; exact z.2)))
                refine E.locD ?_
                refine E_incN dX12_heard_143 rfl ?_
                refine E_goto (tgt := 28) dX12_heard_146 (by decide) ?_
                refine E.mask [true, true, true, true, true, false, false, false] ?_
                rw [show hmS (hP σ s) (x + 1) = hmS (hP σ s) x from if_neg (fun z => hno z.1)] at ih
                exact ih
              · refine E_iload_n dX12_heard_113 rfl ?_
                refine E_iload dX12_heard_114 rfl ?_
                refine E_ic (-1) dX12_heard_116 (by decide) ?_
                refine E_ixor dX12_heard_117 ?_
                refine E_iand dX12_heard_118 ?_
                refine E_if_ne (tgt := 143) dX12_heard_119 (by decide) (fun c119 => ?_) (fun c119 => ?_)
                · have hno : ¬ hP σ s x := fun z => by first | (have := t3.mpr z.1; omega) | (have h1 := t3.mpr z.1; exact c119 ((cov_i (by omega) t2).mpr (by rw [t4 h1]; exact z.2)))
                  refine E.locD ?_
                  refine E_incN dX12_heard_143 rfl ?_
                  refine E_goto (tgt := 28) dX12_heard_146 (by decide) ?_
                  refine E.mask [true, true, true, true, true, false, false, false] ?_
                  rw [show hmS (hP σ s) (x + 1) = hmS (hP σ s) x from if_neg (fun z => hno z.1)] at ih
                  exact ih
                · have hT : toldS σ x := t3.mp c110
                  have hC : covS σ s x := by
                    have := (cov_i (by omega) t2).mp c119
                    rw [t4 c110] at this
                    exact this
                  cases hbst : hmS (hP σ s) x with
                  | none =>
                    refine E.locD ?_
                    refine E_iload_n dX12_heard_122 rfl ?_
                    refine E_bp (-2) dX12_heard_123 (by decide) ?_
                    refine E_icmp_eq (tgt := 140) dX12_heard_125 (by decide) (fun c125 => ?_) (fun c125 => by first | exact absurd c125 (rfl) | exact absurd (rfl) c125)
                    refine E_iload dX12_heard_140 rfl ?_
                    refine E_istore_n dX12_heard_142 (Nat.le_of_ble_eq_true rfl) ?_
                    refine E_incN dX12_heard_143 rfl ?_
                    refine E_goto (tgt := 28) dX12_heard_146 (by decide) ?_
                    refine E.mask [true, true, true, true, true, false, false, false] ?_
                    rw [show hmS (hP σ s) (x + 1) = some x from if_pos ⟨⟨hT, hC⟩, fun b e => by rw [hbst] at e; cases e⟩] at ih
                    exact ih
                  | some b =>
                    have hb := (hmS_ok (hP σ s) x).1 b hbst
                    have pl2 := pop_le b 12
                    refine E.locD ?_
                    refine E_iload_n dX12_heard_122 rfl ?_
                    refine E_bp (-2) dX12_heard_123 (by decide) ?_
                    refine E_icmp_eq (tgt := 140) dX12_heard_125 (by decide) (fun c125 => by first | exact absurd c125 (nI_ne2 (by omega)) | exact absurd (nI_ne2 (by omega)) c125) (fun c125 => ?_)
                    refine E_iload dX12_heard_128 rfl ?_
                    refine E_callS (As := [_]) (kc' := 0) (ks' := 0) (kc := 0) (ks := 0) dX12_heard_130 ok_X12_bits w_X12_379 st_X12_bits rfl rfl rfl (Nat.le_of_ble_eq_true rfl) (Nat.le_of_ble_eq_true rfl) (Nat.le_refl _) (m_bits (by omega) ?_)
                    refine E_iload_n dX12_heard_133 rfl ?_
                    refine E_callS (As := [_]) (kc' := 0) (ks' := 0) (kc := 0) (ks := 0) dX12_heard_134 ok_X12_bits w_X12_379 st_X12_bits rfl rfl rfl (Nat.le_of_ble_eq_true rfl) (Nat.le_of_ble_eq_true rfl) (Nat.le_refl _) (m_bits (by omega) ?_)
                    refine E_cN_ge (a := pop x 12) (b := pop b 12) (tgt := 143) dX12_heard_137 (by omega) (by omega) (by decide) (fun c137 => ?_) (fun c137 => ?_)
                    · refine E_incN dX12_heard_143 rfl ?_
                      refine E_goto (tgt := 28) dX12_heard_146 (by decide) ?_
                      refine E.mask [true, true, true, true, true, false, false, false] ?_
                      rw [show hmS (hP σ s) (x + 1) = hmS (hP σ s) x from if_neg (fun z => by have := z.2 b hbst; omega), hbst] at ih
                      exact ih
                    · refine E_iload dX12_heard_140 rfl ?_
                      refine E_istore_n dX12_heard_142 (Nat.le_of_ble_eq_true rfl) ?_
                      refine E_incN dX12_heard_143 rfl ?_
                      refine E_goto (tgt := 28) dX12_heard_146 (by decide) ?_
                      refine E.mask [true, true, true, true, true, false, false, false] ?_
                      rw [show hmS (hP σ s) (x + 1) = some x from if_pos ⟨⟨hT, hC⟩, fun b2 e => by rw [hbst] at e; cases e; exact c137⟩] at ih
                      exact ih
            · obtain ⟨t1, t2, -, -⟩ := tlS_ok hB x k (by omega)
              have al := AS_lt hB hk
              refine E_iload dX12_heard_45 rfl ?_
              refine E_bp (nI 12) dX12_heard_47 (by decide) ?_
              refine E_cN_ge (a := k) (b := 12) (tgt := 108) dX12_heard_49 (by omega) (by decide) (by decide) (fun c49 => absurd c49 (by omega)) (fun c49 => ?_)
              refine E_iload dX12_heard_52 rfl ?_
              refine E_iload dX12_heard_54 rfl ?_
              refine E_callS (As := [_, _]) (kc' := 0) (ks' := 0) (kc := 0) (ks := 0) dX12_heard_56 ok_X12_has w_X12_376 st_X12_has rfl rfl rfl (Nat.le_of_ble_eq_true rfl) (Nat.le_of_ble_eq_true rfl) (Nat.le_refl _) (m_has (fun hh => ?_) (fun hh => ?_))
              · have hb : x / 2 ^ k % 2 = 1 := by rw [bitT (by omega) (by omega)] at hh; exact (nI_eq (by omega) (by decide)).mp hh
                refine E_zN_ne (a := 1) (tgt := 65) dX12_heard_59 (by decide) (by decide) (fun c59 => ?_) (fun c59 => absurd c59 (by omega))
                refine E_iload dX12_heard_65 rfl ?_
                refine E_zN_eq (a := (tlS σ x k).1) (tgt := 83) dX12_heard_67 (by omega) (by decide) (fun c67 => ?_) (fun c67 => ?_)
                · refine E_ic (nI 0) dX12_heard_83 (by decide) ?_
                  refine E_istore dX12_heard_84 (Nat.le_of_ble_eq_true rfl) ?_
                  refine E_iload dX12_heard_86 rfl ?_
                  refine E_zN_eq (a := 0) (tgt := 102) dX12_heard_88 (by decide) (by decide) (fun c88 => ?_) (fun c88 => absurd c88 (by omega))
                  refine E_incN dX12_heard_102 rfl ?_
                  refine E_goto (tgt := 45) dX12_heard_105 (by decide) ?_
                  rw [tlS_f hb (fun z => by first | (have := z.1; omega) | exact hz z.2)] at ihk
                  exact ihk
                · refine E_aload_n dX12_heard_70 rfl ?_
                  refine E_iload dX12_heard_71 rfl ?_
                  refine E_callV (As := [_]) (ci := 11) (kc' := 0) (ks' := 0) (kc := 0) (ks := 0) dX12_heard_73 ok_X12_isTold w_X12_340 i_X12_isTold s_X12_isTold rfl (by decide) rfl (Nat.lt_of_lt_of_le (by decide) hN) rfl rfl rfl (Nat.le_of_ble_eq_true rfl) (Nat.le_of_ble_eq_true rfl) (Nat.le_refl _) (M_isTold (d := 898) hB hM hN hR (fun j hj e p2 => ?_) (fun z => ?_))
                  · have e := (nI_eq (by omega) (by omega)).mp e
                    subst e
                    refine E_zN_eq (a := 1) (tgt := 83) dX12_heard_76 (by decide) (by decide) (fun c76 => absurd c76 (by omega)) (fun c76 => ?_)
                    refine E_ic (nI 1) dX12_heard_79 (by decide) ?_
                    refine E_goto (tgt := 84) dX12_heard_80 (by decide) ?_
                    refine E_istore dX12_heard_84 (Nat.le_of_ble_eq_true rfl) ?_
                    refine E_iload dX12_heard_86 rfl ?_
                    refine E_zN_eq (a := 1) (tgt := 102) dX12_heard_88 (by decide) (by decide) (fun c88 => absurd c88 (by omega)) (fun c88 => ?_)
                    refine E_iload dX12_heard_91 rfl ?_
                    refine E_aload_n dX12_heard_93 rfl ?_
                    refine E_iload dX12_heard_94 rfl ?_
                    refine E_callV (As := [_]) (ci := 11) (kc' := 0) (ks' := 0) (kc := 0) (ks := 0) dX12_heard_96 ok_X12_sinsLeft w_X12_354 i_X12_sinsLeft s_X12_sinsLeft rfl (by decide) rfl (Nat.lt_of_lt_of_le (by decide) hN) rfl rfl rfl (Nat.le_of_ble_eq_true rfl) (Nat.le_of_ble_eq_true rfl) (Nat.le_refl _) (m_sinsLeft (d := 898) hB hM hN hR hk ?_)
                    refine E.top (AS_e hB hk) ?_
                    refine E_ior dX12_heard_99 ?_
                    refine E.top (nI_or (by omega) (by omega)) ?_
                    refine E_istore dX12_heard_100 (Nat.le_of_ble_eq_true rfl) ?_
                    refine E_incN dX12_heard_102 rfl ?_
                    refine E_goto (tgt := 45) dX12_heard_105 (by decide) ?_
                    rw [tlS_t hb c67 p2] at ihk
                    exact ihk
                  · have hz : ¬ 0 < σ 0 k 0 := fun y => z (tk_of hk y)
                    refine E_zN_eq (a := 0) (tgt := 83) dX12_heard_76 (by decide) (by decide) (fun c76 => ?_) (fun c76 => absurd c76 (by omega))
                    refine E_ic (nI 0) dX12_heard_83 (by decide) ?_
                    refine E_istore dX12_heard_84 (Nat.le_of_ble_eq_true rfl) ?_
                    refine E_iload dX12_heard_86 rfl ?_
                    refine E_zN_eq (a := 0) (tgt := 102) dX12_heard_88 (by decide) (by decide) (fun c88 => ?_) (fun c88 => absurd c88 (by omega))
                    refine E_incN dX12_heard_102 rfl ?_
                    refine E_goto (tgt := 45) dX12_heard_105 (by decide) ?_
                    rw [tlS_f hb (fun z => by first | (have := z.1; omega) | exact hz z.2)] at ihk
                    exact ihk
              · have hb : ¬ x / 2 ^ k % 2 = 1 := fun z => hh (by rw [bitT (by omega) (by omega), z])
                refine E_zN_ne (a := 0) (tgt := 65) dX12_heard_59 (by decide) (by decide) (fun c59 => absurd c59 (by omega)) (fun c59 => ?_)
                refine E_goto (tgt := 102) dX12_heard_62 (by decide) ?_
                refine E_incN dX12_heard_102 rfl ?_
                refine E_goto (tgt := 45) dX12_heard_105 (by decide) ?_
                rw [tlS_0 hb] at ihk
                exact ihk
          refine E_iload dX12_heard_28 rfl ?_
          refine E_sp (nI 4096) dX12_heard_30 (by decide) ?_
          refine E_cN_ge (a := x) (b := 4096) (tgt := 149) dX12_heard_33 (by omega) (by decide) (by decide) (fun c33 => absurd c33 (by omega)) (fun c33 => ?_)
          refine E_ic (nI 0) dX12_heard_36 (by decide) ?_
          refine E_istore dX12_heard_37 (Nat.le_of_ble_eq_true rfl) ?_
          refine E_ic (nI 1) dX12_heard_39 (by decide) ?_
          refine E_istore dX12_heard_40 (Nat.le_of_ble_eq_true rfl) ?_
          refine E_ic (nI 0) dX12_heard_42 (by decide) ?_
          refine E_istore dX12_heard_43 (Nat.le_of_ble_eq_true rfl) ?_
          exact L2 0 (by omega)
      refine E_zN_ne (a := 1) (tgt := 22) dX12_heard_17 (by decide) (by decide) (fun c17 => ?_) (fun c17 => absurd c17 (by omega))
      refine E_bp (-2) dX12_heard_22 (by decide) ?_
      refine E_istore_n dX12_heard_24 (Nat.le_of_ble_eq_true rfl) ?_
      refine E_ic (nI 0) dX12_heard_25 (by decide) ?_
      refine E_istore dX12_heard_26 (Nat.le_of_ble_eq_true rfl) ?_
      exact L 0 (by omega)
    · rw [gd_f (fun y => by obtain ⟨j, hj, e⟩ := y.2; exact z j (Nat.zero_le _) hj e)] at hq
      refine E_zN_ne (a := 0) (tgt := 22) dX12_heard_17 (by decide) (by decide) (fun c17 => absurd c17 (by omega)) (fun c17 => ?_)
      refine E_ic (-1) dX12_heard_20 (by decide) ?_
      exact E_iret dX12_heard_21 rfl (hq)
  · rw [gd_f (fun y => by obtain ⟨j, hj, e⟩ := y.1; exact z j (Nat.zero_le _) hj e)] at hq
    refine E_zN_eq (a := 0) (tgt := 20) dX12_heard_8 (by decide) (by decide) (fun c8 => ?_) (fun c8 => absurd c8 (by omega))
    refine E_ic (-1) dX12_heard_20 (by decide) ?_
    exact E_iret dX12_heard_21 rfl (hq)
end PHeard
