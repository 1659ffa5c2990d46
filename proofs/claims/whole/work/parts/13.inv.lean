/-! ===== the state of the system in plain numbers, and how the class and the reference hold it ===== -/
/-- by tag: 0 LAYERS of k, 1 YEAR of k i, 2 SIN of k i, 3 how k stands (0 fizz, 1 cork, 2 turns, 3 out, 4 unstopped, 5 broken), 4 scalars (0 screw, 1 confessed, 2 the drawn number), 5 kept or not, 6 and 7: 3 and 4 as kept, 8 the tape's bytes, 9 how many -/
abbrev ST : Type := Nat → Nat → Nat → Nat
def ups (σ : ST) (t : Nat) (f : Nat → Nat → Nat) : ST := fun t' i j => if t' = t then f i j else σ t' i j
/-- the law: how many rules, their letters, the E and the C of each by what is known -/
abbrev LW : Type := Nat × (Nat → Nat) × (Nat → (Nat → Int32) → Int32) × (Nat → (Nat → Int32) → Bool)
/-- how one stands, within bounds -/
def okS (f : Nat → Nat) : Prop := f 0 ≤ 19 ∧ f 1 ≤ 9 ∧ f 2 ≤ 9 ∧ f 3 ≤ 24 ∧ f 4 ≤ 1 ∧ f 5 ≤ 1 ∧ (f 4 = 1 → f 2 = 0) ∧ (f 5 = 0 → 1 ≤ f 1)
def okC (f : Nat → Nat) : Prop := f 0 ≤ 99 ∧ f 1 ≤ 9999 ∧ f 2 ≤ 65535
def BND (σ : ST) : Prop :=
  (∀ k, k < 12 → σ 0 k 0 ≤ 24 ∧ (∀ i, i < σ 0 k 0 → σ 1 k i < 100 ∧ σ 2 k i < 16) ∧ okS (σ 3 k) ∧ σ 3 k 3 ≤ σ 0 k 0) ∧ okC (fun i => σ 4 i 0) ∧ σ 5 0 0 ≤ 1 ∧ (σ 5 0 0 = 1 → (∀ k, k < 12 → okS (σ 6 k)) ∧ okC (fun i => σ 7 i 0)) ∧ (∀ j, j < σ 9 0 0 → σ 8 j 0 < 256) ∧ σ 9 0 0 ≤ 260 ∧ ∀ k, k < 12 → σ 0 k 0 = 0 → σ 3 k 4 = 0 ∧ σ 3 k 5 = 0 ∧ (σ 5 0 0 = 1 → σ 6 k 4 = 0 ∧ σ 6 k 5 = 0)
/-! the class -/
def XW (σ : ST) (I : IM) : Prop := ∀ k, k < 12 → I (54 + 5 * k) 4 = nI (σ 0 k 0) ∧ I (54 + 5 * k) 5 = nI (min 1 (σ 0 k 0)) ∧ (∀ i, i < σ 0 k 0 → I (55 + 5 * k) i = nI (σ 1 k i) ∧ I (56 + 5 * k) i = nI (σ 2 k i)) ∧ (∀ f, f < 6 → I (57 + 5 * k) f = nI (σ 3 k f)) ∧ (σ 5 0 0 = 1 → ∀ f, f < 6 → I (58 + 5 * k) f = nI (σ 6 k f))
def XB (I : IM) : Prop := ∀ k, k < 12 → (I (58 + 5 * k) 4 = 0 ∨ I (58 + 5 * k) 4 = 1) ∧ (I (58 + 5 * k) 5 = 0 ∨ I (58 + 5 * k) 5 = 1)
def X0 (σ : ST) (f : Nat → Int32) : Prop := f 2 = nI (σ 9 0 0) ∧ f 13 = nI (σ 4 0 0) ∧ f 14 = nI (σ 4 1 0) ∧ f 15 = nI (σ 4 2 0) ∧ f 16 = nI (σ 5 0 0) ∧ (σ 5 0 0 = 1 → f 17 = nI (σ 7 0 0) ∧ f 18 = nI (σ 7 1 0) ∧ f 19 = nI (σ 7 2 0))
def XT (σ : ST) (f : Nat → Int32) : Prop := ∀ j, j < σ 9 0 0 → f j = nI (σ 8 j 0)
def XN (n : Nat) (R : RM) : Prop := RS R ∧ ((n = 152 ∧ R 37 1 = some 39) ∨ (n = 153 ∧ R 37 1 = some 152))
def XR (σ : ST) (n : Nat) (I : IM) (R : RM) : Prop := XW σ I ∧ X0 σ (I 0) ∧ XT σ (I 2) ∧ XN n R ∧ XB I
/-! the reference -/
def MW (σ : ST) (I : IM) : Prop := (∀ k, k < 12 → I 118 k = nI (σ 0 k 0) ∧ (∀ i, i < σ 0 k 0 → I 119 (24 * k + i) = nI (σ 1 k i) ∧ I 120 (24 * k + i) = nI (σ 2 k i)))
/-- a row of 75 numbers holds how all stand, and the scalars -/
def M75 (c s : Nat → Nat → Nat) (f : Nat → Int32) : Prop := (∀ k, k < 12 → f k = nI (c k 0) ∧ f (12 + k) = nI (c k 1) ∧ f (24 + k) = nI (c k 2) ∧ f (36 + k) = nI (c k 4) ∧ f (48 + k) = nI (c k 5) ∧ f (60 + k) = nI (c k 3)) ∧ f 72 = nI (s 0 0) ∧ f 73 = nI (s 1 0) ∧ f 74 = nI (s 2 0)
def M0 (σ : ST) (f : Nat → Int32) : Prop := f 7 = nI (σ 9 0 0) ∧ f 58 = nI (σ 5 0 0)
def MT (σ : ST) (f : Nat → Int32) : Prop := ∀ j, j < σ 9 0 0 → f j &&& 255 = nI (σ 8 j 0)
def MR (σ : ST) (I : IM) : Prop := MW σ I ∧ M75 (σ 3) (σ 4) (I 115) ∧ (σ 5 0 0 = 1 → M75 (σ 6) (σ 7) (I 117)) ∧ M0 σ (I 114) ∧ MT σ (I 121) ∧ (∀ j, I 140 j = 0)
theorem XW.congr {σ : ST} {I I' : IM} (h : XW σ I) (e : ∀ a, 54 ≤ a → a < 114 → I' a = I a) : XW σ I' := by
  intro k hk
  rw [e (54 + 5 * k) (by omega) (by omega), e (55 + 5 * k) (by omega) (by omega), e (56 + 5 * k) (by omega) (by omega), e (57 + 5 * k) (by omega) (by omega), e (58 + 5 * k) (by omega) (by omega)]
  exact h k hk
theorem XB.congr {I I' : IM} (h : XB I) (e : ∀ a, 54 ≤ a → a < 114 → I' a = I a) : XB I' := by
  intro k hk
  rw [e (58 + 5 * k) (by omega) (by omega)]
  exact h k hk
/-- the class's memory may change in what it holds for a moment -/
theorem XR.congr {σ : ST} {n : Nat} {I I' : IM} {R : RM} (h : XR σ n I R) (e : ∀ a, 54 ≤ a → a < 114 → I' a = I a) (e0 : I' 0 = I 0) (e2 : I' 2 = I 2) : XR σ n I' R := by
  obtain ⟨h1, h2, h3, h4, h5⟩ := h
  exact ⟨h1.congr e, e0 ▸ h2, e2 ▸ h3, h4, h5.congr e⟩
theorem MW.congr {σ : ST} {I I' : IM} (h : MW σ I) (e1 : I' 118 = I 118) (e2 : I' 119 = I 119) (e3 : I' 120 = I 120) : MW σ I' := by
  intro k hk
  rw [e1, e2, e3]
  exact h k hk
theorem MR.congr {σ : ST} {I I' : IM} (h : MR σ I) (e1 : I' 118 = I 118) (e2 : I' 119 = I 119) (e3 : I' 120 = I 120) (e4 : I' 115 = I 115) (e5 : I' 117 = I 117) (e6 : I' 114 = I 114) (e7 : I' 121 = I 121) (e8 : I' 140 = I 140) : MR σ I' := by
  obtain ⟨h1, h2, h3, h4, h5, h6⟩ := h
  exact ⟨h1.congr e1 e2 e3, e4 ▸ h2, fun z => e5 ▸ h3 z, e6 ▸ h4, e7 ▸ h5, fun j => by rw [e8]; exact h6 j⟩
/-- the class touches nothing of the reference -/
theorem MR.off {σ : ST} {I I' : IM} (h : MR σ I) (e : ∀ a, 114 ≤ a → a < 152 → I' a = I a) : MR σ I' :=
  h.congr (e _ (by decide) (by decide)) (e _ (by decide) (by decide)) (e _ (by decide) (by decide)) (e _ (by decide) (by decide)) (e _ (by decide) (by decide)) (e _ (by decide) (by decide)) (e _ (by decide) (by decide)) (e _ (by decide) (by decide))
/-- the reference touches nothing of the class -/
theorem XR.off {σ : ST} {n : Nat} {I I' : IM} {R : RM} (h : XR σ n I R) (e : ∀ a, a < 114 → I' a = I a) : XR σ n I' R :=
  h.congr (fun a _ h => e a h) (e 0 (by decide)) (e 2 (by decide))
theorem RT1 : ∀ j, j < 12 → RT 1 j = some (54 + 5 * j) := by decide +kernel
theorem RTw : ∀ j, j < 12 → RT (54 + 5 * j) 0 = some (55 + 5 * j) ∧ RT (54 + 5 * j) 1 = some (56 + 5 * j) ∧ RT (54 + 5 * j) 2 = some (57 + 5 * j) ∧ RT (54 + 5 * j) 3 = some (58 + 5 * j) := by decide +kernel
theorem LYw : ∀ j, j < 12 → (LY (54 + 5 * j)).1 = 9 ∧ LY (55 + 5 * j) = (20, 24) ∧ LY (56 + 5 * j) = (20, 24) ∧ (LY (57 + 5 * j)).1 = 7 ∧ (LY (58 + 5 * j)).1 = 7 := by decide +kernel
/-- a place among so many, or not -/
theorem i32_ix (x : Int32) (n : Nat) (hn : n < 2 ^ 31) : (x < 0 ∨ nI n ≤ x) ∨ ∃ j, j < n ∧ x = nI j := by
  rcases pk_ix x hn with h | h | h
  · exact Or.inl (Or.inl h)
  · exact Or.inl (Or.inr h)
  · exact Or.inr h
theorem i32_le (x : Int32) (n : Nat) (hn : n + 1 < 2 ^ 31) (h0 : ¬ x < 0) (h1 : x ≤ nI n) : ∃ j, j ≤ n ∧ x = nI j := by
  obtain ⟨j, hj, rfl⟩ := nI_of h0
  exact ⟨j, (nI_leI hj (by omega)).mp h1, rfl⟩
