/-! ===== the pure memory, and the judgement E over it: W with all its bookkeeping inside ===== -/
abbrev IM : Type := Nat → Nat → Int32
abbrev JM : Type := Nat → Nat → Int64
abbrev RM : Type := Nat → Nat → Option Nat
def up2 {α : Type} (f : Nat → Nat → α) (a k : Nat) (v : α) : Nat → Nat → α := fun x y => if x = a ∧ y = k then v else f x y
theorem up2_s {α : Type} (f : Nat → Nat → α) (a k : Nat) (v : α) : up2 f a k v a k = v := if_pos ⟨rfl, rfl⟩
theorem up2_a {α : Type} (f : Nat → Nat → α) {a k x y : Nat} (v : α) (h : x ≠ a) : up2 f a k v x y = f x y := if_neg fun q => h q.1
theorem up2_k {α : Type} (f : Nat → Nat → α) {a k x y : Nat} (v : α) (h : y ≠ k) : up2 f a k v x y = f x y := if_neg fun q => h q.2
/-- a method: its name, code, locals, answer -/
abbrev MD : Type := MethodName × ByteArray × Nat × Option FieldType
/-- base, the heap at the law's entry, classes and slots, array classes by kind, the script (cell, length, ints), outer references -/
abbrev GL : Type := Nat × Heap × va_G × (Nat → ClassId) × (Nat × Nat × (Nat → Int32)) × (Nat → Option Nat)
abbrev gB (g : GL) : Nat := g.1
abbrev gH (g : GL) : Heap := g.2.1
abbrev gD (g : GL) : va_G := g.2.2.1
abbrev gA (g : GL) : Nat → ClassId := g.2.2.2.1
abbrev gX (g : GL) : Nat × Nat × (Nat → Int32) := g.2.2.2.2.1
abbrev gK (g : GL) : Nat → Option Nat := g.2.2.2.2.2
def rf (g : GL) (r : Option Nat) : Value := va_rf (r.map (gB g + ·))
/-- a pure value as the machine has it: a reference is a place in the layout, a return address stands for an outer reference -/
def tr (g : GL) : Value → Value
  | .ref a => .ref (gB g + a)
  | .retAddr k => va_rf (gK g k)
  | .int x => .int x
  | .long x => .long x
  | .float x => .float x
  | .double x => .double x
  | .null => .null
theorem tr_cat (g : GL) (v : Value) : (tr g v).category = v.category := by
  cases v with
  | retAddr k => show (va_rf (gK g k)).category = 1; cases gK g k <;> rfl
  | _ => rfl
def isJ : Value → Bool
  | .double _ => true
  | _ => false
abbrev jk : Value := .double 0
/-- the locals of a frame as pairs -/
def lprs (g : GL) : List Value → Nat → List (Nat × Value)
  | [], _ => []
  | x :: xs, i => if isJ x then lprs g xs (i + 1) else (i, tr g x) :: lprs g xs (i + 1)
def lgt : List Value → Nat → Value
  | [], _ => jk
  | x :: _, 0 => x
  | _ :: xs, i + 1 => lgt xs i
def kz : Value → Value
  | .long _ => jk
  | v => v
/-- storing a value of one slot, of two -/
def lst : List Value → Nat → Value → List Value
  | [], _, _ => []
  | _ :: xs, 0, v => v :: xs
  | x :: xs, i + 1, v => match i with
    | 0 => kz x :: lst xs 0 v
    | _ => x :: lst xs i v
def lsl : List Value → Nat → Value → List Value
  | [], _, _ => []
  | _ :: xs, 0, v => match xs with
    | [] => [v]
    | _ :: ys => v :: jk :: ys
  | x :: xs, i + 1, v => match i with
    | 0 => kz x :: lsl xs 0 v
    | _ => x :: lsl xs i v
def lmask : List Bool → List Value → List Value
  | b :: bs, x :: xs => (if b then x else jk) :: lmask bs xs
  | [], _ => []
  | _, [] => []
theorem lprs_mem {g : GL} : ∀ {ls : List Value} {k j : Nat} {w : Value}, (j, w) ∈ lprs g ls k ↔ k ≤ j ∧ j - k < ls.length ∧ isJ (lgt ls (j - k)) = false ∧ w = tr g (lgt ls (j - k))
  | [], k, j, w => by simp [lprs]
  | x :: xs, k, j, w => by
    have ih := lprs_mem (g := g) (ls := xs) (k := k + 1) (j := j) (w := w)
    have key : (j, w) ∈ lprs g (x :: xs) k ↔ (isJ x = false ∧ j = k ∧ w = tr g x) ∨ (j, w) ∈ lprs g xs (k + 1) := by
      unfold lprs
      by_cases hx : isJ x = true
      · simp [hx]
      · simp [hx]
    rw [key, ih]
    constructor
    · rintro (⟨h1, rfl, h3⟩ | ⟨h1, h2, h3, h4⟩)
      · simp only [Nat.sub_self]
        exact ⟨Nat.le_refl _, by simp, h1, h3⟩
      · have e : j - k = (j - (k + 1)) + 1 := by omega
        rw [e]
        exact ⟨by omega, by simp only [List.length_cons]; omega, h3, h4⟩
    · rintro ⟨h1, h2, h3, h4⟩
      by_cases hj : j = k
      · subst hj
        simp only [Nat.sub_self] at h3 h4
        exact Or.inl ⟨h3, rfl, h4⟩
      · have e : j - k = (j - (k + 1)) + 1 := by omega
        rw [e] at h2 h3 h4
        exact Or.inr ⟨by omega, by simp only [List.length_cons] at h2; omega, h3, h4⟩
def LOK (g : GL) (nL : Nat) (ls : List Value) (la : Array Slot) : Prop := lv_has la nL (lprs g ls 0) ∧ ls.length ≤ nL
theorem LOK.at {g : GL} {nL : Nat} {ls : List Value} {la : Array Slot} (h : LOK g nL ls la) {i : Nat} {v : Value} (hv : lgt ls i = v) (hj : isJ v = false) : la[i]? = some (.val (tr g v)) := by
  have hl : i < ls.length := by
    rcases Nat.lt_or_ge i ls.length with q | q
    · exact q
    · exfalso
      have : ∀ (xs : List Value) (k : Nat), xs.length ≤ k → lgt xs k = jk := by
        intro xs
        induction xs with
        | nil => intro k _; rfl
        | cons y ys ih =>
          intro k hk
          cases k with
          | zero => simp at hk
          | succ k => exact ih k (by simpa using hk)
      rw [this ls i q] at hv
      subst hv
      cases hj
  exact h.1.2.2 (i, tr g v) (lprs_mem.mpr ⟨Nat.zero_le _, hl, by rw [Nat.sub_zero, hv]; exact hj, by rw [Nat.sub_zero, hv]⟩)
theorem lst_len : ∀ (ls : List Value) (i : Nat) (v : Value), (lst ls i v).length = ls.length
  | [], _, _ => rfl
  | _ :: _, 0, _ => rfl
  | _ :: xs, 1, v => congrArg (· + 1) (lst_len xs 0 v)
  | _ :: xs, i + 2, v => congrArg (· + 1) (lst_len xs (i + 1) v)
theorem lst_get : ∀ (ls : List Value) (i : Nat) (v : Value) (j : Nat), j < ls.length → lgt (lst ls i v) j = if j = i then v else if j + 1 = i then kz (lgt ls j) else lgt ls j
  | [], _, _, j, h => by simp at h
  | x :: xs, 0, v, j, h => by
    cases j with
    | zero => rfl
    | succ j => simp [lst, lgt]
  | x :: xs, 1, v, j, h => by
    cases j with
    | zero => simp [lst, lgt]
    | succ j =>
      have ih := lst_get xs 0 v j (by simpa using h)
      simp only [lst, lgt]
      rw [ih]
      simp
  | x :: xs, i + 2, v, j, h => by
    cases j with
    | zero => simp [lst, lgt]
    | succ j =>
      have ih := lst_get xs (i + 1) v j (by simpa using h)
      simp only [lst, lgt]
      rw [ih]
      simp
theorem kz_J {v : Value} (h : isJ (kz v) = false) : kz v = v ∧ v.category = 1 := by
  cases v with
  | long x => cases h
  | double x => cases h
  | _ => exact ⟨rfl, rfl⟩
theorem LOK.st1 {g : GL} {nL : Nat} {ls : List Value} {la' : Array Slot} {i : Nat} {v : Value} (h : lv_has la' nL ((i, tr g v) :: (lprs g ls 0).filter (fun q => !(q.1 == i) && !(q.1 + 1 == i && q.2.category == 2)))) (hl : ls.length ≤ nL) : LOK g nL (lst ls i v) la' := by
  refine ⟨⟨h.1, h.2.1, fun q hq => ?_⟩, by rw [lst_len]; exact hl⟩
  obtain ⟨j, w⟩ := q
  obtain ⟨-, h2, h3, h4⟩ := lprs_mem.mp hq
  rw [Nat.sub_zero] at h2 h3 h4
  rw [lst_len] at h2
  rw [lst_get ls i v j h2] at h3 h4
  by_cases hj : j = i
  · rw [if_pos hj] at h4
    subst hj
    subst h4
    exact h.2.2 _ List.mem_cons_self
  · rw [if_neg hj] at h3 h4
    refine h.2.2 (j, w) (List.mem_cons_of_mem _ (List.mem_filter.mpr ⟨?_, ?_⟩))
    · by_cases hj1 : j + 1 = i
      · rw [if_pos hj1] at h3 h4
        rw [(kz_J h3).1] at h3 h4
        exact lprs_mem.mpr ⟨Nat.zero_le _, h2, h3, h4⟩
      · rw [if_neg hj1] at h3 h4
        exact lprs_mem.mpr ⟨Nat.zero_le _, h2, h3, h4⟩
    · simp only [Bool.and_eq_true, Bool.not_eq_true', beq_eq_false_iff_ne, ne_eq, Bool.and_eq_false_iff]
      refine ⟨hj, ?_⟩
      by_cases hj1 : j + 1 = i
      · rw [if_pos hj1] at h3 h4
        right
        have := (kz_J h3).2
        rw [h4, tr_cat, (kz_J h3).1, this]
        decide
      · exact Or.inl hj1
theorem lsl_len : ∀ (ls : List Value) (i : Nat) (v : Value), (lsl ls i v).length = ls.length
  | [], _, _ => rfl
  | [_], 0, _ => rfl
  | _ :: _ :: _, 0, _ => rfl
  | _ :: xs, 1, v => congrArg (· + 1) (lsl_len xs 0 v)
  | _ :: xs, i + 2, v => congrArg (· + 1) (lsl_len xs (i + 1) v)
theorem lsl_get : ∀ (ls : List Value) (i : Nat) (v : Value) (j : Nat), j < ls.length → lgt (lsl ls i v) j = if j = i then v else if j = i + 1 then jk else if j + 1 = i then kz (lgt ls j) else lgt ls j
  | [], _, _, j, h => by simp at h
  | [x], 0, v, j, h => by
    have : j = 0 := by simp at h; exact h
    subst this
    rfl
  | x :: y :: xs, 0, v, j, h => by
    match j with
    | 0 => rfl
    | 1 => rfl
    | j + 2 => simp [lsl, lgt]
  | x :: xs, 1, v, j, h => by
    cases j with
    | zero => simp [lsl, lgt]
    | succ j =>
      have ih := lsl_get xs 0 v j (by simpa using h)
      simp only [lsl, lgt]
      rw [ih]
      simp
  | x :: xs, i + 2, v, j, h => by
    cases j with
    | zero => simp [lsl, lgt]
    | succ j =>
      have ih := lsl_get xs (i + 1) v j (by simpa using h)
      simp only [lsl, lgt]
      rw [ih]
      simp
theorem LOK.st2 {g : GL} {nL : Nat} {ls : List Value} {la' : Array Slot} {i : Nat} {v : Value} (h : lv_has la' nL ((i, tr g v) :: (lprs g ls 0).filter (fun q => !(q.1 == i) && (!(q.1 == i + 1) && !(q.1 + 1 == i && q.2.category == 2))))) (hl : ls.length ≤ nL) : LOK g nL (lsl ls i v) la' := by
  refine ⟨⟨h.1, h.2.1, fun q hq => ?_⟩, by rw [lsl_len]; exact hl⟩
  obtain ⟨j, w⟩ := q
  obtain ⟨-, h2, h3, h4⟩ := lprs_mem.mp hq
  rw [Nat.sub_zero] at h2 h3 h4
  rw [lsl_len] at h2
  rw [lsl_get ls i v j h2] at h3 h4
  by_cases hj : j = i
  · rw [if_pos hj] at h4
    subst hj
    subst h4
    exact h.2.2 _ List.mem_cons_self
  · rw [if_neg hj] at h3 h4
    by_cases hj2 : j = i + 1
    · rw [if_pos hj2] at h3
      cases h3
    · rw [if_neg hj2] at h3 h4
      refine h.2.2 (j, w) (List.mem_cons_of_mem _ (List.mem_filter.mpr ⟨?_, ?_⟩))
      · by_cases hj1 : j + 1 = i
        · rw [if_pos hj1] at h3 h4
          rw [(kz_J h3).1] at h3 h4
          exact lprs_mem.mpr ⟨Nat.zero_le _, h2, h3, h4⟩
        · rw [if_neg hj1] at h3 h4
          exact lprs_mem.mpr ⟨Nat.zero_le _, h2, h3, h4⟩
      · simp only [Bool.and_eq_true, Bool.not_eq_true', beq_eq_false_iff_ne, ne_eq, Bool.and_eq_false_iff]
        refine ⟨hj, hj2, ?_⟩
        by_cases hj1 : j + 1 = i
        · rw [if_pos hj1] at h3 h4
          right
          have := (kz_J h3).2
          rw [h4, tr_cat, (kz_J h3).1, this]
          decide
        · exact Or.inl hj1
theorem lmask_spec : ∀ (bs : List Bool) (ls : List Value), (lmask bs ls).length ≤ ls.length ∧ ∀ j, isJ (lgt (lmask bs ls) j) = false → lgt (lmask bs ls) j = lgt ls j
  | [], ls => by
    refine ⟨by simp [lmask], fun j h => ?_⟩
    cases ls <;> cases j <;> cases h
  | b :: bs, [] => by
    refine ⟨by simp [lmask], fun j h => ?_⟩
    cases j <;> cases h
  | b :: bs, x :: xs => by
    obtain ⟨h1, h2⟩ := lmask_spec bs xs
    refine ⟨by simp only [lmask, List.length_cons]; omega, fun j h => ?_⟩
    cases j with
    | zero =>
      cases b with
      | true => rfl
      | false => cases h
    | succ j => exact h2 j h
theorem LOK.mask {g : GL} {nL : Nat} {ls : List Value} {la : Array Slot} (h : LOK g nL ls la) (bs : List Bool) : LOK g nL (lmask bs ls) la := by
  obtain ⟨s1, s2⟩ := lmask_spec bs ls
  refine ⟨⟨h.1.1, h.1.2.1, fun q hq => ?_⟩, Nat.le_trans s1 h.2⟩
  obtain ⟨j, w⟩ := q
  obtain ⟨-, h2, h3, h4⟩ := lprs_mem.mp hq
  rw [Nat.sub_zero] at h2 h3 h4
  rw [s2 j h3] at h3 h4
  rw [h4]
  exact h.at rfl h3
