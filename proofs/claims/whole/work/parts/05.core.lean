/-! ===== the pure memory, and the judgement E over it: W with all its bookkeeping inside ===== -/
abbrev IM : Type := Nat → Nat → Int32
abbrev JM : Type := Nat → Nat → Int64
abbrev RM : Type := Nat → Nat → Option Nat
def up2 {α : Type} (f : Nat → Nat → α) (a k : Nat) (v : α) : Nat → Nat → α := fun x y => if x = a ∧ y = k then v else f x y
theorem up2_s {α : Type} (f : Nat → Nat → α) (a k : Nat) (v : α) : up2 f a k v a k = v := if_pos ⟨rfl, rfl⟩
theorem up2_a {α : Type} (f : Nat → Nat → α) {a k x y : Nat} (v : α) (h : x ≠ a) : up2 f a k v x y = f x y := if_neg fun q => h q.1
theorem up2_k {α : Type} (f : Nat → Nat → α) {a k x y : Nat} (v : α) (h : y ≠ k) : up2 f a k v x y = f x y := if_neg fun q => h q.2
/-- a method: its name, code, locals, answer -/
abbrev MD : Type := MethodName × ByteArray × Nat × Option FieldType
/-- base, the heap at the law's entry, classes and slots, array classes by kind, the script (cell, length, ints), outer references -/
abbrev GL : Type := Nat × Heap × va_G × (Nat → ClassId) × (Nat × Nat × (Nat → Int32)) × (Nat → Nat) × (Nat → Nat) × Option Nat
abbrev gB (g : GL) : Nat := g.1
abbrev gH (g : GL) : Heap := g.2.1
abbrev gD (g : GL) : va_G := g.2.2.1
abbrev gA (g : GL) : Nat → ClassId := g.2.2.2.1
abbrev gX (g : GL) : Nat × Nat × (Nat → Int32) := g.2.2.2.2.1
abbrev gsK (g : GL) : Nat → Nat := g.2.2.2.2.2.1
abbrev gsV (g : GL) : Nat → Nat := g.2.2.2.2.2.2.1
abbrev gF (g : GL) : Option Nat := g.2.2.2.2.2.2.2
/-- outer references: 0 the script, 1 + 2 i a text, 2 + 2 i its bytes, 99 what the checks of places are told by -/
def gK (g : GL) (k : Nat) : Option Nat := if k = 0 then some (gX g).1 else if k = 99 then gF g else if k % 2 = 1 then some (gsK g (k / 2)) else some (gsV g (k / 2 - 1))
/-- the words of the tables that a callee keeps -/
def tG : List Cond := lw_tbl.filter goodWord
theorem tG_in {w : Cond} (h : w ∈ lw_tbl) (hg : goodWord w = true) : w ∈ tG := List.mem_filter.mpr ⟨h, hg⟩
def rf (g : GL) (r : Option Nat) : Value := va_rf (r.map (gB g + ·))
/-- a pure value as the machine has it: a reference is a place in the layout, a return address stands for an outer reference -/
def tr (g : GL) : Value → Value
  | .ref a => .ref (gB g + a)
  | .retAddr k => va_rf (gK g k)
  | .int x => .int x
  | .long x => .long x
  | .float x => .float x
  | .double x => .double x
  | .null => .null
theorem tr_cat (g : GL) (v : Value) : (tr g v).category = v.category := by
  cases v with
  | retAddr k => show (va_rf (gK g k)).category = 1; cases gK g k <;> rfl
  | _ => rfl
def isJ : Value → Bool
  | .double _ => true
  | _ => false
abbrev jk : Value := .double 0
/-- the locals of a frame as pairs -/
def lprs (g : GL) : List Value → Nat → List (Nat × Value)
  | [], _ => []
  | x :: xs, i => if isJ x then lprs g xs (i + 1) else (i, tr g x) :: lprs g xs (i + 1)
def lgt : List Value → Nat → Value
  | [], _ => jk
  | x :: _, 0 => x
  | _ :: xs, i + 1 => lgt xs i
def kz : Value → Value
  | .long _ => jk
  | v => v
/-- storing a value of one slot, of two -/
def lst : List Value → Nat → Value → List Value
  | [], _, _ => []
  | _ :: xs, 0, v => v :: xs
  | x :: xs, i + 1, v => match i with
    | 0 => kz x :: lst xs 0 v
    | _ => x :: lst xs i v
def lsl : List Value → Nat → Value → List Value
  | [], _, _ => []
  | _ :: xs, 0, v => match xs with
    | [] => [v]
    | _ :: ys => v :: jk :: ys
  | x :: xs, i + 1, v => match i with
    | 0 => kz x :: lsl xs 0 v
    | _ => x :: lsl xs i v
def lmask : List Bool → List Value → List Value
  | b :: bs, x :: xs => (if b then x else jk) :: lmask bs xs
  | [], _ => []
  | _, [] => []
theorem lprs_mem {g : GL} : ∀ {ls : List Value} {k j : Nat} {w : Value}, (j, w) ∈ lprs g ls k ↔ k ≤ j ∧ j - k < ls.length ∧ isJ (lgt ls (j - k)) = false ∧ w = tr g (lgt ls (j - k))
  | [], k, j, w => by simp [lprs]
  | x :: xs, k, j, w => by
    have ih := lprs_mem (g := g) (ls := xs) (k := k + 1) (j := j) (w := w)
    have key : (j, w) ∈ lprs g (x :: xs) k ↔ (isJ x = false ∧ j = k ∧ w = tr g x) ∨ (j, w) ∈ lprs g xs (k + 1) := by
      rw [show lprs g (x :: xs) k = if isJ x then lprs g xs (k + 1) else (k, tr g x) :: lprs g xs (k + 1) from rfl]
      by_cases hx : isJ x = true
      · simp [hx]
      · simp [hx]
    rw [key, ih]
    constructor
    · rintro (⟨h1, rfl, h3⟩ | ⟨h1, h2, h3, h4⟩)
      · simp only [Nat.sub_self]
        exact ⟨Nat.le_refl _, by simp, h1, h3⟩
      · have e : j - k = (j - (k + 1)) + 1 := by omega
        rw [e]
        exact ⟨by omega, by simp only [List.length_cons]; omega, h3, h4⟩
    · rintro ⟨h1, h2, h3, h4⟩
      by_cases hj : j = k
      · subst hj
        simp only [Nat.sub_self] at h3 h4
        exact Or.inl ⟨h3, rfl, h4⟩
      · have e : j - k = (j - (k + 1)) + 1 := by omega
        rw [e] at h2 h3 h4
        exact Or.inr ⟨by omega, by simp only [List.length_cons] at h2; omega, h3, h4⟩
def LOK (g : GL) (nL : Nat) (ls : List Value) (la : Array Slot) : Prop := lv_has la nL (lprs g ls 0) ∧ ls.length ≤ nL
theorem LOK.at {g : GL} {nL : Nat} {ls : List Value} {la : Array Slot} (h : LOK g nL ls la) {i : Nat} {v : Value} (hv : lgt ls i = v) (hj : isJ v = false) : la[i]? = some (.val (tr g v)) := by
  have hl : i < ls.length := by
    rcases Nat.lt_or_ge i ls.length with q | q
    · exact q
    · exfalso
      have : ∀ (xs : List Value) (k : Nat), xs.length ≤ k → lgt xs k = jk := by
        intro xs
        induction xs with
        | nil => intro k _; rfl
        | cons y ys ih =>
          intro k hk
          cases k with
          | zero => simp at hk
          | succ k => exact ih k (by simpa using hk)
      rw [this ls i q] at hv
      subst hv
      cases hj
  exact h.1.2.2 (i, tr g v) (lprs_mem.mpr ⟨Nat.zero_le _, hl, by rw [Nat.sub_zero, hv]; exact hj, by rw [Nat.sub_zero, hv]⟩)
theorem lgt_out : ∀ (ls : List Value) (k : Nat), ls.length ≤ k → lgt ls k = jk
  | [], _, _ => rfl
  | _ :: _, 0, h => by simp at h
  | _ :: xs, k + 1, h => lgt_out xs k (by simpa using h)
theorem lst_len : ∀ (ls : List Value) (i : Nat) (v : Value), (lst ls i v).length = ls.length
  | [], _, _ => rfl
  | _ :: _, 0, _ => rfl
  | _ :: xs, 1, v => congrArg (· + 1) (lst_len xs 0 v)
  | _ :: xs, i + 2, v => congrArg (· + 1) (lst_len xs (i + 1) v)
theorem lst_get : ∀ (ls : List Value) (i : Nat) (v : Value) (j : Nat), j < ls.length → lgt (lst ls i v) j = if j = i then v else if j + 1 = i then kz (lgt ls j) else lgt ls j
  | [], _, _, j, h => by simp at h
  | x :: xs, 0, v, j, h => by
    cases j with
    | zero => rfl
    | succ j => simp [lst, lgt]
  | x :: xs, 1, v, j, h => by
    cases j with
    | zero => simp [lst, lgt]
    | succ j =>
      have ih := lst_get xs 0 v j (by simpa using h)
      simp only [lst, lgt]
      rw [ih]
      simp
  | x :: xs, i + 2, v, j, h => by
    cases j with
    | zero => simp [lst, lgt]
    | succ j =>
      have ih := lst_get xs (i + 1) v j (by simpa using h)
      simp only [lst, lgt]
      rw [ih]
      simp
theorem kz_J {v : Value} (h : isJ (kz v) = false) : kz v = v ∧ v.category = 1 := by
  cases v with
  | long x => cases h
  | double x => cases h
  | _ => exact ⟨rfl, rfl⟩
theorem LOK.st1 {g : GL} {nL : Nat} {ls : List Value} {la' : Array Slot} {i : Nat} {v : Value} (h : lv_has la' nL ((i, tr g v) :: (lprs g ls 0).filter (fun q => !(q.1 == i) && !(q.1 + 1 == i && q.2.category == 2)))) (hl : ls.length ≤ nL) : LOK g nL (lst ls i v) la' := by
  refine ⟨⟨h.1, h.2.1, fun q hq => ?_⟩, by rw [lst_len]; exact hl⟩
  obtain ⟨j, w⟩ := q
  obtain ⟨-, h2, h3, h4⟩ := lprs_mem.mp hq
  rw [Nat.sub_zero] at h2 h3 h4
  rw [lst_len] at h2
  rw [lst_get ls i v j h2] at h3 h4
  by_cases hj : j = i
  · rw [if_pos hj] at h4
    subst hj
    subst h4
    exact h.2.2 _ List.mem_cons_self
  · rw [if_neg hj] at h3 h4
    refine h.2.2 (j, w) (List.mem_cons_of_mem _ (List.mem_filter.mpr ⟨?_, ?_⟩))
    · by_cases hj1 : j + 1 = i
      · rw [if_pos hj1] at h3 h4
        have e := (kz_J h3).1
        rw [e] at h3 h4
        exact lprs_mem.mpr ⟨Nat.zero_le _, h2, h3, h4⟩
      · rw [if_neg hj1] at h3 h4
        exact lprs_mem.mpr ⟨Nat.zero_le _, h2, h3, h4⟩
    · simp only [Bool.and_eq_true, Bool.not_eq_true', beq_eq_false_iff_ne, ne_eq, Bool.and_eq_false_iff]
      refine ⟨hj, ?_⟩
      by_cases hj1 : j + 1 = i
      · rw [if_pos hj1] at h3 h4
        right
        have := (kz_J h3).2
        rw [h4, tr_cat, (kz_J h3).1, this]
        decide
      · exact Or.inl hj1
theorem lsl_len : ∀ (ls : List Value) (i : Nat) (v : Value), (lsl ls i v).length = ls.length
  | [], _, _ => rfl
  | [_], 0, _ => rfl
  | _ :: _ :: _, 0, _ => rfl
  | _ :: xs, 1, v => congrArg (· + 1) (lsl_len xs 0 v)
  | _ :: xs, i + 2, v => congrArg (· + 1) (lsl_len xs (i + 1) v)
theorem lsl_get : ∀ (ls : List Value) (i : Nat) (v : Value) (j : Nat), j < ls.length → lgt (lsl ls i v) j = if j = i then v else if j = i + 1 then jk else if j + 1 = i then kz (lgt ls j) else lgt ls j
  | [], _, _, j, h => by simp at h
  | [x], 0, v, j, h => by
    have : j = 0 := by simp at h; exact h
    subst this
    rfl
  | x :: y :: xs, 0, v, j, h => by
    match j with
    | 0 => rfl
    | 1 => rfl
    | j + 2 => simp [lsl, lgt]
  | x :: xs, 1, v, j, h => by
    cases j with
    | zero => simp [lsl, lgt]
    | succ j =>
      have ih := lsl_get xs 0 v j (by simpa using h)
      simp only [lsl, lgt]
      rw [ih]
      simp
  | x :: xs, i + 2, v, j, h => by
    cases j with
    | zero => simp [lsl, lgt]
    | succ j =>
      have ih := lsl_get xs (i + 1) v j (by simpa using h)
      simp only [lsl, lgt]
      rw [ih]
      simp
theorem LOK.st2 {g : GL} {nL : Nat} {ls : List Value} {la' : Array Slot} {i : Nat} {v : Value} (h : lv_has la' nL ((i, tr g v) :: (lprs g ls 0).filter (fun q => !(q.1 == i) && (!(q.1 == i + 1) && !(q.1 + 1 == i && q.2.category == 2))))) (hl : ls.length ≤ nL) : LOK g nL (lsl ls i v) la' := by
  refine ⟨⟨h.1, h.2.1, fun q hq => ?_⟩, by rw [lsl_len]; exact hl⟩
  obtain ⟨j, w⟩ := q
  obtain ⟨-, h2, h3, h4⟩ := lprs_mem.mp hq
  rw [Nat.sub_zero] at h2 h3 h4
  rw [lsl_len] at h2
  rw [lsl_get ls i v j h2] at h3 h4
  by_cases hj : j = i
  · rw [if_pos hj] at h4
    subst hj
    subst h4
    exact h.2.2 _ List.mem_cons_self
  · rw [if_neg hj] at h3 h4
    by_cases hj2 : j = i + 1
    · rw [if_pos hj2] at h3
      cases h3
    · rw [if_neg hj2] at h3 h4
      refine h.2.2 (j, w) (List.mem_cons_of_mem _ (List.mem_filter.mpr ⟨?_, ?_⟩))
      · by_cases hj1 : j + 1 = i
        · rw [if_pos hj1] at h3 h4
          have e := (kz_J h3).1
          rw [e] at h3 h4
          exact lprs_mem.mpr ⟨Nat.zero_le _, h2, h3, h4⟩
        · rw [if_neg hj1] at h3 h4
          exact lprs_mem.mpr ⟨Nat.zero_le _, h2, h3, h4⟩
      · simp only [Bool.and_eq_true, Bool.not_eq_true', beq_eq_false_iff_ne, ne_eq, Bool.and_eq_false_iff]
        refine ⟨hj, hj2, ?_⟩
        by_cases hj1 : j + 1 = i
        · rw [if_pos hj1] at h3 h4
          right
          have := (kz_J h3).2
          rw [h4, tr_cat, (kz_J h3).1, this]
          decide
        · exact Or.inl hj1
theorem lmask_spec : ∀ (bs : List Bool) (ls : List Value), (lmask bs ls).length ≤ ls.length ∧ ∀ j, isJ (lgt (lmask bs ls) j) = false → lgt (lmask bs ls) j = lgt ls j
  | [], ls => by
    refine ⟨by simp [lmask], fun j h => ?_⟩
    cases ls <;> cases j <;> cases h
  | b :: bs, [] => by
    refine ⟨by simp [lmask], fun j h => ?_⟩
    cases j <;> cases h
  | b :: bs, x :: xs => by
    obtain ⟨h1, h2⟩ := lmask_spec bs xs
    refine ⟨by simp only [lmask, List.length_cons]; omega, fun j h => ?_⟩
    cases j with
    | zero =>
      cases b with
      | true => rfl
      | false => cases h
    | succ j => exact h2 j h
theorem LOK.mask {g : GL} {nL : Nat} {ls : List Value} {la : Array Slot} (h : LOK g nL ls la) (bs : List Bool) : LOK g nL (lmask bs ls) la := by
  obtain ⟨s1, s2⟩ := lmask_spec bs ls
  refine ⟨⟨h.1.1, h.1.2.1, fun q hq => ?_⟩, Nat.le_trans s1 h.2⟩
  obtain ⟨j, w⟩ := q
  obtain ⟨-, h2, h3, h4⟩ := lprs_mem.mp hq
  rw [Nat.sub_zero] at h2 h3 h4
  have e := s2 j h3
  rw [e] at h3 h4
  rw [h4]
  exact h.at rfl h3
/-! ===== cells ===== -/
def EV (g : GL) (I : IM) (J : JM) (R : RM) (a : Nat) : Nat → Value := fun k =>
  if (LY a).1 = 21 then .long (J a k) else if (LY a).1 = 23 then rf g (R a k) else if 20 ≤ (LY a).1 then .int (I a k) else if fR (LY a).1 k = true then rf g (R a k) else .int (I a k)
def AtC (g : GL) (I : IM) (J : JM) (R : RM) (a : Nat) (H : Heap) : Prop :=
  if 20 ≤ (LY a).1 then H[gB g + a]? = some (arrV (gA g (LY a).1) (LY a).2 (EV g I J R a)) else ∃ r : vw_C, vwCl[(LY a).1]? = some r ∧ t_OB (gB g + a) ((gD g).1 (LY a).1) r.2.2 ((gD g).2 (LY a).1) H (EV g I J R a)
def HOK (g : GL) (n : Nat) (I : IM) (J : JM) (R : RM) (H : Heap) : Prop := H.size = gB g + n ∧ (∀ q, q < gB g → H[q]? = (gH g)[q]?) ∧ ∀ a, a < n → AtC g I J R a H
theorem AtC.kept {g : GL} {I I' : IM} {J J' : JM} {R R' : RM} {a : Nat} {H H' : Heap} (h : AtC g I J R a H) (hI : I' a = I a) (hJ : J' a = J a) (hR : R' a = R a) (hH : H'[gB g + a]? = H[gB g + a]?) : AtC g I' J' R' a H' := by
  have e : EV g I' J' R' a = EV g I J R a := by
    funext k
    unfold EV
    rw [hI, hJ, hR]
  unfold AtC at h ⊢
  rw [e]
  split at h
  · rename_i q
    rw [if_pos q, hH]
    exact h
  · rename_i q
    rw [if_neg q]
    obtain ⟨r, h1, h2⟩ := h
    exact ⟨r, h1, h2.kept hH⟩
/-- the array classes by kind -/
def aTy (k : Nat) : FieldType := if k = 20 then .int else if k = 21 then .long else if k = 22 then .byte else .object RX10
def A0 (g : GL) : Nat → Prop := fun q => gB g ≤ q
/-- the texts: class, pool entry, text, bytes -/
def SRL : List (String × Nat × String × List Int32) := [("CorkConfessions$Law", 27, "knzcuysiw", [107, 110, 122, 99, 117, 121, 115, 105, 119]), ("CorkConfessions$LawReader", 62, "gfadx", [103, 102, 97, 100, 120]), ("CorkConfessions$LawReader", 101, "knzcuysiw", [107, 110, 122, 99, 117, 121, 115, 105, 119]), ("CorkConfessions$LawReader", 99, "+-*/%", [43, 45, 42, 47, 37]), ("CorkConfessions$Rounds", 76, "tpsboc", [116, 112, 115, 98, 111, 99])]
def Wst (g : GL) (s : State) : Prop :=
  (∀ (i : Nat) (q : String × Nat × String × List Int32), SRL[i]? = some q → vk_R q.1 q.2.1 q.2.2.1 (gsK g i) s ∧ va_O "java/lang/String" (gsK g i) (A0 g) s (gH g) ∧ va_OF "java/lang/String" "coder" "B" (.int 0) (gsK g i) (A0 g) s (gH g) ∧ va_OF "java/lang/String" "value" "[B" (.ref (gsV g i)) (gsK g i) (A0 g) s (gH g) ∧ va_T .byte (gsV g i) q.2.2.2.length (fun j => .int (q.2.2.2.getD j 0)) (A0 g) s (gH g)) ∧
  va_Z "java/lang/String" "COMPACT_STRINGS" "Z" (.int 1) (A0 g) s (gH g) ∧ va_Z "jdk/internal/util/Preconditions" "SIOOBE_FORMATTER" "Ljava/util/function/BiFunction;" (va_rf (gF g)) (A0 g) s (gH g)
/-- what the machine's tables say, at a state -/
def Wok (g : GL) (s : State) : Prop :=
  (∀ (c : Nat) (q : vw_C), vwCl[c]? = some q → u_Kn s q.1 q.2.1 q.2.2 ((gD g).1 c) ((gD g).2 c)) ∧ (∀ k, 20 ≤ k → k < 24 → ArrOfT s (gA g k) (aTy k) ∧ va_RA s (gA g k) (aTy k)) ∧ va_X (gX g).1 (gX g).2.1 (gX g).2.2 s (gH g) ∧ ((gX g).1 < gB g ∧ (gH g).size = gB g) ∧
  Wst g s ∧ (∀ (a : String) (i : Nat) (x : MethodName) (h : String), Cond.methodLinkNest a i x h ∈ lw_tbl → va_Nw (.methodLinkNest a i x h) s) ∧ (∀ x : MethodName, Cond.declares x ∈ lw_tbl → va_Nw (.declares x) s) ∧ va_AO RX10 s
theorem Wok.moved {g : GL} {s U : State} (h : Wok g s) (hW : s.WarmedH U.vm) : Wok g U := by
  obtain ⟨h1, h2, h3, h4, ⟨h5, h6, h7⟩, h8, h9, h10⟩ := h
  have hv := hW.alike
  exact ⟨fun c q hq => u_Kn_moved hv (h1 c q hq), fun k a b => ⟨arrOfT_moved hv (h2 k a b).1, (h2 k a b).2.moved hv⟩, h3.moved hv, h4,
    ⟨fun i q hq => ⟨(h5 i q hq).1.warm hW, (h5 i q hq).2.1.moved hv, (h5 i q hq).2.2.1.moved hv, (h5 i q hq).2.2.2.1.moved hv, (h5 i q hq).2.2.2.2.moved hv⟩, h6.moved hv, h7.moved hv⟩,
    fun a i x t hw => (h8 a i x t hw).warmM hW, fun x hw => (h9 x hw).warmD hW, h10.moved hv⟩
theorem Wok.same {g : GL} {s U : State} (h : Wok g s) (he : s.vm = U.vm) : Wok g U := by
  obtain ⟨h1, h2, h3, h4, ⟨h5, h6, h7⟩, h8, h9, h10⟩ := h
  have hv : s.vm.Alike U.vm := he ▸ Vm.Alike.refl s.vm
  exact ⟨fun c q hq => u_Kn_moved hv (h1 c q hq), fun k a b => ⟨arrOfT_moved hv (h2 k a b).1, (h2 k a b).2.moved hv⟩, h3.moved hv, h4,
    ⟨fun i q hq => ⟨(h5 i q hq).1.same he.symm, (h5 i q hq).2.1.moved hv, (h5 i q hq).2.2.1.moved hv, (h5 i q hq).2.2.2.1.moved hv, (h5 i q hq).2.2.2.2.moved hv⟩, h6.moved hv, h7.moved hv⟩,
    fun a i x t hw => (h8 a i x t hw).same rfl he, fun x hw => (h9 x hw).same rfl he, h10.moved hv⟩
/-- the frame's standing facts -/
def Cx (M : MD) (p : Program) (s : State) (m : MethodId) (args : Array Value) (meth : Method) (c : Code) : Prop :=
  p.tables.exec = Jvm.exec ∧ c.code = M.2.1 ∧ meth.sig.returnType = M.2.2.2 ∧ c.maxLocals = M.2.2.1 ∧ s.vm.findClass M.1.cls = some m.cls ∧ (∀ w ∈ tG, w.before args s = true) ∧ meth.locks = false ∧ meth.name = M.1.name
abbrev PQ : Type := Option Value → Nat → IM → JM → RM → Prop
def QC (g : GL) (Q : PQ) : Array Value → State → Outcome → State → Prop := fun _ st o t => ∃ (v : Option Value) (n : Nat) (I : IM) (J : JM) (R : RM), o = .returned (v.map (tr g)) ∧ Q v n I J R ∧ HOK g n I J R t.heap ∧ va_F (A0 g) st t
/-- d calls deep at most, kc cells of ks slots at most from here on -/
def Pr (g : GL) (M : MD) (d kc ks : Nat) (ls : List Value) (n : Nat) (I : IM) (J : JM) (R : RM) (p : Program) (Rm : Room) (s : State) (m : MethodId) (args : Array Value) (meth : Method) (c : Code) (H : Heap) (locs : List Loc) (cells slots mc ms : Nat) (la : Array Slot) : Prop :=
  Cx M p s m args meth c ∧ (d ≤ Rm.frames ∧ 64 * d ≤ Rm.locals) ∧ (cells + kc ≤ mc ∧ slots + ks ≤ ms ∧ mc ≤ Rm.cells ∧ ms ≤ Rm.slots) ∧ Wok g s ∧ gB g ≤ s.heap.size ∧ HOK g n I J R H ∧ va_S (A0 g) s.heap H locs ∧ LOK g M.2.2.1 ls la
def E (g : GL) (M : MD) (d kc ks pc : Nat) (ls st : List Value) (n : Nat) (I : IM) (J : JM) (R : RM) (Q : PQ) : Prop :=
  ∀ (p : Program) (l : Launch) (e : Env) (Rm : Room) (s : State) (m : MethodId) (args : Array Value) (below : List Frame) (meth : Method) (c : Code) (H : Heap) (locs : List Loc) (cells slots mc ms : Nat) (la : Array Slot),
    Pr g M d kc ks ls n I J R p Rm s m args meth c H locs cells slots mc ms la → W p l e Rm s m args below meth c H locs cells slots (MQ below (QC g Q) args s mc ms (A0 g)) (F0 m pc la (st.map (tr g)))
section ER
variable {g : GL} {M : MD} {d kc ks pc n : Nat} {ls st : List Value} {I : IM} {J : JM} {R : RM} {Q : PQ}
theorem Pr.toLs {ls' : List Value} {p : Program} {Rm : Room} {s : State} {m : MethodId} {args : Array Value} {meth : Method} {c : Code} {H : Heap} {locs : List Loc} {cells slots mc ms : Nat} {la la' : Array Slot} (h : Pr g M d kc ks ls n I J R p Rm s m args meth c H locs cells slots mc ms la) (h' : LOK g M.2.2.1 ls' la') : Pr g M d kc ks ls' n I J R p Rm s m args meth c H locs cells slots mc ms la' := by
  obtain ⟨a, b, c, d, e, f, g, -⟩ := h
  exact ⟨a, b, c, d, e, f, g, h'⟩
theorem E.mask (bs : List Bool) (k : E g M d kc ks pc (lmask bs ls) st n I J R Q) : E g M d kc ks pc ls st n I J R Q := by
  intro p l e Rm s m args below meth c H locs cells slots mc ms la Z
  exact k p l e Rm s m args below meth c H locs cells slots mc ms la (Z.toLs (Z.2.2.2.2.2.2.2.mask bs))
theorem E.top {x y : Int32} (h : x = y) (k : E g M d kc ks pc ls (.int y :: st) n I J R Q) : E g M d kc ks pc ls (.int x :: st) n I J R Q := h ▸ k
theorem E.topl {x y : Int64} (h : x = y) (k : E g M d kc ks pc ls (.long y :: st) n I J R Q) : E g M d kc ks pc ls (.long x :: st) n I J R Q := h ▸ k
theorem E.mem {I' : IM} (h : I = I') (k : E g M d kc ks pc ls st n I' J R Q) : E g M d kc ks pc ls st n I J R Q := h ▸ k
theorem E_iconst {i : Int} (hd : decode M.2.1 pc = .ok (.iconst i, 1)) (k : E g M d kc ks (pc + 1) ls (.int (Int32.ofInt i) :: st) n I J R Q) : E g M d kc ks pc ls (st) n I J R Q := by
  intro p l e Rm s m args below meth c H locs cells slots mc ms la Z
  exact lv_iconst Z.1.1 Z.1.2.1 hd rfl (k p l e Rm s m args below meth c H locs cells slots mc ms la Z)
theorem E_bipush {i : Int} (hd : decode M.2.1 pc = .ok (.bipush i, 2)) (k : E g M d kc ks (pc + 2) ls (.int (Int8.ofInt i).toInt32 :: st) n I J R Q) : E g M d kc ks pc ls (st) n I J R Q := by
  intro p l e Rm s m args below meth c H locs cells slots mc ms la Z
  exact lv_bipush Z.1.1 Z.1.2.1 hd rfl (k p l e Rm s m args below meth c H locs cells slots mc ms la Z)
theorem E_sipush {i : Int} (hd : decode M.2.1 pc = .ok (.sipush i, 3)) (k : E g M d kc ks (pc + 3) ls (.int (Int16.ofInt i).toInt32 :: st) n I J R Q) : E g M d kc ks pc ls (st) n I J R Q := by
  intro p l e Rm s m args below meth c H locs cells slots mc ms la Z
  exact lv_sipush Z.1.1 Z.1.2.1 hd rfl (k p l e Rm s m args below meth c H locs cells slots mc ms la Z)
theorem E_ic {i : Int} (v : Int32) (hd : decode M.2.1 pc = .ok (.iconst i, 1)) (hv : Int32.ofInt i = v) (k : E g M d kc ks (pc + 1) ls (.int v :: st) n I J R Q) : E g M d kc ks pc ls (st) n I J R Q := by
  intro p l e Rm s m args below meth c H locs cells slots mc ms la Z
  exact lv_iconst Z.1.1 Z.1.2.1 hd hv (k p l e Rm s m args below meth c H locs cells slots mc ms la Z)
theorem E_bp {i : Int} (v : Int32) (hd : decode M.2.1 pc = .ok (.bipush i, 2)) (hv : (Int8.ofInt i).toInt32 = v) (k : E g M d kc ks (pc + 2) ls (.int v :: st) n I J R Q) : E g M d kc ks pc ls (st) n I J R Q := by
  intro p l e Rm s m args below meth c H locs cells slots mc ms la Z
  exact lv_bipush Z.1.1 Z.1.2.1 hd hv (k p l e Rm s m args below meth c H locs cells slots mc ms la Z)
theorem E_sp {i : Int} (v : Int32) (hd : decode M.2.1 pc = .ok (.sipush i, 3)) (hv : (Int16.ofInt i).toInt32 = v) (k : E g M d kc ks (pc + 3) ls (.int v :: st) n I J R Q) : E g M d kc ks pc ls (st) n I J R Q := by
  intro p l e Rm s m args below meth c H locs cells slots mc ms la Z
  exact lv_sipush Z.1.1 Z.1.2.1 hd hv (k p l e Rm s m args below meth c H locs cells slots mc ms la Z)
theorem E_lc {i : Fin 2} (v : Int64) (hd : decode M.2.1 pc = .ok (.lconst i, 1)) (hv : Int64.ofNat (i : Nat) = v) (k : E g M d kc ks (pc + 1) ls (.long v :: st) n I J R Q) : E g M d kc ks pc ls (st) n I J R Q := by
  intro p l e Rm s m args below meth c H locs cells slots mc ms la Z
  exact lv_lconst Z.1.1 Z.1.2.1 hd hv (k p l e Rm s m args below meth c H locs cells slots mc ms la Z)
theorem E_iload_n {i : Fin 4} {x : Int32} (hd : decode M.2.1 pc = .ok (.iload_n i, 1)) (hv : lgt ls i.val = .int x) (k : E g M d kc ks (pc + 1) ls (.int x :: st) n I J R Q) : E g M d kc ks pc ls (st) n I J R Q := by
  intro p l e Rm s m args below meth c H locs cells slots mc ms la Z
  exact lv_iload_n Z.1.1 Z.1.2.1 hd rfl (Z.2.2.2.2.2.2.2.at hv rfl) (k p l e Rm s m args below meth c H locs cells slots mc ms la Z)
theorem E_iload {i : Nat} {x : Int32} (hd : decode M.2.1 pc = .ok (.iload i, 2)) (hv : lgt ls i = .int x) (k : E g M d kc ks (pc + 2) ls (.int x :: st) n I J R Q) : E g M d kc ks pc ls (st) n I J R Q := by
  intro p l e Rm s m args below meth c H locs cells slots mc ms la Z
  exact lv_iload Z.1.1 Z.1.2.1 hd (Z.2.2.2.2.2.2.2.at hv rfl) (k p l e Rm s m args below meth c H locs cells slots mc ms la Z)
theorem E_lload_n {i : Fin 4} {x : Int64} (hd : decode M.2.1 pc = .ok (.lload_n i, 1)) (hv : lgt ls i.val = .long x) (k : E g M d kc ks (pc + 1) ls (.long x :: st) n I J R Q) : E g M d kc ks pc ls (st) n I J R Q := by
  intro p l e Rm s m args below meth c H locs cells slots mc ms la Z
  exact lv_lload_n Z.1.1 Z.1.2.1 hd rfl (Z.2.2.2.2.2.2.2.at hv rfl) (k p l e Rm s m args below meth c H locs cells slots mc ms la Z)
theorem E_lload {i : Nat} {x : Int64} (hd : decode M.2.1 pc = .ok (.lload i, 2)) (hv : lgt ls i = .long x) (k : E g M d kc ks (pc + 2) ls (.long x :: st) n I J R Q) : E g M d kc ks pc ls (st) n I J R Q := by
  intro p l e Rm s m args below meth c H locs cells slots mc ms la Z
  exact lv_lload Z.1.1 Z.1.2.1 hd (Z.2.2.2.2.2.2.2.at hv rfl) (k p l e Rm s m args below meth c H locs cells slots mc ms la Z)
theorem E_aload_n {i : Fin 4} {x : Nat} (hd : decode M.2.1 pc = .ok (.aload_n i, 1)) (hv : lgt ls i.val = .ref x) (k : E g M d kc ks (pc + 1) ls (.ref x :: st) n I J R Q) : E g M d kc ks pc ls (st) n I J R Q := by
  intro p l e Rm s m args below meth c H locs cells slots mc ms la Z
  exact lv_aload_n Z.1.1 Z.1.2.1 hd rfl (Z.2.2.2.2.2.2.2.at hv rfl) (k p l e Rm s m args below meth c H locs cells slots mc ms la Z)
theorem E_aload {i : Nat} {x : Nat} (hd : decode M.2.1 pc = .ok (.aload i, 2)) (hv : lgt ls i = .ref x) (k : E g M d kc ks (pc + 2) ls (.ref x :: st) n I J R Q) : E g M d kc ks pc ls (st) n I J R Q := by
  intro p l e Rm s m args below meth c H locs cells slots mc ms la Z
  exact lv_aload Z.1.1 Z.1.2.1 hd (Z.2.2.2.2.2.2.2.at hv rfl) (k p l e Rm s m args below meth c H locs cells slots mc ms la Z)
theorem E_iadd {x y : Int32} (hd : decode M.2.1 pc = .ok (.iadd, 1)) (k : E g M d kc ks (pc + 1) ls (.int (x + y) :: st) n I J R Q) : E g M d kc ks pc ls (.int y :: .int x :: st) n I J R Q := by
  intro p l e Rm s m args below meth c H locs cells slots mc ms la Z
  exact lv_iadd Z.1.1 Z.1.2.1 hd (k p l e Rm s m args below meth c H locs cells slots mc ms la Z)
theorem E_isub {x y : Int32} (hd : decode M.2.1 pc = .ok (.isub, 1)) (k : E g M d kc ks (pc + 1) ls (.int (x - y) :: st) n I J R Q) : E g M d kc ks pc ls (.int y :: .int x :: st) n I J R Q := by
  intro p l e Rm s m args below meth c H locs cells slots mc ms la Z
  exact lv_isub Z.1.1 Z.1.2.1 hd (k p l e Rm s m args below meth c H locs cells slots mc ms la Z)
theorem E_imul {x y : Int32} (hd : decode M.2.1 pc = .ok (.imul, 1)) (k : E g M d kc ks (pc + 1) ls (.int (x * y) :: st) n I J R Q) : E g M d kc ks pc ls (.int y :: .int x :: st) n I J R Q := by
  intro p l e Rm s m args below meth c H locs cells slots mc ms la Z
  exact lv_imul Z.1.1 Z.1.2.1 hd (k p l e Rm s m args below meth c H locs cells slots mc ms la Z)
theorem E_iand {x y : Int32} (hd : decode M.2.1 pc = .ok (.iand, 1)) (k : E g M d kc ks (pc + 1) ls (.int (x &&& y) :: st) n I J R Q) : E g M d kc ks pc ls (.int y :: .int x :: st) n I J R Q := by
  intro p l e Rm s m args below meth c H locs cells slots mc ms la Z
  exact lv_iand Z.1.1 Z.1.2.1 hd (k p l e Rm s m args below meth c H locs cells slots mc ms la Z)
theorem E_ior {x y : Int32} (hd : decode M.2.1 pc = .ok (.ior, 1)) (k : E g M d kc ks (pc + 1) ls (.int (x ||| y) :: st) n I J R Q) : E g M d kc ks pc ls (.int y :: .int x :: st) n I J R Q := by
  intro p l e Rm s m args below meth c H locs cells slots mc ms la Z
  exact lv_ior Z.1.1 Z.1.2.1 hd (k p l e Rm s m args below meth c H locs cells slots mc ms la Z)
theorem E_ixor {x y : Int32} (hd : decode M.2.1 pc = .ok (.ixor, 1)) (k : E g M d kc ks (pc + 1) ls (.int (x ^^^ y) :: st) n I J R Q) : E g M d kc ks pc ls (.int y :: .int x :: st) n I J R Q := by
  intro p l e Rm s m args below meth c H locs cells slots mc ms la Z
  exact lv_ixor Z.1.1 Z.1.2.1 hd (k p l e Rm s m args below meth c H locs cells slots mc ms la Z)
theorem E_ishl {x y : Int32} (hd : decode M.2.1 pc = .ok (.ishl, 1)) (k : E g M d kc ks (pc + 1) ls (.int (x <<< (y &&& 31)) :: st) n I J R Q) : E g M d kc ks pc ls (.int y :: .int x :: st) n I J R Q := by
  intro p l e Rm s m args below meth c H locs cells slots mc ms la Z
  exact lv_ishl Z.1.1 Z.1.2.1 hd (k p l e Rm s m args below meth c H locs cells slots mc ms la Z)
theorem E_ishr {x y : Int32} (hd : decode M.2.1 pc = .ok (.ishr, 1)) (k : E g M d kc ks (pc + 1) ls (.int (x >>> (y &&& 31)) :: st) n I J R Q) : E g M d kc ks pc ls (.int y :: .int x :: st) n I J R Q := by
  intro p l e Rm s m args below meth c H locs cells slots mc ms la Z
  exact lv_ishr Z.1.1 Z.1.2.1 hd (k p l e Rm s m args below meth c H locs cells slots mc ms la Z)
theorem E_iushr {x y : Int32} (hd : decode M.2.1 pc = .ok (.iushr, 1)) (k : E g M d kc ks (pc + 1) ls (.int ((x.toUInt32 >>> (y.toUInt32 &&& Int32.toUInt32 31)).toInt32) :: st) n I J R Q) : E g M d kc ks pc ls (.int y :: .int x :: st) n I J R Q := by
  intro p l e Rm s m args below meth c H locs cells slots mc ms la Z
  exact lv_iushr Z.1.1 Z.1.2.1 hd rfl (k p l e Rm s m args below meth c H locs cells slots mc ms la Z)
theorem E_idiv {x y : Int32} (hd : decode M.2.1 pc = .ok (.idiv, 1)) (hne : ¬ y = 0) (k : E g M d kc ks (pc + 1) ls (.int (x / y) :: st) n I J R Q) : E g M d kc ks pc ls (.int y :: .int x :: st) n I J R Q := by
  intro p l e Rm s m args below meth c H locs cells slots mc ms la Z
  exact lv_idiv Z.1.1 Z.1.2.1 hd hne (k p l e Rm s m args below meth c H locs cells slots mc ms la Z)
theorem E_irem {x y : Int32} (hd : decode M.2.1 pc = .ok (.irem, 1)) (hne : ¬ y = 0) (k : E g M d kc ks (pc + 1) ls (.int (x - x / y * y) :: st) n I J R Q) : E g M d kc ks pc ls (.int y :: .int x :: st) n I J R Q := by
  intro p l e Rm s m args below meth c H locs cells slots mc ms la Z
  exact lv_irem Z.1.1 Z.1.2.1 hd hne (k p l e Rm s m args below meth c H locs cells slots mc ms la Z)
theorem E_ineg {x : Int32} (hd : decode M.2.1 pc = .ok (.ineg, 1)) (k : E g M d kc ks (pc + 1) ls (.int (-x) :: st) n I J R Q) : E g M d kc ks pc ls (.int x :: st) n I J R Q := by
  intro p l e Rm s m args below meth c H locs cells slots mc ms la Z
  exact lv_ineg Z.1.1 Z.1.2.1 hd (k p l e Rm s m args below meth c H locs cells slots mc ms la Z)
theorem E_ladd {x y : Int64} (hd : decode M.2.1 pc = .ok (.ladd, 1)) (k : E g M d kc ks (pc + 1) ls (.long (x + y) :: st) n I J R Q) : E g M d kc ks pc ls (.long y :: .long x :: st) n I J R Q := by
  intro p l e Rm s m args below meth c H locs cells slots mc ms la Z
  exact lv_ladd Z.1.1 Z.1.2.1 hd (k p l e Rm s m args below meth c H locs cells slots mc ms la Z)
theorem E_lmul {x y : Int64} (hd : decode M.2.1 pc = .ok (.lmul, 1)) (k : E g M d kc ks (pc + 1) ls (.long (x * y) :: st) n I J R Q) : E g M d kc ks pc ls (.long y :: .long x :: st) n I J R Q := by
  intro p l e Rm s m args below meth c H locs cells slots mc ms la Z
  exact lv_lmul Z.1.1 Z.1.2.1 hd (k p l e Rm s m args below meth c H locs cells slots mc ms la Z)
theorem E_i2l {x : Int32} (hd : decode M.2.1 pc = .ok (.i2l, 1)) (k : E g M d kc ks (pc + 1) ls (.long x.toInt64 :: st) n I J R Q) : E g M d kc ks pc ls (.int x :: st) n I J R Q := by
  intro p l e Rm s m args below meth c H locs cells slots mc ms la Z
  exact lv_i2l Z.1.1 Z.1.2.1 hd rfl (k p l e Rm s m args below meth c H locs cells slots mc ms la Z)
theorem E_i2b {x : Int32} (hd : decode M.2.1 pc = .ok (.i2b, 1)) (k : E g M d kc ks (pc + 1) ls (.int x.toInt8.toInt32 :: st) n I J R Q) : E g M d kc ks pc ls (.int x :: st) n I J R Q := by
  intro p l e Rm s m args below meth c H locs cells slots mc ms la Z
  exact lv_i2b Z.1.1 Z.1.2.1 hd rfl (k p l e Rm s m args below meth c H locs cells slots mc ms la Z)
theorem E_i2c {x : Int32} (hd : decode M.2.1 pc = .ok (.i2c, 1)) (k : E g M d kc ks (pc + 1) ls (.int (x.toUInt32 % 65536).toInt32 :: st) n I J R Q) : E g M d kc ks pc ls (.int x :: st) n I J R Q := by
  intro p l e Rm s m args below meth c H locs cells slots mc ms la Z
  exact lv_i2c Z.1.1 Z.1.2.1 hd rfl (k p l e Rm s m args below meth c H locs cells slots mc ms la Z)
theorem E_lcmp {x y : Int64} (hd : decode M.2.1 pc = .ok (.lcmp, 1)) (k : E g M d kc ks (pc + 1) ls (.int (lg_cmp x y) :: st) n I J R Q) : E g M d kc ks pc ls (.long y :: .long x :: st) n I J R Q := by
  intro p l e Rm s m args below meth c H locs cells slots mc ms la Z
  exact W.lcmp Z.1.1 Z.1.2.1 hd (k p l e Rm s m args below meth c H locs cells slots mc ms la Z)
theorem E_dup {v : Value} (hd : decode M.2.1 pc = .ok (.dup, 1)) (hv : v.category = 1) (k : E g M d kc ks (pc + 1) ls (v :: v :: st) n I J R Q) : E g M d kc ks pc ls (v :: st) n I J R Q := by
  intro p l e Rm s m args below meth c H locs cells slots mc ms la Z
  exact lv_dup Z.1.1 Z.1.2.1 hd ((tr_cat g v).trans hv) (k p l e Rm s m args below meth c H locs cells slots mc ms la Z)
theorem E_pop {v : Value} (hd : decode M.2.1 pc = .ok (.pop, 1)) (hv : v.category = 1) (k : E g M d kc ks (pc + 1) ls (st) n I J R Q) : E g M d kc ks pc ls (v :: st) n I J R Q := by
  intro p l e Rm s m args below meth c H locs cells slots mc ms la Z
  exact lv_pop Z.1.1 Z.1.2.1 hd ((tr_cat g v).trans hv) (k p l e Rm s m args below meth c H locs cells slots mc ms la Z)
theorem E_dup2 {v w : Value} (hd : decode M.2.1 pc = .ok (.dup2, 1)) (hv : v.category = 1) (hw : w.category = 1) (k : E g M d kc ks (pc + 1) ls (v :: w :: v :: w :: st) n I J R Q) : E g M d kc ks pc ls (v :: w :: st) n I J R Q := by
  intro p l e Rm s m args below meth c H locs cells slots mc ms la Z
  exact lv_dup2_11 Z.1.1 Z.1.2.1 hd ((tr_cat g v).trans hv) ((tr_cat g w).trans hw) (k p l e Rm s m args below meth c H locs cells slots mc ms la Z)
theorem E_istore_n {i : Fin 4} {x : Int32} (hd : decode M.2.1 pc = .ok (.istore_n i, 1)) (hn : i.val < M.2.2.1) (k : E g M d kc ks (pc + 1) (lst ls i.val (.int x)) st n I J R Q) : E g M d kc ks pc ls (.int x :: st) n I J R Q := by
  intro p l e Rm s m args below meth c H locs cells slots mc ms la Z
  exact lv_istore_n Z.1.1 Z.1.2.1 hd rfl Z.2.2.2.2.2.2.2.1 hn rfl (fun la' h' => k p l e Rm s m args below meth c H locs cells slots mc ms la' (Z.toLs (LOK.st1 (v := .int x) h' Z.2.2.2.2.2.2.2.2)))
theorem E_istore {i : Nat} {x : Int32} (hd : decode M.2.1 pc = .ok (.istore i, 2)) (hn : i < M.2.2.1) (k : E g M d kc ks (pc + 2) (lst ls i (.int x)) st n I J R Q) : E g M d kc ks pc ls (.int x :: st) n I J R Q := by
  intro p l e Rm s m args below meth c H locs cells slots mc ms la Z
  exact lv_istore Z.1.1 Z.1.2.1 hd Z.2.2.2.2.2.2.2.1 hn rfl (fun la' h' => k p l e Rm s m args below meth c H locs cells slots mc ms la' (Z.toLs (LOK.st1 (v := .int x) h' Z.2.2.2.2.2.2.2.2)))
theorem E_astore_n {i : Fin 4} {x : Nat} (hd : decode M.2.1 pc = .ok (.astore_n i, 1)) (hn : i.val < M.2.2.1) (k : E g M d kc ks (pc + 1) (lst ls i.val (.ref x)) st n I J R Q) : E g M d kc ks pc ls (.ref x :: st) n I J R Q := by
  intro p l e Rm s m args below meth c H locs cells slots mc ms la Z
  exact lv_astore_n Z.1.1 Z.1.2.1 hd rfl Z.2.2.2.2.2.2.2.1 hn rfl (fun la' h' => k p l e Rm s m args below meth c H locs cells slots mc ms la' (Z.toLs (LOK.st1 (v := .ref x) h' Z.2.2.2.2.2.2.2.2)))
theorem E_astore {i : Nat} {x : Nat} (hd : decode M.2.1 pc = .ok (.astore i, 2)) (hn : i < M.2.2.1) (k : E g M d kc ks (pc + 2) (lst ls i (.ref x)) st n I J R Q) : E g M d kc ks pc ls (.ref x :: st) n I J R Q := by
  intro p l e Rm s m args below meth c H locs cells slots mc ms la Z
  exact lv_astore Z.1.1 Z.1.2.1 hd Z.2.2.2.2.2.2.2.1 hn rfl (fun la' h' => k p l e Rm s m args below meth c H locs cells slots mc ms la' (Z.toLs (LOK.st1 (v := .ref x) h' Z.2.2.2.2.2.2.2.2)))
theorem E_lstore_n {i : Fin 4} {x : Int64} (hd : decode M.2.1 pc = .ok (.lstore_n i, 1)) (hn : i.val + 1 < M.2.2.1) (k : E g M d kc ks (pc + 1) (lsl ls i.val (.long x)) st n I J R Q) : E g M d kc ks pc ls (.long x :: st) n I J R Q := by
  intro p l e Rm s m args below meth c H locs cells slots mc ms la Z
  exact lv_lstore_n Z.1.1 Z.1.2.1 hd rfl Z.2.2.2.2.2.2.2.1 hn rfl (fun la' h' => k p l e Rm s m args below meth c H locs cells slots mc ms la' (Z.toLs (LOK.st2 (v := .long x) h' Z.2.2.2.2.2.2.2.2)))
theorem E_lstore {i : Nat} {x : Int64} (hd : decode M.2.1 pc = .ok (.lstore i, 2)) (hn : i + 1 < M.2.2.1) (k : E g M d kc ks (pc + 2) (lsl ls i (.long x)) st n I J R Q) : E g M d kc ks pc ls (.long x :: st) n I J R Q := by
  intro p l e Rm s m args below meth c H locs cells slots mc ms la Z
  exact lv_lstore Z.1.1 Z.1.2.1 hd Z.2.2.2.2.2.2.2.1 hn rfl (fun la' h' => k p l e Rm s m args below meth c H locs cells slots mc ms la' (Z.toLs (LOK.st2 (v := .long x) h' Z.2.2.2.2.2.2.2.2)))
theorem E_if_eq {x : Int32} {off : Int} {tgt : Nat} (hd : decode M.2.1 pc = .ok (.ifCond .eq off, 3)) (ht : (pc : Int) + off = (tgt : Int)) (kt : x = 0 → E g M d kc ks tgt ls st n I J R Q) (kf : ¬ x = 0 → E g M d kc ks (pc + 3) ls st n I J R Q) : E g M d kc ks pc ls (.int x :: st) n I J R Q := by
  intro p l e Rm s m args below meth c H locs cells slots mc ms la Z
  exact lv_if_eq Z.1.1 Z.1.2.1 hd ht (fun q => kt q p l e Rm s m args below meth c H locs cells slots mc ms la Z) (fun q => kf q p l e Rm s m args below meth c H locs cells slots mc ms la Z)
theorem E_icmp_eq {x y : Int32} {off : Int} {tgt : Nat} (hd : decode M.2.1 pc = .ok (.if_icmp .eq off, 3)) (ht : (pc : Int) + off = (tgt : Int)) (kt : x = y → E g M d kc ks tgt ls st n I J R Q) (kf : ¬ x = y → E g M d kc ks (pc + 3) ls st n I J R Q) : E g M d kc ks pc ls (.int y :: .int x :: st) n I J R Q := by
  intro p l e Rm s m args below meth c H locs cells slots mc ms la Z
  exact lv_icmp_eq Z.1.1 Z.1.2.1 hd ht (fun q => kt q p l e Rm s m args below meth c H locs cells slots mc ms la Z) (fun q => kf q p l e Rm s m args below meth c H locs cells slots mc ms la Z)
theorem E_if_ne {x : Int32} {off : Int} {tgt : Nat} (hd : decode M.2.1 pc = .ok (.ifCond .ne off, 3)) (ht : (pc : Int) + off = (tgt : Int)) (kt : ¬ x = 0 → E g M d kc ks tgt ls st n I J R Q) (kf : x = 0 → E g M d kc ks (pc + 3) ls st n I J R Q) : E g M d kc ks pc ls (.int x :: st) n I J R Q := by
  intro p l e Rm s m args below meth c H locs cells slots mc ms la Z
  exact lv_if_ne Z.1.1 Z.1.2.1 hd ht (fun q => kt q p l e Rm s m args below meth c H locs cells slots mc ms la Z) (fun q => kf q p l e Rm s m args below meth c H locs cells slots mc ms la Z)
theorem E_icmp_ne {x y : Int32} {off : Int} {tgt : Nat} (hd : decode M.2.1 pc = .ok (.if_icmp .ne off, 3)) (ht : (pc : Int) + off = (tgt : Int)) (kt : ¬ x = y → E g M d kc ks tgt ls st n I J R Q) (kf : x = y → E g M d kc ks (pc + 3) ls st n I J R Q) : E g M d kc ks pc ls (.int y :: .int x :: st) n I J R Q := by
  intro p l e Rm s m args below meth c H locs cells slots mc ms la Z
  exact lv_icmp_ne Z.1.1 Z.1.2.1 hd ht (fun q => kt q p l e Rm s m args below meth c H locs cells slots mc ms la Z) (fun q => kf q p l e Rm s m args below meth c H locs cells slots mc ms la Z)
theorem E_if_lt {x : Int32} {off : Int} {tgt : Nat} (hd : decode M.2.1 pc = .ok (.ifCond .lt off, 3)) (ht : (pc : Int) + off = (tgt : Int)) (kt : x < 0 → E g M d kc ks tgt ls st n I J R Q) (kf : ¬ x < 0 → E g M d kc ks (pc + 3) ls st n I J R Q) : E g M d kc ks pc ls (.int x :: st) n I J R Q := by
  intro p l e Rm s m args below meth c H locs cells slots mc ms la Z
  exact lv_if_lt Z.1.1 Z.1.2.1 hd ht (fun q => kt q p l e Rm s m args below meth c H locs cells slots mc ms la Z) (fun q => kf q p l e Rm s m args below meth c H locs cells slots mc ms la Z)
theorem E_icmp_lt {x y : Int32} {off : Int} {tgt : Nat} (hd : decode M.2.1 pc = .ok (.if_icmp .lt off, 3)) (ht : (pc : Int) + off = (tgt : Int)) (kt : x < y → E g M d kc ks tgt ls st n I J R Q) (kf : ¬ x < y → E g M d kc ks (pc + 3) ls st n I J R Q) : E g M d kc ks pc ls (.int y :: .int x :: st) n I J R Q := by
  intro p l e Rm s m args below meth c H locs cells slots mc ms la Z
  exact lv_icmp_lt Z.1.1 Z.1.2.1 hd ht (fun q => kt q p l e Rm s m args below meth c H locs cells slots mc ms la Z) (fun q => kf q p l e Rm s m args below meth c H locs cells slots mc ms la Z)
theorem E_if_ge {x : Int32} {off : Int} {tgt : Nat} (hd : decode M.2.1 pc = .ok (.ifCond .ge off, 3)) (ht : (pc : Int) + off = (tgt : Int)) (kt : 0 ≤ x → E g M d kc ks tgt ls st n I J R Q) (kf : ¬ 0 ≤ x → E g M d kc ks (pc + 3) ls st n I J R Q) : E g M d kc ks pc ls (.int x :: st) n I J R Q := by
  intro p l e Rm s m args below meth c H locs cells slots mc ms la Z
  exact lv_if_ge Z.1.1 Z.1.2.1 hd ht (fun q => kt q p l e Rm s m args below meth c H locs cells slots mc ms la Z) (fun q => kf q p l e Rm s m args below meth c H locs cells slots mc ms la Z)
theorem E_icmp_ge {x y : Int32} {off : Int} {tgt : Nat} (hd : decode M.2.1 pc = .ok (.if_icmp .ge off, 3)) (ht : (pc : Int) + off = (tgt : Int)) (kt : y ≤ x → E g M d kc ks tgt ls st n I J R Q) (kf : ¬ y ≤ x → E g M d kc ks (pc + 3) ls st n I J R Q) : E g M d kc ks pc ls (.int y :: .int x :: st) n I J R Q := by
  intro p l e Rm s m args below meth c H locs cells slots mc ms la Z
  exact lv_icmp_ge Z.1.1 Z.1.2.1 hd ht (fun q => kt q p l e Rm s m args below meth c H locs cells slots mc ms la Z) (fun q => kf q p l e Rm s m args below meth c H locs cells slots mc ms la Z)
theorem E_if_gt {x : Int32} {off : Int} {tgt : Nat} (hd : decode M.2.1 pc = .ok (.ifCond .gt off, 3)) (ht : (pc : Int) + off = (tgt : Int)) (kt : 0 < x → E g M d kc ks tgt ls st n I J R Q) (kf : ¬ 0 < x → E g M d kc ks (pc + 3) ls st n I J R Q) : E g M d kc ks pc ls (.int x :: st) n I J R Q := by
  intro p l e Rm s m args below meth c H locs cells slots mc ms la Z
  exact lv_if_gt Z.1.1 Z.1.2.1 hd ht (fun q => kt q p l e Rm s m args below meth c H locs cells slots mc ms la Z) (fun q => kf q p l e Rm s m args below meth c H locs cells slots mc ms la Z)
theorem E_icmp_gt {x y : Int32} {off : Int} {tgt : Nat} (hd : decode M.2.1 pc = .ok (.if_icmp .gt off, 3)) (ht : (pc : Int) + off = (tgt : Int)) (kt : y < x → E g M d kc ks tgt ls st n I J R Q) (kf : ¬ y < x → E g M d kc ks (pc + 3) ls st n I J R Q) : E g M d kc ks pc ls (.int y :: .int x :: st) n I J R Q := by
  intro p l e Rm s m args below meth c H locs cells slots mc ms la Z
  exact lv_icmp_gt Z.1.1 Z.1.2.1 hd ht (fun q => kt q p l e Rm s m args below meth c H locs cells slots mc ms la Z) (fun q => kf q p l e Rm s m args below meth c H locs cells slots mc ms la Z)
theorem E_if_le {x : Int32} {off : Int} {tgt : Nat} (hd : decode M.2.1 pc = .ok (.ifCond .le off, 3)) (ht : (pc : Int) + off = (tgt : Int)) (kt : x ≤ 0 → E g M d kc ks tgt ls st n I J R Q) (kf : ¬ x ≤ 0 → E g M d kc ks (pc + 3) ls st n I J R Q) : E g M d kc ks pc ls (.int x :: st) n I J R Q := by
  intro p l e Rm s m args below meth c H locs cells slots mc ms la Z
  exact lv_if_le Z.1.1 Z.1.2.1 hd ht (fun q => kt q p l e Rm s m args below meth c H locs cells slots mc ms la Z) (fun q => kf q p l e Rm s m args below meth c H locs cells slots mc ms la Z)
theorem E_icmp_le {x y : Int32} {off : Int} {tgt : Nat} (hd : decode M.2.1 pc = .ok (.if_icmp .le off, 3)) (ht : (pc : Int) + off = (tgt : Int)) (kt : x ≤ y → E g M d kc ks tgt ls st n I J R Q) (kf : ¬ x ≤ y → E g M d kc ks (pc + 3) ls st n I J R Q) : E g M d kc ks pc ls (.int y :: .int x :: st) n I J R Q := by
  intro p l e Rm s m args below meth c H locs cells slots mc ms la Z
  exact lv_icmp_le Z.1.1 Z.1.2.1 hd ht (fun q => kt q p l e Rm s m args below meth c H locs cells slots mc ms la Z) (fun q => kf q p l e Rm s m args below meth c H locs cells slots mc ms la Z)
theorem E_goto {off : Int} {tgt : Nat} (hd : decode M.2.1 pc = .ok (.goto off, 3)) (ht : (pc : Int) + off = (tgt : Int)) (k : E g M d kc ks tgt ls st n I J R Q) : E g M d kc ks pc ls st n I J R Q := by
  intro p l e Rm s m args below meth c H locs cells slots mc ms la Z
  exact lv_goto Z.1.1 Z.1.2.1 hd ht (k p l e Rm s m args below meth c H locs cells slots mc ms la Z)
theorem E_tin {dflt lo hi off : Int} {offs : Array Int} {len tgt : Nat} {x : Int32} (hd : decode M.2.1 pc = .ok (.tableswitch dflt lo hi offs, len)) (h1 : ¬ x.toInt < lo) (h2 : ¬ hi < x.toInt) (ho : offs[(x.toInt - lo).toNat]? = some off) (ht : (pc : Int) + off = (tgt : Int)) (k : E g M d kc ks tgt ls st n I J R Q) : E g M d kc ks pc ls (.int x :: st) n I J R Q := by
  intro p l e Rm s m args below meth c H locs cells slots mc ms la Z
  exact lv_tableIn Z.1.1 Z.1.2.1 hd h1 h2 ho ht (k p l e Rm s m args below meth c H locs cells slots mc ms la Z)
theorem E_tout {dflt lo hi : Int} {offs : Array Int} {len tgt : Nat} {x : Int32} (hd : decode M.2.1 pc = .ok (.tableswitch dflt lo hi offs, len)) (h : x.toInt < lo ∨ hi < x.toInt) (ht : (pc : Int) + dflt = (tgt : Int)) (k : E g M d kc ks tgt ls st n I J R Q) : E g M d kc ks pc ls (.int x :: st) n I J R Q := by
  intro p l e Rm s m args below meth c H locs cells slots mc ms la Z
  exact lv_tableOut Z.1.1 Z.1.2.1 hd h ht (k p l e Rm s m args below meth c H locs cells slots mc ms la Z)
theorem E_look {dflt off : Int} {ps : Array (Int × Int)} {len tgt : Nat} {x : Int32} (hd : decode M.2.1 pc = .ok (.lookupswitch dflt ps, len)) (hp : (ps.toList.zip (ps.toList.drop 1)).all (fun (a, next) => a.1 < next.1) = true) (ho : Op.lookupswitch.offset ps.toList dflt x.toInt = off) (ht : (pc : Int) + off = (tgt : Int)) (k : E g M d kc ks tgt ls st n I J R Q) : E g M d kc ks pc ls (.int x :: st) n I J R Q := by
  intro p l e Rm s m args below meth c H locs cells slots mc ms la Z
  exact lv_lookup Z.1.1 Z.1.2.1 hd hp ho ht (k p l e Rm s m args below meth c H locs cells slots mc ms la Z)
theorem E_ldc {i : Nat} (v : Int32) (hd : decode M.2.1 pc = .ok (.ldc i, 2)) (hw : Cond.constant M.1.cls i v ∈ tG) (k : E g M d kc ks (pc + 2) ls (.int v :: st) n I J R Q) : E g M d kc ks pc ls (st) n I J R Q := by
  intro p l e Rm s m args below meth c H locs cells slots mc ms la Z
  exact lv_ldc Z.1.1 Z.1.2.1 Z.1.2.2.2.2.1 (Z.1.2.2.2.2.2.1 _ hw) hd (k p l e Rm s m args below meth c H locs cells slots mc ms la Z)
theorem E_ldcw {i : Nat} (v : Int32) (hd : decode M.2.1 pc = .ok (.ldc_w i, 3)) (hw : Cond.constant M.1.cls i v ∈ tG) (k : E g M d kc ks (pc + 3) ls (.int v :: st) n I J R Q) : E g M d kc ks pc ls (st) n I J R Q := by
  intro p l e Rm s m args below meth c H locs cells slots mc ms la Z
  exact lv_ldcw Z.1.1 Z.1.2.1 Z.1.2.2.2.2.1 (Z.1.2.2.2.2.2.1 _ hw) hd (k p l e Rm s m args below meth c H locs cells slots mc ms la Z)
theorem E_ldc2 {i : Nat} (v : Int64) (hd : decode M.2.1 pc = .ok (.ldc2_w i, 3)) (hw : Cond.constantLong M.1.cls i v ∈ tG) (k : E g M d kc ks (pc + 3) ls (.long v :: st) n I J R Q) : E g M d kc ks pc ls (st) n I J R Q := by
  intro p l e Rm s m args below meth c H locs cells slots mc ms la Z
  exact lv_ldc2 Z.1.1 Z.1.2.1 Z.1.2.2.2.2.1 (Z.1.2.2.2.2.2.1 _ hw) hd (k p l e Rm s m args below meth c H locs cells slots mc ms la Z)
theorem E_iinc {i : Nat} {z : Int} {x : Int32} (hd : decode M.2.1 pc = .ok (.iinc i z, 3)) (hv : lgt ls i = .int x) (k : E g M d kc ks (pc + 3) (lst ls i (.int (x + Int32.ofInt z))) st n I J R Q) : E g M d kc ks pc ls st n I J R Q := by
  intro p l e Rm s m args below meth c H locs cells slots mc ms la Z
  have L := Z.2.2.2.2.2.2.2
  have hm : (i, Value.int x) ∈ lprs g ls 0 := by
    have hl : i < ls.length := by
      rcases Nat.lt_or_ge i ls.length with q | q
      · exact q
      · exfalso
        rw [lgt_out ls i q] at hv
        cases hv
    exact lprs_mem.mpr ⟨Nat.zero_le _, hl, by rw [Nat.sub_zero, hv]; rfl, by rw [Nat.sub_zero, hv]; rfl⟩
  obtain ⟨j, hj⟩ := List.getElem?_of_mem hm
  have hn : i < M.2.2.1 := by
    have := (lprs_mem.mp hm).2.1
    have := L.2
    omega
  exact lv_iinc Z.1.1 Z.1.2.1 hd L.1 hj rfl hn rfl (fun la' h' => k p l e Rm s m args below meth c H locs cells slots mc ms la' (Z.toLs (LOK.st1 (v := .int (x + Int32.ofInt z)) h' L.2)))
end ER
