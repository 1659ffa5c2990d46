/-! ===== the law's conditions: a stack comes to the same ===== -/
/-- two sums compared -/
def cpL (c : Nat → Nat) (k : Nat) (q : TS) : PR := bnd (smL c k q) (fun r => if cmL (c r.1) = 0 then .inl (flt 1 r.1) else bnd (smL c k (r.1 + 1, r.2)) (fun r2 => .inr (emL (cmL (c r.1)) r2)))
def epR : Nat → WK → TS → Nat × WK × TS
  | k, [], q => (k, [], q)
  | k, e :: K, q => if e.1 = 10 then epR (k + 1) K (emL 10 q) else (k, e :: K, q)
def ldR (al : Bool) : WK → Nat → CDE → WK × CDE
  | [], _, cd => ([], cd)
  | e :: K, s, cd => if e.1 = 11 ∨ (al = true ∧ e.1 = 12) then ldR al K s (cdU cd e.2 ((cd e.2).1, s)) else (e :: K, cd)
def n10 : WK → Nat
  | [] => 0
  | e :: K => (if e.1 = 10 then 1 else 0) + n10 K
def okK (s : Nat) (K : WK) : Prop := ∀ e, e ∈ K → (((e.1 = 10 ∨ e.1 = 13) ∧ e.2 = 0) ∨ ((e.1 = 11 ∨ e.1 = 12) ∧ e.2 < s))
def ivK (L : Nat) (K : WK) (q : TS) : Prop := q.1 ≤ L ∧ q.2.1 + n10 K ≤ q.1 ∧ K.length ≤ q.1 ∧ okK q.2.1 K ∧ CDok q.2.2 q.2.1
abbrev AEp (AF : Nat → WK → TS → Prop) (k : Nat) (K : WK) (q : TS) : Prop := AF (epR k K q).1 (epR k K q).2.1 (epR k K q).2.2
/-- what the heads of the reference's loop owe: LH before a test, AF behind one -/
def CDC (c : Nat → Nat) (L : Nat) (FL : Int32 → Prop) (OK : TS → Prop) (LH AF : Nat → WK → TS → Prop) : Prop :=
  (∀ K q, ivK L K q → (c q.1 = 33 ∨ c q.1 = 40) → FL (flt 5 q.1) → LH 0 K q) ∧
  (∀ k K q, ivK L K q → (c q.1 = 33 ∨ c q.1 = 40) → LH k ((if c q.1 = 33 then 10 else 13, 0) :: K) (q.1 + 1, q.2) → LH (k + 1) K q) ∧
  (∀ k K q, k ≤ 5 → ivK L K q → ¬ (c q.1 = 33 ∨ c q.1 = 40) → oP FL (fun r => AEp AF k K r) (cpL c k q) → LH k K q) ∧
  (∀ k K q K' cd', ivK L K q → c q.1 = 41 → ldR true K q.2.1 q.2.2 = ((13, 0) :: K', cd') → (K' = [] → OK (q.1 + 1, q.2.1, cd')) → (¬ K' = [] → AEp AF (k + 1) K' (q.1 + 1, q.2.1, cd')) → AF k K q) ∧
  (∀ k K q, ivK L K q → ¬ c q.1 = 41 → ¬ c q.1 = 124 → ¬ c q.1 = 38 → FL (flt 1 q.1) → AF k K q) ∧
  (∀ k K q K' cd', ivK L K q → c q.1 = 124 → ldR true K q.2.1 q.2.2 = (K', cd') → LH k ((12, q.2.1) :: K') (q.1 + 1, q.2.1 + 1, cdU cd' q.2.1 (12, 0)) → AF k K q) ∧
  ∀ k K q K' cd', ivK L K q → c q.1 = 38 → ldR false K q.2.1 q.2.2 = (K', cd') → LH k ((11, q.2.1) :: K') (q.1 + 1, q.2.1 + 1, cdU cd' q.2.1 (11, 0)) → AF k K q
/-- a C's own stack: an & and a | that wait -/
def lvC (a w : Nat) (rest : WK) : WK := if a = 0 then (if w = 0 then rest else (12, w - 1) :: rest) else (11, a - 1) :: (if w = 0 then rest else (12, w - 1) :: rest)
theorem lvC_00 (rest : WK) : lvC 0 0 rest = rest := rfl
theorem ld_stop {al : Bool} {K : WK} {s : Nat} {cd : CDE} : ldR al ((13, 0) :: K) s cd = ((13, 0) :: K, cd) := if_neg (by intro z; rcases z with z | ⟨_, z⟩ <;> revert z <;> decide)
theorem ld_all {a w : Nat} {K : WK} {s : Nat} {cd : CDE} : ldR true (lvC a w ((13, 0) :: K)) s cd = ((13, 0) :: K, ldL w s (ldL a s cd)) := by
  have one : ∀ cd : CDE, ldR true (if w = 0 then (13, 0) :: K else (12, w - 1) :: (13, 0) :: K) s cd = ((13, 0) :: K, ldL w s cd) := fun cd => by
    unfold ldL
    by_cases e : w = 0
    · rw [if_pos e, if_pos e, ld_stop]
    · rw [if_neg e, if_neg e]
      show (if (12 : Nat) = 11 ∨ (true = true ∧ (12 : Nat) = 12) then ldR true ((13, 0) :: K) s (cdU cd (w - 1) ((cd (w - 1)).1, s)) else _) = _
      rw [if_pos (Or.inr ⟨rfl, rfl⟩), ld_stop]
  unfold lvC
  by_cases e : a = 0
  · rw [if_pos e, e]
    exact one cd
  · rw [if_neg e]
    show (if (11 : Nat) = 11 ∨ (true = true ∧ (11 : Nat) = 12) then ldR true (if w = 0 then (13, 0) :: K else (12, w - 1) :: (13, 0) :: K) s (cdU cd (a - 1) ((cd (a - 1)).1, s)) else _) = _
    rw [if_pos (Or.inl rfl), one, show ldL a s cd = cdU cd (a - 1) ((cd (a - 1)).1, s) from if_neg e]
theorem ld_and {a w : Nat} {K : WK} {s : Nat} {cd : CDE} : ldR false (lvC a w ((13, 0) :: K)) s cd = (lvC 0 w ((13, 0) :: K), ldL a s cd) := by
  have one : ∀ cd : CDE, ldR false (if w = 0 then (13, 0) :: K else (12, w - 1) :: (13, 0) :: K) s cd = (if w = 0 then (13, 0) :: K else (12, w - 1) :: (13, 0) :: K, cd) := fun cd => by
    by_cases e : w = 0
    · rw [if_pos e, ld_stop]
    · rw [if_neg e]
      exact if_neg (fun z => z.elim (fun y => absurd y (by decide : ¬ (12 : Nat) = 11)) (fun y => absurd y.1 (by decide)))
  have e0 : lvC 0 w ((13, 0) :: K) = if w = 0 then (13, 0) :: K else (12, w - 1) :: (13, 0) :: K := if_pos rfl
  rw [e0]
  unfold lvC
  by_cases e : a = 0
  · rw [if_pos e, e]
    exact one cd
  · rw [if_neg e]
    show (if (11 : Nat) = 11 ∨ (false = true ∧ (11 : Nat) = 12) then ldR false (if w = 0 then (13, 0) :: K else (12, w - 1) :: (13, 0) :: K) s (cdU cd (a - 1) ((cd (a - 1)).1, s)) else _) = _
    rw [if_pos (Or.inl rfl), one, show ldL a s cd = cdU cd (a - 1) ((cd (a - 1)).1, s) from if_neg e]
theorem ep_0 {k : Nat} {e : Nat × Nat} {K : WK} {q : TS} (h : ¬ e.1 = 10) : epR k (e :: K) q = (k, e :: K, q) := if_neg h
theorem lvC_len (a w : Nat) (rest : WK) : (lvC a w rest).length = wz a + wz w + rest.length ∧ n10 (lvC a w rest) = n10 rest := by
  have n1 : ∀ x : Nat, ∀ K : WK, n10 ((11, x) :: K) = n10 K := fun x K => Nat.zero_add _
  have n2 : ∀ x : Nat, ∀ K : WK, n10 ((12, x) :: K) = n10 K := fun x K => Nat.zero_add _
  unfold lvC wz
  by_cases e : a = 0 <;> by_cases f : w = 0
  · rw [if_pos e, if_pos f, if_pos e, if_pos f]; exact ⟨by omega, rfl⟩
  · rw [if_pos e, if_neg f, if_pos e, if_neg f]; exact ⟨by show rest.length + 1 = _; omega, n2 _ _⟩
  · rw [if_neg e, if_pos f, if_neg e, if_pos f]; exact ⟨by show rest.length + 1 = _; omega, n1 _ _⟩
  · rw [if_neg e, if_neg f, if_neg e, if_neg f]; exact ⟨by show rest.length + 1 + 1 = _; omega, (n1 _ _).trans (n2 _ _)⟩
theorem okK.up {s s2 : Nat} {K : WK} (h : okK s K) (hs : s ≤ s2) : okK s2 K := fun e he => by
  rcases h e he with z | z
  · exact Or.inl z
  · exact Or.inr ⟨z.1, by omega⟩
theorem okK.cons {s : Nat} {e : Nat × Nat} {K : WK} (h : okK s K) (he : ((e.1 = 10 ∨ e.1 = 13) ∧ e.2 = 0) ∨ ((e.1 = 11 ∨ e.1 = 12) ∧ e.2 < s)) : okK s (e :: K) := fun x hx => by
  rcases List.mem_cons.mp hx with rfl | hx
  · exact he
  · exact h x hx
theorem okK.tl {s : Nat} {e : Nat × Nat} {K : WK} (h : okK s (e :: K)) : okK s K := fun x hx => h x (List.mem_cons_of_mem _ hx)
theorem lvC_ok {a w s : Nat} {K : WK} (h : okK s ((13, 0) :: K)) (ha : a ≤ s) (hw : w ≤ s) : okK s (lvC a w ((13, 0) :: K)) := by
  have one : okK s (if w = 0 then (13, 0) :: K else (12, w - 1) :: (13, 0) :: K) := by
    by_cases f : w = 0
    · rw [if_pos f]; exact h
    · rw [if_neg f]; exact h.cons (Or.inr ⟨Or.inr rfl, by show w - 1 < s; omega⟩)
  unfold lvC
  by_cases f : a = 0
  · rw [if_pos f]; exact one
  · rw [if_neg f]; exact one.cons (Or.inr ⟨Or.inl rfl, by show a - 1 < s; omega⟩)
theorem CDok.ld {s w x : Nat} {cd : CDE} (h : CDok cd s) (hx : x < 1048576) : CDok (ldL w x cd) s := fun i hi => by
  by_cases e : i + 1 = w
  · have : ldL w x cd i = ((cd i).1, x) := by
      subst e
      have := ldL_s (w := i + 1) (s := x) (cd := cd) (Nat.succ_ne_zero i)
      rw [Nat.add_sub_cancel] at this
      exact this
    rw [this]
    exact ⟨(h i hi).1, hx⟩
  · rw [ldL_n e]
    exact h i hi
theorem CDok.sg {s x v : Nat} {cd : CDE} (h : CDok cd s) (hx : x ≤ 12) (hv : v < 1048576) : CDok (cdU cd s (x, v)) (s + 1) := fun i hi => by
  by_cases e : i = s
  · subst e
    rw [cdU_s]
    exact ⟨hx, hv⟩
  · rw [cdU_n e]
    exact h i (by omega)
theorem CDok.gw {L a b : Nat} {q r : TS} (h : CDok q.2.2 q.2.1) (g : GW L a b q r) : CDok r.2.2 r.2.1 := fun i hi => by
  by_cases e : i < q.2.1
  · rw [g.2.2.2.2.1 i e]
    exact h i e
  · exact g.2.2.2.2.2 i (by omega) hi
/-- what a test leaves holds -/
theorem ivK.gw {L : Nat} {K : WK} {q r : TS} (h : ivK L K q) (g : GW L 0 0 q r) : ivK L K r := by
  obtain ⟨h1, h2, h3, h4, h5⟩ := h
  have g1 := g.1
  have g4 := g.2.2.2.1
  exact ⟨g.2.1, by omega, by omega, h4.up g.2.2.1, h5.gw g⟩
section PCondR
variable {t c : Nat → Nat} {L : Nat} {FL : Int32 → Prop} {OK : TS → Prop} {LH AF : Nat → WK → TS → Prop}
theorem cl_R (hc : okc t L c) (hL : L ≤ 240) (H : CDC c L FL OK LH AF) {k : Nat} {K : WK} (hk : k ≤ 6) (T : ∀ K q, ¬ K = [] → ivK L K q → oP FL (fun r => AEp AF k K r) (tkL c k q) → LH k K q) : ∀ (e w a : Nat) (q : TS), ivK L (lvC a w ((13, 0) :: K)) q → a ≤ q.2.1 → w ≤ q.2.1 → L ≤ e + q.1 → oP FL (fun r => oP FL (fun r2 => (K = [] → OK r2) ∧ (¬ K = [] → AEp AF (k + 1) K r2)) (psL c 41 r)) (clL c (tkL c k) e w (q.1, q.2.1, ldL a q.2.1 q.2.2)) → AF k (lvC a w ((13, 0) :: K)) q := by
  have ends : ∀ (w a : Nat) (q : TS), ivK L (lvC a w ((13, 0) :: K)) q → ¬ c q.1 = 124 → ¬ c q.1 = 38 → oP FL (fun r2 => (K = [] → OK r2) ∧ (¬ K = [] → AEp AF (k + 1) K r2)) (psL c 41 (q.1, q.2.1, ldL w q.2.1 (ldL a q.2.1 q.2.2))) → AF k (lvC a w ((13, 0) :: K)) q := by
    intro w a q hi c1 c2 h
    unfold psL at h
    by_cases c3 : c q.1 = 41
    · rw [if_pos (show c (q.1, q.2.1, ldL w q.2.1 (ldL a q.2.1 q.2.2)).1 = 41 from c3)] at h
      exact H.2.2.2.1 k _ q K _ hi c3 ld_all h.1 h.2
    · rw [if_neg (show ¬ c (q.1, q.2.1, ldL w q.2.1 (ldL a q.2.1 q.2.2)).1 = 41 from c3)] at h
      exact H.2.2.2.2.1 k _ q hi c3 c1 c2 h
  intro e
  induction e with
  | zero =>
    intro w a q hi ha hw hf h
    rcases hc.at q.1 with z | z
    · omega
    · exact ends w a q hi (by omega) (by omega) h
  | succ e ih =>
    intro w a q hi ha hw hf h
    have hi0 := id hi
    obtain ⟨i1, i2, i3, i4, i5⟩ := hi0
    obtain ⟨l1, l2⟩ := lvC_len a w ((13, 0) :: K)
    rw [l2] at i2
    rw [l1] at i3
    have i3 : wz a + wz w + (K.length + 1) ≤ q.1 := i3
    have nK : n10 ((13, 0) :: K) = n10 K := Nat.zero_add _
    have n1 : ∀ x : Nat, ∀ K : WK, n10 ((11, x) :: K) = n10 K := fun x K => Nat.zero_add _
    have n2 : ∀ x : Nat, ∀ K : WK, n10 ((12, x) :: K) = n10 K := fun x K => Nat.zero_add _
    have oK : okK q.2.1 ((13, 0) :: K) := by
      intro x hx
      apply i4
      unfold lvC
      by_cases f : a = 0 <;> by_cases g : w = 0
      · rw [if_pos f, if_pos g]; exact hx
      · rw [if_pos f, if_neg g]; exact List.mem_cons_of_mem _ hx
      · rw [if_neg f, if_pos g]; exact List.mem_cons_of_mem _ hx
      · rw [if_neg f, if_neg g]; exact List.mem_cons_of_mem _ (List.mem_cons_of_mem _ hx)
    unfold clL at h
    by_cases c1 : c q.1 = 124
    · rw [if_pos (show c (q.1, q.2.1, ldL a q.2.1 q.2.2).1 = 124 from c1)] at h
      have hp := hc.lt (p := q.1) (by omega)
      refine H.2.2.2.2.2.1 k _ q _ _ hi c1 ld_all ?_
      have iv1 : ivK L ((12, q.2.1) :: (13, 0) :: K) (q.1 + 1, q.2.1 + 1, cdU (ldL w q.2.1 (ldL a q.2.1 q.2.2)) q.2.1 (12, 0)) := ⟨hp, by rw [n2]; show q.2.1 + 1 + n10 ((13, 0) :: K) ≤ q.1 + 1; omega, by show K.length + 1 + 1 ≤ q.1 + 1; omega, (oK.up (Nat.le_succ _)).cons (Or.inr ⟨Or.inr rfl, Nat.lt_succ_self _⟩), ((i5.ld (by omega)).ld (by omega)).sg (by decide) (by decide)⟩
      refine T _ _ (List.cons_ne_nil _ _) iv1 ?_
      refine oP_m (oP_b h) (fun r hr h2 => ?_)
      obtain ⟨g1, g2, g3, _⟩ := tk_ok hc hL k hk (q.1 + 1, q.2.1 + 1, cdU (ldL w q.2.1 (ldL a q.2.1 q.2.2)) q.2.1 (12, 0)) r hp (by show q.2.1 + 1 ≤ q.1 + 1; omega) hr
      have g2 : q.1 + 1 < r.1 := g2
      have g3 : q.2.1 + 1 < r.2.1 := g3
      have iv2 := iv1.gw g1
      unfold AEp
      rw [ep_0 (show ¬ (12, q.2.1).1 = 10 from (by decide : ¬ (12 : Nat) = 10))]
      exact ih (q.2.1 + 1) 0 r iv2 (Nat.zero_le _) (by omega) (by omega) h2
    · rw [if_neg (show ¬ c (q.1, q.2.1, ldL a q.2.1 q.2.2).1 = 124 from c1)] at h
      by_cases c2 : c q.1 = 38
      · rw [if_pos (show c (q.1, q.2.1, ldL a q.2.1 q.2.2).1 = 38 from c2)] at h
        have hp := hc.lt (p := q.1) (by omega)
        refine H.2.2.2.2.2.2 k _ q _ _ hi c2 ld_and ?_
        obtain ⟨m1, m2⟩ := lvC_len 0 w ((13, 0) :: K)
        have m1 : (lvC 0 w ((13, 0) :: K)).length = 0 + wz w + (K.length + 1) := m1
        have iv1 : ivK L ((11, q.2.1) :: lvC 0 w ((13, 0) :: K)) (q.1 + 1, q.2.1 + 1, cdU (ldL a q.2.1 q.2.2) q.2.1 (11, 0)) := ⟨hp, by rw [n1, m2]; show q.2.1 + 1 + n10 ((13, 0) :: K) ≤ q.1 + 1; omega, by show (lvC 0 w ((13, 0) :: K)).length + 1 ≤ q.1 + 1; omega, ((lvC_ok oK (Nat.zero_le _) hw).up (Nat.le_succ _)).cons (Or.inr ⟨Or.inl rfl, Nat.lt_succ_self _⟩), (i5.ld (by omega)).sg (by decide) (by decide)⟩
        refine T _ _ (List.cons_ne_nil _ _) iv1 ?_
        refine oP_m (oP_b h) (fun r hr h2 => ?_)
        obtain ⟨g1, g2, g3, _⟩ := tk_ok hc hL k hk (q.1 + 1, q.2.1 + 1, cdU (ldL a q.2.1 q.2.2) q.2.1 (11, 0)) r hp (by show q.2.1 + 1 ≤ q.1 + 1; omega) hr
        have g2 : q.1 + 1 < r.1 := g2
        have g3 : q.2.1 + 1 < r.2.1 := g3
        have iv2 := iv1.gw g1
        unfold AEp
        rw [ep_0 (show ¬ (11, q.2.1).1 = 10 from (by decide : ¬ (11 : Nat) = 10))]
        have el : (11, q.2.1) :: lvC 0 w ((13, 0) :: K) = lvC (q.2.1 + 1) w ((13, 0) :: K) := by
          unfold lvC
          rw [if_pos rfl, if_neg (Nat.succ_ne_zero _), Nat.add_sub_cancel]
        show AF k ((11, q.2.1) :: lvC 0 w ((13, 0) :: K)) r
        rw [el] at iv2 ⊢
        exact ih w (q.2.1 + 1) r iv2 (by omega) (by omega) (by omega) h2
      · rw [if_neg (show ¬ c (q.1, q.2.1, ldL a q.2.1 q.2.2).1 = 38 from c2)] at h
        exact ends w a q hi c1 c2 h
theorem ch_R (hc : okc t L c) (hL : L ≤ 240) (H : CDC c L FL OK LH AF) {k : Nat} {K : WK} {q : TS} (hk : k ≤ 6) (T : ∀ K q, ¬ K = [] → ivK L K q → oP FL (fun r => AEp AF k K r) (tkL c k q) → LH k K q) (hi : ivK L ((13, 0) :: K) q) (h : oP FL (fun r2 => (K = [] → OK r2) ∧ (¬ K = [] → AEp AF (k + 1) K r2)) (bnd (chL c k q) (psL c 41))) : LH k ((13, 0) :: K) q := by
  have hi0 := id hi
  obtain ⟨i1, i2, i3, i4, i5⟩ := hi0
  refine T _ _ (List.cons_ne_nil _ _) hi ?_
  refine oP_m (oP_b (oP_b h)) (fun r hr h2 => ?_)
  obtain ⟨g1, g2, g3, _⟩ := tk_ok hc hL k hk _ r i1 (by omega) hr
  have iv2 := hi.gw g1
  unfold AEp
  rw [ep_0 (by decide)]
  exact cl_R hc hL H hk T 240 0 0 r iv2 (Nat.zero_le _) (Nat.zero_le _) (by omega) h2
theorem ts_R (hc : okc t L c) (hL : L ≤ 240) (H : CDC c L FL OK LH AF) : ∀ (k : Nat), k ≤ 5 → ∀ (K : WK) (q : TS), ¬ K = [] → ivK L K q → oP FL (fun r => AEp AF k K r) (tkL c k q) → LH k K q
  | 0, _, K, q, hK, hi, h => by
    unfold tkL tsL at h
    by_cases c1 : c q.1 = 33
    · rw [if_pos c1, if_pos rfl] at h
      exact H.1 K q hi (Or.inl c1) h
    · rw [if_neg c1] at h
      by_cases c2 : c q.1 = 40
      · rw [if_pos c2, if_pos rfl] at h
        exact H.1 K q hi (Or.inr c2) h
      · rw [if_neg c2] at h
        exact H.2.2.1 0 K q (by decide) hi (by omega) h
  | k + 1, hk, K, q, hK, hi, h => by
    have hi0 := id hi
    obtain ⟨i1, i2, i3, i4, i5⟩ := hi0
    unfold tkL tsL at h
    by_cases c1 : c q.1 = 33
    · rw [if_pos c1, if_neg (Nat.succ_ne_zero k)] at h
      have hp := hc.lt (p := q.1) (by omega)
      refine H.2.1 k K q hi (Or.inl c1) ?_
      rw [if_pos c1]
      refine ts_R hc hL H k (by omega) _ _ (by exact List.cons_ne_nil _ _) ⟨hp, by show q.2.1 + (1 + n10 K) ≤ q.1 + 1; omega, by show K.length + 1 ≤ q.1 + 1; omega, i4.cons (Or.inl ⟨Or.inl rfl, rfl⟩), i5⟩ ?_
      exact oP_m (oP_b h) (fun r hr h2 => h2)
    · rw [if_neg c1] at h
      by_cases c2 : c q.1 = 40
      · rw [if_pos c2, if_neg (Nat.succ_ne_zero k)] at h
        have hp := hc.lt (p := q.1) (by omega)
        refine H.2.1 k K q hi (Or.inr c2) ?_
        rw [if_neg c1]
        refine ch_R hc hL H (k := k) (K := K) (by omega) (fun K2 q2 n2 => ts_R hc hL H k (by omega) K2 q2 n2) ⟨hp, by show q.2.1 + (0 + n10 K) ≤ q.1 + 1; omega, by show K.length + 1 ≤ q.1 + 1; omega, i4.cons (Or.inl ⟨Or.inr rfl, rfl⟩), i5⟩ ?_
        exact oP_m h (fun r hr h2 => ⟨fun z => absurd z hK, fun _ => h2⟩)
      · rw [if_neg c2] at h
        exact H.2.2.1 (k + 1) K q hk hi (by omega) h
end PCondR
