/-! ===== tasters: all orders in their row, and what they come to ===== -/
theorem sum_add (f h : Nat → Nat) : ∀ N, sumS (fun i => f i + h i) N = sumS f N + sumS h N
  | 0 => rfl
  | N + 1 => by
    show sumS (fun i => f i + h i) N + (f N + h N) = sumS f N + f N + (sumS h N + h N)
    rw [sum_add f h N]
    omega
theorem sum_e {f h : Nat → Nat} : ∀ N, (∀ i, i < N → f i = h i) → sumS f N = sumS h N
  | 0, _ => rfl
  | N + 1, e => by
    show sumS f N + f N = sumS h N + h N
    rw [sum_e N (fun i hi => e i (by omega)), e N (by omega)]
theorem sum_0 {f : Nat → Nat} (N : Nat) (e : ∀ i, i < N → f i = 0) : sumS f N = 0 := by
  rw [sum_e (h := fun _ => 0) N e]
  induction N with
  | zero => rfl
  | succ N ih =>
    show sumS (fun _ => 0) N + 0 = 0
    rw [ih (fun i hi => e i (by omega))]
theorem sum_comm (f : Nat → Nat → Nat) (M : Nat) : ∀ N, sumS (fun i => sumS (fun j => f i j) M) N = sumS (fun j => sumS (fun i => f i j) N) M
  | 0 => (sum_0 M (fun _ _ => rfl)).symm
  | N + 1 => by
    show sumS (fun i => sumS (fun j => f i j) M) N + sumS (fun j => f N j) M = _
    rw [sum_comm f M N, ← sum_add]
    rfl
theorem sum_front (f : Nat → Nat) : ∀ N, sumS f (N + 1) = f 0 + sumS (fun i => f (i + 1)) N
  | 0 => by
    show 0 + f 0 = f 0 + 0
    omega
  | N + 1 => by
    show sumS f (N + 1) + f (N + 1) = f 0 + (sumS (fun i => f (i + 1)) N + f (N + 1))
    rw [sum_front f N]
    omega
theorem pop_eq {s m : Nat} (hs : s < 2 ^ m) (hm : m ≤ 12) (hp : pop s 12 = m) : s = 2 ^ m - 1 := by
  rcases Nat.lt_or_ge s (2 ^ m - 1) with z | z
  · obtain ⟨w, hw, hf⟩ := free_bit z
    have a1 := pop_le_m (or_ltm hs hw) hm
    rw [pop_orb s w hf, if_pos (by omega)] at a1
    omega
  · omega
theorem full_bit {m x : Nat} (h : x < m) (hm : m ≤ 12) : (2 ^ m - 1) / 2 ^ x % 2 = 1 := by
  have key : ∀ m, m < 13 → ∀ x, x < m → (2 ^ m - 1) / 2 ^ x % 2 = 1 := by decide +kernel
  exact key m (by omega) x h
/-! orders -/
def frL (m s : Nat) : List Nat := (List.range m).filter (fun w => s / 2 ^ w % 2 == 0)
def lxP (m : Nat) : Nat → Nat → List (List Nat)
  | 0, _ => [[]]
  | j + 1, s => (frL m s).flatMap (fun w => (lxP m j (s ||| 2 ^ w)).map (fun L => w :: L))
theorem fold_fm {α β γ : Type} (f : γ → β → γ) (h : α → List β) : ∀ (l : List α) (a : γ), (l.flatMap h).foldl f a = l.foldl (fun a x => (h x).foldl f a) a
  | [], _ => rfl
  | x :: l, a => by
    rw [List.flatMap_cons, List.foldl_append, fold_fm f h l]
    rfl
theorem fold_mp {α β γ : Type} (f : γ → β → γ) (h : α → β) : ∀ (l : List α) (a : γ), (l.map h).foldl f a = l.foldl (fun a x => f a (h x)) a
  | [], _ => rfl
  | x :: l, a => by
    rw [List.map_cons]
    exact fold_mp f h l (f a (h x))
theorem fold_e {α γ : Type} {f h : γ → α → γ} : ∀ (l : List α) (a : γ), (∀ x, x ∈ l → ∀ a, f a x = h a x) → l.foldl f a = l.foldl h a
  | [], _, _ => rfl
  | x :: l, a, e => by
    rw [List.foldl_cons, List.foldl_cons, e x List.mem_cons_self a]
    exact fold_e l _ (fun y hy => e y (List.mem_cons_of_mem _ hy))
def pcS (c : Nat → Nat → Nat) : Nat → List Nat → Nat
  | _, [] => 0
  | s, w :: L => c s w + pcS c (s ||| 2 ^ w) L
def paS (c : Nat → Nat → Nat) (r : Nat → Nat) (m : Nat) : Nat → Nat → List Nat
  | 0, _ => []
  | j + 1, s => (bnS c r s m).2 :: paS c r m j (s ||| 2 ^ (bnS c r s m).2)
theorem lx_min {c : Nat → Nat → Nat} {m B : Nat} (hm : m ≤ 8) (hcb : ∀ s w, s < 2 ^ m → w < m → c s w ≤ B) (hB : B * 8 < 1000000) : ∀ (j s : Nat), s < 2 ^ m → pop s 12 + j = m → ∀ (b : Nat) (pre : List Nat) (acc : Nat × List Nat), (lxP m j s).foldl (fun a L => if b + pcS c s L < a.1 then (b + pcS c s L, pre ++ L) else a) acc = if b + rtS c m s < acc.1 then (b + rtS c m s, pre ++ paS c (rtS c m) m j s) else acc
  | 0, s, hs, hp, b, pre, acc => by
    have e : s = 2 ^ m - 1 := pop_eq hs (by omega) (by omega)
    subst e
    rw [show rtS c m (2 ^ m - 1) = 0 from tbS_top (Nat.zero_le _)]
    rfl
  | j + 1, s, hs, hp, b, pre, acc => by
    have hs2 : s < 2 ^ m - 1 := by
      rcases Nat.lt_or_ge s (2 ^ m - 1) with z | z
      · exact z
      · have e : s = 2 ^ m - 1 := by omega
        rw [e, pop_full (by omega)] at hp
        omega
    have key : ∀ K, K ≤ m → ((List.range K).filter (fun w => s / 2 ^ w % 2 == 0)).foldl (fun a w => ((lxP m j (s ||| 2 ^ w)).map (fun L => w :: L)).foldl (fun a L => if b + pcS c s L < a.1 then (b + pcS c s L, pre ++ L) else a) a) acc = if (bnS c (rtS c m) s K).1 < 1000000 ∧ b + (bnS c (rtS c m) s K).1 < acc.1 then (b + (bnS c (rtS c m) s K).1, pre ++ (bnS c (rtS c m) s K).2 :: paS c (rtS c m) m j (s ||| 2 ^ (bnS c (rtS c m) s K).2)) else acc := by
      intro K
      induction K with
      | zero =>
        intro _
        rw [if_neg (fun z => Nat.lt_irrefl _ z.1)]
        rfl
      | succ K ih =>
        intro hK
        have ih := ih (by omega)
        rw [List.range_succ, List.filter_append, List.foldl_append, ih]
        by_cases hf : s / 2 ^ K % 2 = 0
        · rw [List.filter_cons_of_pos (by rw [hf]; rfl), List.filter_nil, List.foldl_cons, List.foldl_nil, fold_mp]
          have e : (fun (a : Nat × List Nat) (L : List Nat) => if b + pcS c s (K :: L) < a.1 then (b + pcS c s (K :: L), pre ++ K :: L) else a) = (fun a L => if (b + c s K) + pcS c (s ||| 2 ^ K) L < a.1 then ((b + c s K) + pcS c (s ||| 2 ^ K) L, (pre ++ [K]) ++ L) else a) := by
            funext a L
            rw [Nat.add_assoc, List.append_assoc]
            rfl
          rw [e, lx_min hm hcb hB j (s ||| 2 ^ K) (or_ltm hs hK) (by rw [pop_orb s K hf, if_pos (by omega)]; omega) (b + c s K) (pre ++ [K])]
          have hp1 := tb_price hm hcb hs (show K < m by omega) hf (Nat.zero_le (s + 1))
          have hp2 : c s K + rtS c m (s ||| 2 ^ K) < 1000000 := Nat.lt_of_le_of_lt hp1 hB
          by_cases h1 : c s K + rtS c m (s ||| 2 ^ K) < (bnS c (rtS c m) s K).1
          · rw [show bnS c (rtS c m) s (K + 1) = (c s K + rtS c m (s ||| 2 ^ K), K) from if_pos ⟨hf, h1⟩]
            by_cases h2 : (bnS c (rtS c m) s K).1 < 1000000 ∧ b + (bnS c (rtS c m) s K).1 < acc.1
            · rw [if_pos h2, if_pos (by show b + c s K + rtS c m (s ||| 2 ^ K) < b + (bnS c (rtS c m) s K).1; omega), if_pos ⟨hp2, by show b + (c s K + rtS c m (s ||| 2 ^ K)) < acc.1; have := h2.2; omega⟩, Nat.add_assoc, List.append_assoc]
              rfl
            · rw [if_neg h2]
              by_cases h3 : b + (c s K + rtS c m (s ||| 2 ^ K)) < acc.1
              · rw [if_pos (by rw [Nat.add_assoc]; exact h3), if_pos ⟨hp2, h3⟩, Nat.add_assoc, List.append_assoc]
                rfl
              · rw [if_neg (by rw [Nat.add_assoc]; exact h3), if_neg (fun z => h3 z.2)]
          · rw [show bnS c (rtS c m) s (K + 1) = bnS c (rtS c m) s K from if_neg (fun z => h1 z.2)]
            by_cases h2 : (bnS c (rtS c m) s K).1 < 1000000 ∧ b + (bnS c (rtS c m) s K).1 < acc.1
            · rw [if_pos h2, if_neg (by show ¬ b + c s K + rtS c m (s ||| 2 ^ K) < b + (bnS c (rtS c m) s K).1; omega)]
            · rw [if_neg h2, if_neg (fun z => h2 ⟨by omega, by omega⟩)]
        · rw [List.filter_cons_of_neg (p := fun w => s / 2 ^ w % 2 == 0) (a := K) (fun z => hf (beq_iff_eq.mp z)), List.filter_nil, List.foldl_nil, show bnS c (rtS c m) s (K + 1) = bnS c (rtS c m) s K from if_neg (fun z => hf z.1)]
    show ((frL m s).flatMap _).foldl _ acc = _
    rw [fold_fm]
    refine (key m (Nat.le_refl _)).trans ?_
    obtain ⟨b1, b2, b3, -⟩ := rt_fd hm hcb hB hs2
    have hp1 := tb_price hm hcb hs b1 b2 (Nat.zero_le (s + 1))
    have hp2 : (bnS c (rtS c m) s m).1 < 1000000 := by rw [← b3]; exact Nat.lt_of_le_of_lt hp1 hB
    rw [rtS_e hs2]
    by_cases h : b + (bnS c (rtS c m) s m).1 < acc.1
    · rw [if_pos ⟨hp2, h⟩, if_pos h]
      rfl
    · rw [if_neg (fun z => h z.2), if_neg h]
theorem pa_nth (c : Nat → Nat → Nat) (r : Nat → Nat) (m : Nat) : ∀ (k j p : Nat), k < j → (paS c r m j (pthS c r m p).1).getD k 0 = (pthS c r m (p + k + 1)).2
  | 0, 0, _, h => absurd h (Nat.lt_irrefl 0)
  | 0, j + 1, p, _ => rfl
  | k + 1, 0, _, h => absurd h (Nat.not_lt_zero _)
  | k + 1, j + 1, p, h => by
    have ih := pa_nth c r m k j (p + 1) (by omega)
    rw [show p + (k + 1) + 1 = p + 1 + k + 1 by omega, ← ih]
    rfl
def suL (f : Nat → Nat) : List Nat → Nat
  | [] => 0
  | x :: l => f x + suL f l
def pcL (F : Nat → Nat → Nat) : List Nat → Nat
  | [] => 0
  | w :: L => suL (fun l => F l w) L + pcL F L
def frS (F : Nat → Nat) (s m : Nat) : Nat := sumS (fun l => if s / 2 ^ l % 2 = 0 then F l else 0) m
theorem fr_or {F : Nat → Nat} {s w : Nat} (hf : s / 2 ^ w % 2 = 0) : ∀ m, frS F (s ||| 2 ^ w) m + (if w < m then F w else 0) = frS F s m
  | 0 => rfl
  | m + 1 => by
    have ih := fr_or (F := F) hf m
    show frS F (s ||| 2 ^ w) m + (if (s ||| 2 ^ w) / 2 ^ m % 2 = 0 then F m else 0) + _ = frS F s m + (if s / 2 ^ m % 2 = 0 then F m else 0)
    rw [orb_bit]
    by_cases e : m = w
    · subst e
      rw [if_neg (by omega)] at ih
      rw [if_pos rfl, if_neg (by decide), if_pos (by omega), if_pos hf]
      omega
    · rw [if_neg e]
      by_cases h : w < m
      · rw [if_pos h] at ih
        rw [if_pos (show w < m + 1 by omega)]
        omega
      · rw [if_neg h] at ih
        rw [if_neg (show ¬ w < m + 1 by omega)]
        omega
theorem lx_mem {m j s : Nat} {L : List Nat} (h : L ∈ lxP m (j + 1) s) : ∃ w L', w < m ∧ s / 2 ^ w % 2 = 0 ∧ L' ∈ lxP m j (s ||| 2 ^ w) ∧ L = w :: L' := by
  obtain ⟨w, h1, h2⟩ := List.mem_flatMap.mp h
  obtain ⟨L', h3, h4⟩ := List.mem_map.mp h2
  obtain ⟨h5, h6⟩ := List.mem_filter.mp h1
  exact ⟨w, L', List.mem_range.mp h5, beq_iff_eq.mp h6, h3, h4.symm⟩
theorem lx_sum {m : Nat} (hm : m ≤ 8) (F : Nat → Nat) : ∀ (j s : Nat), s < 2 ^ m → pop s 12 + j = m → ∀ L, L ∈ lxP m j s → suL F L = frS F s m
  | 0, s, hs, hp, L, hL => by
    rw [List.mem_singleton.mp hL, pop_eq hs (by omega) (by omega)]
    exact (sum_0 m (fun i hi => if_neg (by rw [full_bit hi (by omega)]; decide))).symm
  | j + 1, s, hs, hp, L, hL => by
    obtain ⟨w, L', hw, hf, h1, rfl⟩ := lx_mem hL
    show F w + suL F L' = _
    rw [lx_sum hm F j _ (or_ltm hs hw) (by rw [pop_orb s w hf, if_pos (by omega)]; omega) L' h1]
    have := fr_or (F := F) hf m
    rw [if_pos hw] at this
    omega
def coS (F : Nat → Nat) (s w : Nat) : Nat → Nat
  | 0 => 0
  | l + 1 => if l ≠ w ∧ s / 2 ^ l % 2 = 0 then coS F s w l + F l else coS F s w l
theorem coS_t {F : Nat → Nat} {s w l : Nat} (h1 : l ≠ w) (h2 : s / 2 ^ l % 2 = 0) : coS F s w (l + 1) = coS F s w l + F l := if_pos ⟨h1, h2⟩
theorem coS_f {F : Nat → Nat} {s w l : Nat} (h : ¬ (l ≠ w ∧ s / 2 ^ l % 2 = 0)) : coS F s w (l + 1) = coS F s w l := if_neg h
theorem co_fr (F : Nat → Nat) (s w : Nat) : ∀ m, coS F s w m = frS F (s ||| 2 ^ w) m
  | 0 => rfl
  | m + 1 => by
    have ih := co_fr F s w m
    show _ = frS F (s ||| 2 ^ w) m + (if (s ||| 2 ^ w) / 2 ^ m % 2 = 0 then F m else 0)
    rw [orb_bit, ← ih]
    by_cases e : m = w
    · rw [if_pos e, if_neg (by decide), coS_f (fun z => z.1 e)]
      rfl
    · rw [if_neg e]
      by_cases h : s / 2 ^ m % 2 = 0
      · rw [coS_t e h, if_pos h]
      · rw [coS_f (fun z => h z.2), if_neg h]
        rfl
theorem coS_le {F : Nat → Nat} {s w b : Nat} (h : ∀ l, F l ≤ b) : ∀ m, coS F s w m ≤ b * m
  | 0 => Nat.zero_le _
  | m + 1 => by
    have ih := coS_le (s := s) (w := w) h m
    have := h m
    rw [Nat.mul_succ]
    unfold coS
    split <;> omega
theorem lx_pc {m : Nat} (hm : m ≤ 8) (F : Nat → Nat → Nat) : ∀ (j s : Nat), s < 2 ^ m → pop s 12 + j = m → ∀ L, L ∈ lxP m j s → pcL F L = pcS (fun s w => coS (fun l => F l w) s w m) s L
  | 0, s, hs, hp, L, hL => by
    rw [List.mem_singleton.mp hL]
    rfl
  | j + 1, s, hs, hp, L, hL => by
    obtain ⟨w, L', hw, hf, h1, rfl⟩ := lx_mem hL
    have hp2 : pop (s ||| 2 ^ w) 12 + j = m := by rw [pop_orb s w hf, if_pos (by omega)]; omega
    show suL (fun l => F l w) L' + pcL F L' = coS (fun l => F l w) s w m + pcS _ (s ||| 2 ^ w) L'
    rw [lx_sum hm _ j _ (or_ltm hs hw) hp2 L' h1, lx_pc hm F j _ (or_ltm hs hw) hp2 L' h1, co_fr]
def prS (F : Nat → Nat → Nat) (o : Nat → Nat) (m : Nat) : Nat := sumS (fun a => sumS (fun b => if a < b then F (o b) (o a) else 0) m) m
abbrev lgF (L : List Nat) : Nat → Nat := fun k => L.getD k 0
theorem su_ix (f : Nat → Nat) : ∀ L : List Nat, sumS (fun b => f (lgF L b)) L.length = suL f L
  | [] => rfl
  | x :: L => by
    rw [List.length_cons, sum_front]
    show f x + sumS (fun b => f (lgF L b)) L.length = f x + suL f L
    rw [su_ix f L]
theorem pr_ix (F : Nat → Nat → Nat) : ∀ L : List Nat, prS F (lgF L) L.length = pcL F L
  | [] => rfl
  | w :: L => by
    unfold prS
    rw [List.length_cons, sum_front]
    have e1 : sumS (fun b => if 0 < b then F (lgF (w :: L) b) (lgF (w :: L) 0) else 0) (L.length + 1) = suL (fun l => F l w) L := by
      rw [sum_front, if_neg (by decide), ← su_ix (fun l => F l w) L, Nat.zero_add]
      exact sum_e _ (fun i _ => if_pos (by omega))
    have e2 : sumS (fun a => sumS (fun b => if a + 1 < b then F (lgF (w :: L) b) (lgF (w :: L) (a + 1)) else 0) (L.length + 1)) L.length = prS F (lgF L) L.length := by
      refine sum_e _ (fun a _ => ?_)
      rw [sum_front, if_neg (by omega), Nat.zero_add]
      refine sum_e _ (fun b _ => ?_)
      by_cases h : a < b
      · rw [if_pos h, if_pos (by omega)]
        rfl
      · rw [if_neg h, if_neg (by omega)]
    rw [e1, e2, pr_ix F L]
    rfl
/-! the next order -/
def swF (o : Nat → Nat) (a b : Nat) : Nat → Nat := fun k => if k = b then o a else if k = a then o b else o k
def fIS (o : Nat → Nat) : Nat → Nat
  | 0 => 0
  | q + 1 => if o (q + 1) < o q then fIS o q else q + 1
def fJS (o : Nat → Nat) (x : Nat) : Nat → Nat
  | 0 => 0
  | j + 1 => if o j < x then fJS o x j else j
def rvS : Nat → (Nat → Nat) → Nat → Nat → (Nat → Nat)
  | 0, o, _, _ => o
  | f + 1, o, a, b => if a < b then rvS f (swF o a b) (a + 1) (b - 1) else o
def nxS (m i : Nat) (o : Nat → Nat) : Nat → Nat := rvS 6 (swF o i (fJS o (o i) m)) (i + 1) (m - 1)
def okL (m : Nat) (L : List Nat) : Bool := L.length == m && ((List.range m).all (fun a => lgF L a < m && (List.range m).all (fun b => a == b || lgF L a != lgF L b)))
def chB (m : Nat) : List (List Nat) → Bool
  | [] => false
  | [L] => okL m L && fIS (lgF L) (m - 1) == 0
  | L :: L' :: r => okL m L && (fIS (lgF L) (m - 1) != 0 && (((List.range m).all (fun k => nxS m (fIS (lgF L) (m - 1) - 1) (lgF L) k == lgF L' k)) && chB m (L' :: r)))
set_option maxRecDepth 100000 in
theorem ch_all {m : Nat} (h2 : 2 ≤ m) (h6 : m ≤ 6) : chB m (lxP m m 0) = true := by
  have : m = 2 ∨ m = 3 ∨ m = 4 ∨ m = 5 ∨ m = 6 := by omega
  rcases this with h | h | h | h | h
  all_goals (subst h; decide +kernel)
theorem okL_p {m : Nat} {L : List Nat} (h : okL m L = true) : L.length = m ∧ (∀ a, a < m → lgF L a < m) ∧ ∀ a b, a < m → b < m → a ≠ b → lgF L a ≠ lgF L b := by
  unfold okL at h
  rw [Bool.and_eq_true] at h
  obtain ⟨h1, h2⟩ := h
  rw [List.all_eq_true] at h2
  refine ⟨beq_iff_eq.mp h1, fun a ha => ?_, fun a b ha hb hne => ?_⟩
  · have := h2 a (List.mem_range.mpr ha)
    rw [Bool.and_eq_true] at this
    exact of_decide_eq_true this.1
  · have := h2 a (List.mem_range.mpr ha)
    rw [Bool.and_eq_true, List.all_eq_true] at this
    have := this.2 b (List.mem_range.mpr hb)
    rw [Bool.or_eq_true] at this
    rcases this with z | z
    · exact absurd (beq_iff_eq.mp z) hne
    · exact bne_iff_ne.mp z
theorem ch_ok {m : Nat} {L : List Nat} {r : List (List Nat)} (h : chB m (L :: r) = true) : okL m L = true := by
  cases r with
  | nil => exact (Bool.and_eq_true _ _ ▸ (show (okL m L && fIS (lgF L) (m - 1) == 0) = true from h)).1
  | cons L' r => exact (Bool.and_eq_true _ _ ▸ (show (okL m L && _) = true from h)).1
theorem ch_last {m : Nat} {L : List Nat} (h : chB m [L] = true) : fIS (lgF L) (m - 1) = 0 := by
  have := (Bool.and_eq_true _ _ ▸ (show (okL m L && fIS (lgF L) (m - 1) == 0) = true from h)).2
  exact beq_iff_eq.mp this
theorem ch_next {m : Nat} {L L' : List Nat} {r : List (List Nat)} (h : chB m (L :: L' :: r) = true) : (∃ i, fIS (lgF L) (m - 1) = i + 1 ∧ ∀ k, k < m → nxS m i (lgF L) k = lgF L' k) ∧ chB m (L' :: r) = true := by
  have h1 : (okL m L && (fIS (lgF L) (m - 1) != 0 && (((List.range m).all (fun k => nxS m (fIS (lgF L) (m - 1) - 1) (lgF L) k == lgF L' k)) && chB m (L' :: r)))) = true := h
  rw [Bool.and_eq_true, Bool.and_eq_true, Bool.and_eq_true, List.all_eq_true] at h1
  obtain ⟨-, h2, h3, h4⟩ := h1
  refine ⟨⟨fIS (lgF L) (m - 1) - 1, ?_, fun k hk => beq_iff_eq.mp (h3 k (List.mem_range.mpr hk))⟩, h4⟩
  have := bne_iff_ne.mp h2
  omega
/-! a row of a taster -/
def snB (t : Nat → Nat) (a : Nat) : Nat → Nat
  | 0 => 0
  | k + 1 => snB t a k ||| 2 ^ t (a + k)
def okR (t : Nat → Nat) (m a K : Nat) : Prop := ∀ k, k < K → t (a + k) < m ∧ snB t a k / 2 ^ t (a + k) % 2 = 0
theorem snB_bit (t : Nat → Nat) (a x : Nat) : ∀ k, (snB t a k / 2 ^ x % 2 = 1 ↔ ∃ q, q < k ∧ t (a + q) = x)
  | 0 => by
    constructor
    · intro h
      rw [show snB t a 0 = 0 from rfl, Nat.zero_div] at h
      exact absurd h (by decide)
    · rintro ⟨q, h, _⟩
      exact absurd h (Nat.not_lt_zero q)
  | k + 1 => by
    have ih := snB_bit t a x k
    show (snB t a k ||| 2 ^ t (a + k)) / 2 ^ x % 2 = 1 ↔ _
    rw [orb_bit]
    by_cases e : x = t (a + k)
    · rw [if_pos e]
      exact ⟨fun _ => ⟨k, Nat.lt_succ_self k, e.symm⟩, fun _ => rfl⟩
    · rw [if_neg e, ih]
      constructor
      · rintro ⟨q, h1, h2⟩
        exact ⟨q, by omega, h2⟩
      · rintro ⟨q, h1, h2⟩
        refine ⟨q, ?_, h2⟩
        rcases Nat.lt_succ_iff_lt_or_eq.mp h1 with z | z
        · exact z
        · subst z
          exact absurd h2.symm e
theorem snB_pop {t : Nat → Nat} {m a : Nat} (hm : m ≤ 8) : ∀ k, okR t m a k → snB t a k < 2 ^ m ∧ pop (snB t a k) 12 = k
  | 0, _ => ⟨Nat.two_pow_pos m, by show pop 0 12 = 0; decide⟩
  | k + 1, h => by
    obtain ⟨h1, h2⟩ := snB_pop hm k (fun q hq => h q (by omega))
    obtain ⟨h3, h4⟩ := h k (by omega)
    refine ⟨or_ltm h1 h3, ?_⟩
    show pop (snB t a k ||| 2 ^ t (a + k)) 12 = k + 1
    rw [pop_orb _ _ h4, h2, if_pos (by omega)]
theorem okR_all {t : Nat → Nat} {m a : Nat} (hm : m ≤ 8) (h : okR t m a m) {x : Nat} (hx : x < m) : ∃ q, q < m ∧ t (a + q) = x := by
  obtain ⟨h1, h2⟩ := snB_pop hm m h
  refine (snB_bit t a x m).mp ?_
  rw [pop_eq h1 (by omega) h2]
  exact full_bit hx (by omega)
theorem okR_inj {t : Nat → Nat} {m a : Nat} (h : okR t m a m) {q r : Nat} (h1 : q < r) (h2 : r < m) : t (a + q) ≠ t (a + r) := fun e => by
  have a1 := (snB_bit t a (t (a + r)) r).mpr ⟨q, h1, e⟩
  have a2 := (h r h2).2
  omega
def rkS (t : Nat → Nat) (a w : Nat) : Nat → Nat
  | 0 => 0
  | k + 1 => if t (a + k) = w then k else rkS t a w k
theorem rkS_le (t : Nat → Nat) (a w : Nat) : ∀ k, rkS t a w k ≤ k
  | 0 => Nat.le_refl _
  | k + 1 => by
    have := rkS_le t a w k
    unfold rkS
    split <;> omega
theorem rk_at {t : Nat → Nat} {m a : Nat} (h : okR t m a m) {q : Nat} : ∀ K, q < K → K ≤ m → rkS t a (t (a + q)) K = q
  | 0, h1, _ => absurd h1 (Nat.not_lt_zero q)
  | K + 1, h1, h2 => by
    by_cases e : K = q
    · subst e
      exact if_pos rfl
    · rw [show rkS t a (t (a + q)) (K + 1) = rkS t a (t (a + q)) K from if_neg (fun z => okR_inj h (show q < K by omega) (by omega) z.symm)]
      exact rk_at h K (by omega) (by omega)
def bfR (t : Nat → Nat) (a o w : Nat) : Nat → Nat
  | 0 => 0
  | k + 1 => if t (a + k) = w then bfR t a o w k + snB t a k / 2 ^ o % 2 else bfR t a o w k
theorem bfR_t {t : Nat → Nat} {a o w k : Nat} (h : t (a + k) = w) : bfR t a o w (k + 1) = bfR t a o w k + snB t a k / 2 ^ o % 2 := if_pos h
theorem bfR_f {t : Nat → Nat} {a o w k : Nat} (h : ¬ t (a + k) = w) : bfR t a o w (k + 1) = bfR t a o w k := if_neg h
theorem bfR_le (t : Nat → Nat) (a o w : Nat) : ∀ k, bfR t a o w k ≤ k
  | 0 => Nat.le_refl _
  | k + 1 => by
    have := bfR_le t a o w k
    have h2 := Nat.mod_lt (snB t a k / 2 ^ o) (show 0 < 2 by decide)
    unfold bfR
    split <;> omega
theorem bf_at {t : Nat → Nat} {m a o : Nat} (h : okR t m a m) {q : Nat} (hq : q < m) : ∀ K, K ≤ m → bfR t a o (t (a + q)) K = if q < K then snB t a q / 2 ^ o % 2 else 0
  | 0, _ => (if_neg (Nat.not_lt_zero q)).symm
  | K + 1, h2 => by
    have ih := bf_at (o := o) h hq K (by omega)
    by_cases e : K = q
    · subst e
      rw [bfR_t rfl, ih, if_neg (Nat.lt_irrefl K), if_pos (Nat.lt_succ_self K), Nat.zero_add]
    · rw [bfR_f (fun z => (Nat.lt_or_gt_of_ne e).elim (fun y => okR_inj h y hq z) (fun y => okR_inj h y (by omega) z.symm)), ih]
      by_cases c : q < K
      · rw [if_pos c, if_pos (by omega)]
      · rw [if_neg c, if_neg (by omega)]
theorem bf_rk {t : Nat → Nat} {m a : Nat} (hm : m ≤ 8) (h : okR t m a m) {x y : Nat} (hx : x < m) (hy : y < m) (hne : x ≠ y) : bfR t a x y m = if rkS t a x m < rkS t a y m then 1 else 0 := by
  obtain ⟨p, hp, rfl⟩ := okR_all hm h hx
  obtain ⟨q, hq, rfl⟩ := okR_all hm h hy
  rw [bf_at h hq m (Nat.le_refl _), if_pos hq, rk_at h m hp (Nat.le_refl _), rk_at h m hq (Nat.le_refl _)]
  by_cases c : p < q
  · rw [if_pos c]
    exact (snB_bit t a _ q).mpr ⟨p, c, rfl⟩
  · rw [if_neg c]
    rcases bit_cases (snB t a q) (t (a + p)) with z | z
    · exact z
    · obtain ⟨p', h1, h2⟩ := (snB_bit t a _ q).mp z
      exact absurd h2 (okR_inj h (show p' < p by omega) hp)
/-- so many tasters have o ahead of w -/
def ahS (t : Nat → Nat) (m o w T : Nat) : Nat := sumS (fun j => bfR t (m * j) o w m) T
theorem ahS_le (t : Nat → Nat) (m o w : Nat) : ∀ T, ahS t m o w T ≤ m * T
  | 0 => Nat.zero_le _
  | T + 1 => by
    have h1 := ahS_le t m o w T
    have h2 := bfR_le t (m * T) o w m
    show ahS t m o w T + bfR t (m * T) o w m ≤ _
    rw [Nat.mul_succ]
    omega
theorem ot_pr (t : Nat → Nat) (m T : Nat) (o : Nat → Nat) : sumS (fun j => sumS (fun a => sumS (fun b => if a < b then bfR t (m * j) (o b) (o a) m else 0) m) m) T = prS (fun l w => ahS t m l w T) o m := by
  rw [sum_comm (fun j a => sumS (fun b => if a < b then bfR t (m * j) (o b) (o a) m else 0) m) m T]
  refine sum_e _ (fun a _ => ?_)
  rw [sum_comm (fun j b => if a < b then bfR t (m * j) (o b) (o a) m else 0) m T]
  refine sum_e _ (fun b _ => ?_)
  by_cases h : a < b
  · rw [if_pos h]
    exact sum_e _ (fun j _ => if_pos h)
  · rw [if_neg h]
    exact sum_0 _ (fun j _ => if_neg h)
/-- the cost of standing next -/
def tcS (t : Nat → Nat) (m T s w : Nat) : Nat := coS (fun l => ahS t m l w T) s w m
theorem tcS_le {t : Nat → Nat} {m T : Nat} (hm : m ≤ 6) (hT : T ≤ 9) (s w : Nat) : tcS t m T s w ≤ 324 := by
  have h : ∀ l, ahS t m l w T ≤ 54 := fun l => Nat.le_trans (ahS_le t m l w T) (Nat.mul_le_mul hm hT)
  have := coS_le (s := s) (w := w) h m
  unfold tcS
  omega
/-- the least of all orders, the first of them -/
def fmS (t : Nat → Nat) (m T : Nat) (acc : Nat × List Nat) (l : List (List Nat)) : Nat × List Nat := l.foldl (fun a L => if prS (fun l w => ahS t m l w T) (lgF L) m < a.1 then (prS (fun l w => ahS t m l w T) (lgF L) m, L) else a) acc
theorem lx_len {m : Nat} : ∀ (j s : Nat) (L : List Nat), L ∈ lxP m j s → L.length = j
  | 0, s, L, h => by rw [List.mem_singleton.mp h]; rfl
  | j + 1, s, L, h => by
    obtain ⟨w, L', hw, hf, h1, rfl⟩ := lx_mem h
    rw [List.length_cons, lx_len j _ L' h1]
theorem fm_all {t : Nat → Nat} {m T : Nat} (h1 : 1 ≤ m) (hm : m ≤ 6) (hT : T ≤ 9) : fmS t m T (1000000, []) (lxP m m 0) = (rtS (tcS t m T) m 0, paS (tcS t m T) (rtS (tcS t m T) m) m m 0) := by
  have hcb : ∀ s w, s < 2 ^ m → w < m → tcS t m T s w ≤ 324 := fun s w _ _ => tcS_le hm hT s w
  have hs : 0 < 2 ^ m := Nat.two_pow_pos m
  have hp : pop 0 12 + m = m := by rw [show pop 0 12 = 0 by decide, Nat.zero_add]
  have key := lx_min (m := m) (B := 324) (by omega) hcb (by decide) m 0 hs hp 0 [] (1000000, [])
  have e : fmS t m T (1000000, []) (lxP m m 0) = (lxP m m 0).foldl (fun a L => if 0 + pcS (tcS t m T) 0 L < a.1 then (0 + pcS (tcS t m T) 0 L, [] ++ L) else a) (1000000, []) := by
    refine fold_e _ _ (fun L hL a => ?_)
    have a1 := pr_ix (fun l w => ahS t m l w T) L
    rw [lx_len m 0 L hL, lx_pc (by omega) _ m 0 hs hp L hL] at a1
    rw [a1, Nat.zero_add, List.nil_append]
    rfl
  rw [e, key]
  have hb : 0 + rtS (tcS t m T) m 0 < 1000000 := by
    have p3 : 2 ^ 1 ≤ 2 ^ m := Nat.pow_le_pow_right (by decide) h1
    have hs2 : 0 < 2 ^ m - 1 := by omega
    obtain ⟨b1, b2, b3, -⟩ := rt_fd (m := m) (by omega) hcb (by decide) hs2
    have hp1 := tb_price (m := m) (by omega) hcb hs b1 b2 (Nat.zero_le (0 + 1))
    rw [rtS_e hs2, ← b3, Nat.zero_add]
    exact Nat.lt_of_le_of_lt hp1 (by decide)
  rw [if_pos hb, Nat.zero_add, List.nil_append]
