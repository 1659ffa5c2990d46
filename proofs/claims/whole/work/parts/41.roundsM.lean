/-! ===== the texts with rounds: a stack of open rounds comes to the same ===== -/
/-- open rounds: where told, from which item, how often -/
abbrev SK : Type := List (Nat × Nat × Nat)
def tmR (il : Nat) (c : Nat → Nat) (p : Nat) : Nat × Nat :=
  if il = 1 then (if c p = 42 then (if 50 ≤ c (p + 1) ∧ c (p + 1) ≤ 57 then (c (p + 1) - 48, p + 2) else (0, p + 1)) else (1, p))
  else (if 50 ≤ c p ∧ c p ≤ 57 then (c p - 48, p + 1) else (1, p))
def opR (il : Nat) (c : Nat → Nat) : Nat → SK → Nat → Nat → Int32 ⊕ (SK × Nat × Nat × Nat)
  | k, st, p, s => if (tmR il c p).1 = 0 then .inl (flt 1 (tmR il c p).2) else if c (tmR il c p).2 = 40 then (match k with
    | 0 => .inl (flt 5 (tmR il c p).2)
    | k + 1 => opR il c k ((p, s, (tmR il c p).1) :: st) ((tmR il c p).2 + 1) s) else .inr (st, p, (tmR il c p).1, (tmR il c p).2)
def clR (most : Nat) (c : Nat → Nat) : SK → Nat → Nat → FN → Int32 ⊕ (SK × Nat × Nat × FN)
  | [], p, s, f => .inr ([], p, s, f)
  | e :: st, p, s, f => if c p = 41 then (match finS most e.2.2 e.1 e.2.1 (p + 1) s f with
    | .inl x => .inl x
    | .inr r => clR most c st r.1 r.2.1 r.2.2) else .inr (e :: st, p, s, f)
def imR (il most : Nat) (c : Nat → Nat) (st : SK) (fr tm p s : Nat) (f : FN) : Int32 ⊕ (SK × Nat × Nat × FN) := match pnS il c p with
  | .inl q => .inl (flt 1 q)
  | .inr r => match finS most tm fr s r.2 (s + 1) (up1 f s r.1) with
    | .inl x => .inl x
    | .inr r2 => clR most c st r2.1 r2.2.1 r2.2.2
def itR (il most : Nat) (c : Nat → Nat) (k : Nat) (st : SK) (p s : Nat) (f : FN) : Int32 ⊕ (SK × Nat × Nat × FN) := match opR il c k st p s with
  | .inl x => .inl x
  | .inr q => imR il most c q.1 q.2.1 q.2.2.1 q.2.2.2 s f
theorem tmR_1 {c : Nat → Nat} {p : Nat} : tmR 1 c p = tmS 1 c p := (if_pos rfl).trans (if_pos rfl).symm
theorem tmR_0 {il : Nat} {c : Nat → Nat} {p : Nat} (hil : il ≤ 1) (h : (tmS il c p).1 ≠ 0) : tmR il c p = tmS il c p := by
  have hi : il = 1 ∨ il = 0 := by omega
  rcases hi with rfl | rfl
  · exact tmR_1
  · unfold tmR
    unfold tmS at h ⊢
    rw [if_neg (show ¬ 0 = 1 by decide)]
    rw [if_neg (show ¬ 0 = 1 by decide)] at h
    rw [if_neg (show ¬ 0 = 1 by decide)]
    by_cases h1 : 48 ≤ c p ∧ c p ≤ 57
    · rw [if_pos h1] at h ⊢
      by_cases h2 : 50 ≤ c p
      · rw [if_pos h2, if_pos ⟨h2, h1.2⟩]
      · rw [if_neg h2] at h
        exact absurd rfl h
    · rw [if_neg h1, if_neg (fun z => h1 ⟨by omega, z.2⟩)]
/-- a digit that is none too many -/
theorem tmR_z {c : Nat → Nat} {p : Nat} (h : (tmS 0 c p).1 = 0) : (tmS 0 c p).2 = p ∧ tmR 0 c p = (1, p) ∧ (c p = 48 ∨ c p = 49) := by
  unfold tmS at h ⊢
  rw [if_neg (show ¬ 0 = 1 by decide)] at h ⊢
  by_cases h1 : 48 ≤ c p ∧ c p ≤ 57
  · rw [if_pos h1] at h ⊢
    by_cases h2 : 50 ≤ c p
    · rw [if_pos h2] at h
      have h : c p - 48 = 0 := h
      omega
    · rw [if_neg h2]
      refine ⟨rfl, ?_, by omega⟩
      unfold tmR
      rw [if_neg (show ¬ 0 = 1 by decide), if_neg (fun z => h2 z.1)]
  · rw [if_neg h1] at h
    exact absurd (show (1 : Nat) = 0 from h) (by decide)
theorem oq_s {il : Nat} {c : Nat → Nat} {k : Nat} {st : SK} {p s : Nat} (h0 : (tmR il c p).1 ≠ 0) (h40 : c (tmR il c p).2 = 40) : opR il c (k + 1) st p s = opR il c k ((p, s, (tmR il c p).1) :: st) ((tmR il c p).2 + 1) s := by
  conv => lhs; unfold opR
  rw [if_neg h0, if_pos h40]
theorem oq_0 {il : Nat} {c : Nat → Nat} {st : SK} {p s : Nat} (h0 : (tmR il c p).1 ≠ 0) (h40 : c (tmR il c p).2 = 40) : opR il c 0 st p s = .inl (flt 5 (tmR il c p).2) := by
  unfold opR
  rw [if_neg h0, if_pos h40]
theorem oq_n {il : Nat} {c : Nat → Nat} {k : Nat} {st : SK} {p s : Nat} (h0 : (tmR il c p).1 ≠ 0) (h40 : ¬ c (tmR il c p).2 = 40) : opR il c k st p s = .inr (st, p, (tmR il c p).1, (tmR il c p).2) := by
  unfold opR
  rw [if_neg h0, if_neg h40]
theorem oq_z {il : Nat} {c : Nat → Nat} {k : Nat} {st : SK} {p s : Nat} (h0 : (tmR il c p).1 = 0) : opR il c k st p s = .inl (flt 1 (tmR il c p).2) := by
  unfold opR
  rw [if_pos h0]
/-- no item can begin so -/
theorem it_no {il most : Nat} {c : Nat → Nat} {k : Nat} {st : SK} {p s : Nat} {f : FN} (h : c p = 41 ∨ 256 ≤ c p) : itR il most c k st p s f = .inl (flt 1 p) := by
  have e : tmR il c p = (1, p) := by
    unfold tmR
    by_cases h1 : il = 1
    · rw [if_pos h1, if_neg (by omega)]
    · rw [if_neg h1, if_neg (by omega)]
  have e1 : (tmR il c p).1 = 1 := by rw [e]
  have e2 : (tmR il c p).2 = p := by rw [e]
  unfold itR
  rw [oq_n (by rw [e1]; decide) (by rw [e2]; omega), e1, e2]
  show imR il most c st p 1 p s f = _
  unfold imR
  have e3 : pnS il c p = .inl p := by
    unfold pnS
    by_cases h1 : il = 1
    · rw [if_pos h1, if_neg (by omega)]
    · rw [if_neg h1]
      have : dlS (c p) = 6 := by
        unfold dlS
        rw [if_neg (by omega), if_neg (by omega), if_neg (by omega), if_neg (by omega), if_neg (by omega), if_neg (by omega)]
      rw [this, if_neg (by decide)]
  rw [e3]
theorem sv_c {c : Nat → Nat} {sg : Nat → Nat → FN → RR} {e p s : Nat} {f : FN} {r : Nat × Nat × FN} (h : sg p s f = .inr r) (hn : ¬ (256 ≤ c r.1 ∨ c r.1 = 41)) : svS c sg (e + 1) p s f = svS c sg e r.1 r.2.1 r.2.2 := by
  show (match sg p s f with | Sum.inl x => (Sum.inl x : RR) | Sum.inr r => if 256 ≤ c r.1 ∨ c r.1 = 41 then (Sum.inr r : RR) else svS c sg e r.1 r.2.1 r.2.2) = _
  rw [h]
  exact if_neg hn
theorem sv_r {c : Nat → Nat} {sg : Nat → Nat → FN → RR} {e p s : Nat} {f : FN} {r : Nat × Nat × FN} (h : sg p s f = .inr r) (hn : 256 ≤ c r.1 ∨ c r.1 = 41) : svS c sg (e + 1) p s f = .inr r := by
  show (match sg p s f with | Sum.inl x => (Sum.inl x : RR) | Sum.inr r => if 256 ≤ c r.1 ∨ c r.1 = 41 then (Sum.inr r : RR) else svS c sg e r.1 r.2.1 r.2.2) = _
  rw [h]
  exact if_pos hn
section PRd
variable {HD : SK → Nat → Nat → FN → Prop} {FL : Int32 → Prop} {OK : Nat → Nat → FN → Prop} {il most L : Nat} {t c : Nat → Nat}
def oI (FL : Int32 → Prop) (HD : SK → Nat → Nat → FN → Prop) : Int32 ⊕ (SK × Nat × Nat × FN) → Prop
  | .inl x => FL x
  | .inr q => HD q.1 q.2.1 q.2.2.1 q.2.2.2
def oR (FL : Int32 → Prop) (K : Nat → Nat → FN → Prop) : RR → Prop
  | .inl x => FL x
  | .inr r => K r.1 r.2.1 r.2.2
/-- the open rounds begin before what is read -/
def skO (st : SK) (s p : Nat) : Prop := ∀ e, e ∈ st → (e.2.1 ≤ s ∧ e.1 ≤ p) ∧ 1 ≤ e.2.2 ∧ e.2.2 ≤ 9
theorem skO.up {st : SK} {s s' p p' : Nat} (h : skO st s p) (hs : s ≤ s') (hp : p ≤ p') : skO st s' p' := fun e he => ⟨⟨Nat.le_trans (h e he).1.1 hs, Nat.le_trans (h e he).1.2 hp⟩, (h e he).2⟩
/-- what HD may ask -/
def hdO (most L il : Nat) (st : SK) (p s : Nat) (f : FN) : Prop := st.length ≤ 2 ∧ p ≤ L ∧ s ≤ most ∧ 1 ≤ s ∧ (∀ i, i < s → f i < (if il = 1 then 1600 else 6)) ∧ skO st s p
theorem sg_A {k : Nat} {sub : Nat → Nat → FN → RR} (hil : il ≤ 1) (hc : okc t L c) {st : SK} {p s : Nat} {f : FN} (h : oR FL (fun p2 s2 f2 => oI FL HD (clR most c st p2 s2 f2)) (sgS il most c sub k p s f)) (hk : ∀ (tm q : Nat), 1 ≤ tm → tm ≤ 9 → p ≤ q → q < L → k ≠ 0 → oR FL (fun p2 s2 f2 => oI FL HD (clR most c st p2 s2 f2)) (match sub (q + 1) s f with | .inl x => .inl x | .inr r => if c r.1 = 41 then finS most tm p s (r.1 + 1) r.2.1 r.2.2 else .inl (flt 1 r.1)) → oI FL HD (itR il most c (k - 1) ((p, s, tm) :: st) (q + 1) s f)) (hp : p ≤ L) : oI FL HD (itR il most c k st p s f) := by
  obtain ⟨t1, t2, t3⟩ := tm_ok (il := il) hc hp
  unfold sgS at h
  by_cases h0 : (tmS il c p).1 = 0
  · rw [if_pos h0] at h
    have hi : il = 1 ∨ il = 0 := by omega
    rcases hi with rfl | rfl
    · unfold itR
      rw [oq_z (by rw [tmR_1]; exact h0), tmR_1]
      exact h
    · obtain ⟨a1, a2, a3⟩ := tmR_z h0
      have e1 : (tmR 0 c p).1 = 1 := by rw [a2]
      have e2 : (tmR 0 c p).2 = p := by rw [a2]
      unfold itR
      rw [oq_n (by rw [e1]; decide) (by rw [e2]; omega), e1, e2]
      show oI FL HD (imR 0 most c st p 1 p s f)
      unfold imR
      have e3 : pnS 0 c p = .inl p := by
        unfold pnS
        have : dlS (c p) = 6 := by
          unfold dlS
          rw [if_neg (by omega), if_neg (by omega), if_neg (by omega), if_neg (by omega), if_neg (by omega), if_neg (by omega)]
        rw [if_neg (show ¬ 0 = 1 by decide), this, if_neg (by decide)]
      rw [e3]
      rw [a1] at h
      exact h
  · rw [if_neg h0] at h
    have er := tmR_0 hil h0
    by_cases h40 : c (tmS il c p).2 = 40
    · rw [if_pos h40] at h
      cases k with
      | zero =>
        rw [if_pos rfl] at h
        unfold itR
        rw [oq_0 (by rw [er]; exact h0) (by rw [er]; exact h40), er]
        exact h
      | succ k =>
        rw [if_neg (Nat.succ_ne_zero k)] at h
        have hq := hc.lt (p := (tmS il c p).2) (by omega)
        have := hk (tmS il c p).1 (tmS il c p).2 (by omega) t3 t1 hq (Nat.succ_ne_zero k) h
        unfold itR at this ⊢
        rw [oq_s (by rw [er]; exact h0) (by rw [er]; exact h40), er]
        exact this
    · rw [if_neg h40] at h
      unfold itR
      rw [oq_n (by rw [er]; exact h0) (by rw [er]; exact h40), er]
      show oI FL HD (imR il most c st p (tmS il c p).1 (tmS il c p).2 s f)
      unfold imR
      cases hpn : pnS il c (tmS il c p).2 with
      | inl q =>
        rw [hpn] at h
        exact h
      | inr r =>
        rw [hpn] at h
        have h : oR FL (fun p2 s2 f2 => oI FL HD (clR most c st p2 s2 f2)) (finS most (tmS il c p).1 p s r.2 (s + 1) (up1 f s r.1)) := h
        show oI FL HD (match finS most (tmS il c p).1 p s r.2 (s + 1) (up1 f s r.1) with | .inl x => .inl x | .inr r2 => clR most c st r2.1 r2.2.1 r2.2.2)
        cases hf : finS most (tmS il c p).1 p s r.2 (s + 1) (up1 f s r.1) with
        | inl x =>
          rw [hf] at h
          exact h
        | inr r2 =>
          rw [hf] at h
          exact h
theorem sv_B {k : Nat} (hc : okc t L c) (hH : ∀ st p s f, hdO most L il st p s f → ((p < L ∨ st ≠ []) → oI FL HD (itR il most c (2 - st.length) st p s f)) → (¬ (p < L ∨ st ≠ []) → OK p s f) → HD st p s f)
  (hA : ∀ (st : SK) (p s : Nat) (f : FN), st.length + k = 2 → p ≤ L → s ≤ most → (∀ i, i < s → f i < (if il = 1 then 1600 else 6)) → skO st s p → oR FL (fun p2 s2 f2 => oI FL HD (clR most c st p2 s2 f2)) (lvS il most L c k p s f) → oI FL HD (itR il most c k st p s f)) :
  ∀ (e : Nat) (fr a tm : Nat) (st : SK) (p s : Nat) (f : FN), st.length + 1 + k = 2 → p ≤ L → s ≤ most → (∀ i, i < s → f i < (if il = 1 then 1600 else 6)) → skO ((fr, a, tm) :: st) s p → 1 ≤ e → L - p ≤ e → oR FL (fun p2 s2 f2 => oI FL HD (clR most c st p2 s2 f2)) (match svS c (lvS il most L c k) e p s f with | .inl x => .inl x | .inr r => if c r.1 = 41 then finS most tm fr a (r.1 + 1) r.2.1 r.2.2 else .inl (flt 1 r.1)) → oI FL HD (itR il most c k ((fr, a, tm) :: st) p s f) := by
  intro e
  induction e with
  | zero =>
    intro fr a tm st p s f _ _ _ _ _ h
    exact absurd h (by decide)
  | succ e ih =>
    intro fr a tm st p s f hk hp hs hf hsk _ hl h
    refine hA _ p s f (by rw [List.length_cons]; exact hk) hp hs hf hsk ?_
    cases hlv : lvS il most L c k p s f with
    | inl x =>
      rw [show svS c (lvS il most L c k) (e + 1) p s f = .inl x by unfold svS; rw [hlv]] at h
      exact h
    | inr r =>
      obtain ⟨a1, a2, a3, a4, a5⟩ := lv_ok hc k p s f hp hf r hlv
      have ho : hdO most L il ((fr, a, tm) :: st) r.1 r.2.1 r.2.2 := ⟨by rw [List.length_cons]; omega, a2, a4, by omega, a5, hsk.up (by omega) (by omega)⟩
      have hk2 : 2 - ((fr, a, tm) :: st).length = k := by rw [List.length_cons]; omega
      show oI FL HD (clR most c ((fr, a, tm) :: st) r.1 r.2.1 r.2.2)
      by_cases h41 : c r.1 = 41
      · rw [sv_r (sg := lvS il most L c k) hlv (Or.inr h41)] at h
        have h : oR FL (fun p2 s2 f2 => oI FL HD (clR most c st p2 s2 f2)) (if c r.1 = 41 then finS most tm fr a (r.1 + 1) r.2.1 r.2.2 else .inl (flt 1 r.1)) := h
        rw [if_pos h41] at h
        unfold clR
        rw [if_pos h41]
        show oI FL HD (match finS most tm fr a (r.1 + 1) r.2.1 r.2.2 with | .inl x => .inl x | .inr r => clR most c st r.1 r.2.1 r.2.2)
        cases hfi : finS most tm fr a (r.1 + 1) r.2.1 r.2.2 with
        | inl x =>
          rw [hfi] at h
          exact h
        | inr r2 =>
          rw [hfi] at h
          exact h
      · rw [show clR most c ((fr, a, tm) :: st) r.1 r.2.1 r.2.2 = .inr ((fr, a, tm) :: st, r.1, r.2.1, r.2.2) by unfold clR; exact if_neg h41]
        refine hH _ _ _ _ ho (fun _ => ?_) (fun z => absurd (Or.inr (List.cons_ne_nil _ _)) z)
        rw [hk2]
        by_cases h256 : 256 ≤ c r.1
        · rw [sv_r (sg := lvS il most L c k) hlv (Or.inl h256)] at h
          have h : oR FL (fun p2 s2 f2 => oI FL HD (clR most c st p2 s2 f2)) (if c r.1 = 41 then finS most tm fr a (r.1 + 1) r.2.1 r.2.2 else .inl (flt 1 r.1)) := h
          rw [if_neg h41] at h
          rw [it_no (Or.inr h256)]
          exact h
        · rw [sv_c (sg := lvS il most L c k) hlv (fun z => z.elim h256 h41)] at h
          have := hc.lt (p := r.1) (by omega)
          exact ih fr a tm st r.1 r.2.1 r.2.2 hk a2 a4 a5 (hsk.up (by omega) (by omega)) (by omega) (by omega) h
theorem lv_A (hil : il ≤ 1) (hc : okc t L c) (hH : ∀ st p s f, hdO most L il st p s f → ((p < L ∨ st ≠ []) → oI FL HD (itR il most c (2 - st.length) st p s f)) → (¬ (p < L ∨ st ≠ []) → OK p s f) → HD st p s f) :
  ∀ (k : Nat) (st : SK) (p s : Nat) (f : FN), st.length + k = 2 → p ≤ L → s ≤ most → (∀ i, i < s → f i < (if il = 1 then 1600 else 6)) → skO st s p → oR FL (fun p2 s2 f2 => oI FL HD (clR most c st p2 s2 f2)) (lvS il most L c k p s f) → oI FL HD (itR il most c k st p s f)
  | 0, st, p, s, f, hk, hp, hs, hf, hsk, h => sg_A hil hc h (fun _ _ _ _ _ _ z => absurd rfl z) hp
  | k + 1, st, p, s, f, hk, hp, hs, hf, hsk, h => by
    refine sg_A (k := k + 1) (sub := svS c (lvS il most L c k) L) hil hc h (fun tm q h1 h2 h3 h4 _ h5 => ?_) hp
    exact sv_B hc hH (fun st p s f a b c' d e' g => lv_A hil hc hH k st p s f a b c' d e' g) L p s tm st (q + 1) s f (by omega) (by omega) hs hf (fun e he => by
      rcases List.mem_cons.mp he with z | z
      · subst z
        exact ⟨⟨Nat.le_refl _, by show p ≤ q + 1; omega⟩, h1, h2⟩
      · exact (hsk.up (Nat.le_refl _) (show p ≤ q + 1 by omega)) e z) (by omega) (by omega) h5
/-- the stack comes to what the rounds in rounds come to -/
theorem rd_eq (hil : il ≤ 1) (hc : okc t L c) (hL : 1 ≤ L) (hH : ∀ st p s f, hdO most L il st p s f → ((p < L ∨ st ≠ []) → oI FL HD (itR il most c (2 - st.length) st p s f)) → (¬ (p < L ∨ st ≠ []) → OK p s f) → HD st p s f) (h : oR FL OK (rdS il most L c)) : oI FL HD (itR il most c 2 [] 0 0 (fun _ => 0)) := by
  have key : ∀ (e p s : Nat) (f : FN), p ≤ L → s ≤ most → (∀ i, i < s → f i < (if il = 1 then 1600 else 6)) → 1 ≤ e → L - p ≤ e → oR FL OK (match svS c (lvS il most L c 2) e p s f with | .inl x => .inl x | .inr r => if 256 ≤ c r.1 then .inr r else .inl (flt 1 r.1)) → oI FL HD (itR il most c 2 [] p s f) := by
    intro e
    induction e with
    | zero => intro p s f _ _ _ h; exact absurd h (by decide)
    | succ e ih =>
      intro p s f hp hs hf _ hl h
      refine lv_A hil hc hH 2 [] p s f rfl hp hs hf (fun e he => (nomatch he)) ?_
      cases hlv : lvS il most L c 2 p s f with
      | inl x =>
        rw [show svS c (lvS il most L c 2) (e + 1) p s f = .inl x by unfold svS; rw [hlv]] at h
        exact h
      | inr r =>
        obtain ⟨a1, a2, a3, a4, a5⟩ := lv_ok hc 2 p s f hp hf r hlv
        have ho : hdO most L il [] r.1 r.2.1 r.2.2 := ⟨by decide, a2, a4, by omega, a5, fun e he => (nomatch he)⟩
        show HD [] r.1 r.2.1 r.2.2
        refine hH _ _ _ _ ho (fun hz => ?_) (fun hz => ?_)
        · show oI FL HD (itR il most c 2 [] r.1 r.2.1 r.2.2)
          have hlt : r.1 < L := hz.elim id (fun z => absurd rfl z)
          have h256 : ¬ 256 ≤ c r.1 := by rcases hc.at r.1 with z | z <;> omega
          by_cases h41 : c r.1 = 41
          · rw [sv_r (sg := lvS il most L c 2) hlv (Or.inr h41)] at h
            have h : oR FL OK (if 256 ≤ c r.1 then .inr r else .inl (flt 1 r.1)) := h
            rw [if_neg h256] at h
            rw [it_no (Or.inl h41)]
            exact h
          · rw [sv_c (sg := lvS il most L c 2) hlv (fun z => z.elim h256 h41)] at h
            exact ih r.1 r.2.1 r.2.2 a2 a4 a5 (by omega) (by omega) h
        · have h256 : 256 ≤ c r.1 := by rcases hc.at r.1 with z | z <;> omega
          rw [sv_r (sg := lvS il most L c 2) hlv (Or.inl h256)] at h
          have h : oR FL OK (if 256 ≤ c r.1 then .inr r else .inl (flt 1 r.1)) := h
          rw [if_pos h256] at h
          exact h
  exact key L 0 0 _ (Nat.zero_le _) (Nat.zero_le _) (fun i hi => absurd hi (Nat.not_lt_zero i)) hL (by omega) h
end PRd
