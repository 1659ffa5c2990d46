/-! ===== the texts with rounds: what they come to ===== -/
abbrev FN : Type := Nat → Nat
/-- a fault, or: place, how many, which -/
abbrev RR : Type := Int32 ⊕ (Nat × Nat × FN)
def ccS (t : Nat → Nat) (L p : Nat) : Nat := if p < L then t p else 1000
def chI (c : Nat) : Int32 := if c < 256 then nI c else -1
def flt (k p : Nat) : Int32 := (-1000) * nI k - nI p
theorem ch_eq {c k : Nat} (hk : k < 256) : chI c = nI k ↔ c = k := by
  unfold chI
  split
  · exact nI_eq (by omega) (by omega)
  · exact ⟨fun z => absurd (show nI k < 0 by rw [← z]; decide) (nI_pos (by omega)), fun z => by omega⟩
theorem ch_end {c : Nat} : chI c = -1 ↔ 256 ≤ c := by
  unfold chI
  split
  · exact ⟨fun z => absurd (show nI c < 0 by rw [z]; decide) (nI_pos (by omega)), fun z => by omega⟩
  · exact ⟨fun _ => by omega, fun _ => rfl⟩
theorem ch_lt {c k : Nat} (hk : k < 256) : chI c < nI k ↔ c < k ∨ 256 ≤ c := by
  unfold chI
  split
  · rw [nI_ltI (by omega) (by omega)]
    omega
  · exact ⟨fun _ => Or.inr (by omega), fun _ => Int32.lt_of_lt_of_le (show (-1 : Int32) < 0 by decide) (nI_pos' (by omega))⟩
theorem ch_gt {c k : Nat} (hk : k < 256) : nI k < chI c ↔ k < c ∧ c < 256 := by
  unfold chI
  split
  · rw [nI_ltI (by omega) (by omega)]
    omega
  · exact ⟨fun z => absurd z (Int32.not_lt.mpr (Int32.le_trans (show (-1 : Int32) ≤ 0 by decide) (nI_pos' (by omega)))), fun z => by omega⟩
theorem flt_neg {k q : Nat} (h1 : 1 ≤ k) (h2 : k ≤ 6) (hq : q ≤ 300) : flt k q < 0 := by
  have key : ∀ k, k < 7 → ∀ q, q < 301 → 1 ≤ k → flt k q < 0 := by decide +kernel
  exact key k (by omega) q (by omega) h1
def dlS (c : Nat) : Nat := if c = 116 then 0 else if c = 112 then 1 else if c = 115 then 2 else if c = 98 then 3 else if c = 111 then 4 else if c = 99 then 5 else 6
def tmS (il : Nat) (c : Nat → Nat) (p : Nat) : Nat × Nat :=
  if il = 1 then (if c p = 42 then (if 50 ≤ c (p + 1) ∧ c (p + 1) ≤ 57 then (c (p + 1) - 48, p + 2) else (0, p + 1)) else (1, p))
  else (if 48 ≤ c p ∧ c p ≤ 57 then (if 50 ≤ c p then (c p - 48, p + 1) else (0, p)) else (1, p))
def pnS (il : Nat) (c : Nat → Nat) (p : Nat) : Nat ⊕ (Nat × Nat) :=
  if il = 1 then (if 48 ≤ c p ∧ c p ≤ 57 then (if 48 ≤ c (p + 1) ∧ c (p + 1) ≤ 57 then (if 97 ≤ c (p + 2) ∧ c (p + 2) ≤ 112 then .inr ((10 * (c p - 48) + (c (p + 1) - 48)) * 16 + (c (p + 2) - 97), p + 3) else .inl (p + 2)) else .inl (p + 1)) else .inl p)
  else (if dlS (c p) < 6 then .inr (dlS (c p), p + 1) else .inl p)
def rpF (f : FN) (m lo : Nat) : Nat → FN
  | 0 => f
  | k + 1 => up1 (rpF f m lo k) (lo + k) (rpF f m lo k (lo + k - m))
def finS (most t p s p2 s2 : Nat) (f2 : FN) : RR := if most < s + (s2 - s) * t then .inl (flt 6 p) else .inr (p2, s + (s2 - s) * t, rpF f2 (s2 - s) s2 ((s2 - s) * t - (s2 - s)))
def sgS (il most : Nat) (c : Nat → Nat) (sub : Nat → Nat → FN → RR) (k p s : Nat) (f : FN) : RR :=
  if (tmS il c p).1 = 0 then .inl (flt 1 (tmS il c p).2)
  else if c (tmS il c p).2 = 40 then
    (if k = 0 then .inl (flt 5 (tmS il c p).2) else match sub ((tmS il c p).2 + 1) s f with
      | .inl x => .inl x
      | .inr r => if c r.1 = 41 then finS most (tmS il c p).1 p s (r.1 + 1) r.2.1 r.2.2 else .inl (flt 1 r.1))
  else match pnS il c (tmS il c p).2 with
    | .inl q => .inl (flt 1 q)
    | .inr r => finS most (tmS il c p).1 p s r.2 (s + 1) (up1 f s r.1)
def svS (c : Nat → Nat) (sg : Nat → Nat → FN → RR) : Nat → Nat → Nat → FN → RR
  | 0, p, _, _ => .inl (flt 1 p)
  | e + 1, p, s, f => match sg p s f with
    | .inl x => .inl x
    | .inr r => if 256 ≤ c r.1 ∨ c r.1 = 41 then .inr r else svS c sg e r.1 r.2.1 r.2.2
def lvS (il most L : Nat) (c : Nat → Nat) : Nat → Nat → Nat → FN → RR
  | 0 => sgS il most c (fun _ _ _ => .inl 0) 0
  | k + 1 => sgS il most c (svS c (lvS il most L c k) L) (k + 1)
def rdS (il most L : Nat) (c : Nat → Nat) : RR := match svS c (lvS il most L c 2) L 0 0 (fun _ => 0) with
  | .inl x => .inl x
  | .inr r => if 256 ≤ c r.1 then .inr r else .inl (flt 1 r.1)
/-- the text as it lies on the tape -/
def okc (t : Nat → Nat) (L : Nat) (c : Nat → Nat) : Prop := c = ccS t L ∧ ∀ j, j < L → t j < 256
theorem okc.at {t : Nat → Nat} {L : Nat} {c : Nat → Nat} (h : okc t L c) (p : Nat) : (p < L ∧ c p = t p ∧ t p < 256) ∨ (L ≤ p ∧ c p = 1000) := by
  rw [h.1]
  unfold ccS
  by_cases e : p < L
  · exact Or.inl ⟨e, if_pos e, h.2 p e⟩
  · exact Or.inr ⟨by omega, if_neg e⟩
theorem okc.lt {t : Nat → Nat} {L : Nat} {c : Nat → Nat} (h : okc t L c) {p : Nat} (hp : c p < 256) : p < L := by
  rcases h.at p with z | z <;> omega
theorem rp_ok {B : Nat} {f : FN} {m lo : Nat} (hm : 1 ≤ m) (hl : m ≤ lo) (hf : ∀ i, i < lo → f i < B) : ∀ k i, i < lo + k → rpF f m lo k i < B
  | 0, i, hi => hf i hi
  | k + 1, i, hi => by
    have ih := rp_ok hm hl hf k
    show up1 (rpF f m lo k) (lo + k) (rpF f m lo k (lo + k - m)) i < B
    unfold up1
    split
    · exact ih _ (by omega)
    · exact ih i (by omega)
theorem rp_e {f h : FN} {m lo s : Nat} (hm : 1 ≤ m) (hl : m ≤ lo) (hf : ∀ i, i < lo → f i = h i) : ∀ k i, i < lo + k → rpF f m lo k i = rpF h m lo k i
  | 0, i, hi => hf i hi
  | k + 1, i, hi => by
    have ih := rp_e (s := s) hm hl hf k
    show up1 (rpF f m lo k) (lo + k) (rpF f m lo k (lo + k - m)) i = up1 (rpF h m lo k) (lo + k) (rpF h m lo k (lo + k - m)) i
    unfold up1
    split
    · exact ih _ (by omega)
    · exact ih i (by omega)
/-- what is read is in its bounds -/
def okr (B L most p s : Nat) (r : Nat × Nat × FN) : Prop := p < r.1 ∧ r.1 ≤ L ∧ s < r.2.1 ∧ r.2.1 ≤ most ∧ ∀ i, i < r.2.1 → r.2.2 i < B
theorem fin_ok {B L most t p s p2 s2 : Nat} {f2 : FN} {r : Nat × Nat × FN} (h : finS most t p s p2 s2 f2 = .inr r) (ht : 1 ≤ t) (h1 : p < p2) (h2 : p2 ≤ L) (hs : s < s2) (hf : ∀ i, i < s2 → f2 i < B) : okr B L most p s r := by
  unfold finS at h
  split at h
  · cases h
  · rename_i hm
    have e := Sum.inr.inj h
    subst e
    have hx : s2 - s ≤ (s2 - s) * t := Nat.le_mul_of_pos_right _ ht
    refine ⟨h1, h2, ?_, by show s + (s2 - s) * t ≤ most; omega, fun i hi => ?_⟩
    · show s < s + (s2 - s) * t
      omega
    · exact rp_ok (by omega) (by omega) hf _ i (by have : i < s + (s2 - s) * t := hi; omega)
theorem tm_ok {il p : Nat} {t c : Nat → Nat} {L : Nat} (hc : okc t L c) (hp : p ≤ L) : p ≤ (tmS il c p).2 ∧ (tmS il c p).2 ≤ L ∧ (tmS il c p).1 ≤ 9 := by
  unfold tmS
  have a := hc.at p
  have b := hc.at (p + 1)
  split
  · split
    · split
      · exact ⟨by show p ≤ p + 2; omega, by show p + 2 ≤ L; omega, by show c (p + 1) - 48 ≤ 9; omega⟩
      · exact ⟨by show p ≤ p + 1; omega, by show p + 1 ≤ L; omega, by show 0 ≤ 9; omega⟩
    · exact ⟨Nat.le_refl _, hp, by show 1 ≤ 9; omega⟩
  · split
    · split
      · exact ⟨by show p ≤ p + 1; omega, by show p + 1 ≤ L; omega, by show c p - 48 ≤ 9; omega⟩
      · exact ⟨Nat.le_refl _, hp, by show 0 ≤ 9; omega⟩
    · exact ⟨Nat.le_refl _, hp, by show 1 ≤ 9; omega⟩
theorem pn_ok {il p : Nat} {t c : Nat → Nat} {L : Nat} (hc : okc t L c) (hp : p ≤ L) : (∀ q, pnS il c p = .inl q → q ≤ L) ∧ ∀ r, pnS il c p = .inr r → p < r.2 ∧ r.2 ≤ L ∧ r.1 < (if il = 1 then 1600 else 6) := by
  unfold pnS
  have a := hc.at p
  have b := hc.at (p + 1)
  have d := hc.at (p + 2)
  split
  · split
    · split
      · split
        · refine ⟨fun q h => (nomatch h), fun r h => ?_⟩
          have e := Sum.inr.inj h
          subst e
          exact ⟨by show p < p + 3; omega, by show p + 3 ≤ L; omega, by show (10 * (c p - 48) + (c (p + 1) - 48)) * 16 + (c (p + 2) - 97) < 1600; omega⟩
        · refine ⟨fun q h => ?_, fun r h => (nomatch h)⟩
          have e := Sum.inl.inj h
          omega
      · refine ⟨fun q h => ?_, fun r h => (nomatch h)⟩
        have e := Sum.inl.inj h
        omega
    · refine ⟨fun q h => ?_, fun r h => (nomatch h)⟩
      have e := Sum.inl.inj h
      omega
  · split
    · rename_i h6
      refine ⟨fun q h => (nomatch h), fun r h => ?_⟩
      have e := Sum.inr.inj h
      subst e
      have : c p ≠ 1000 := fun z => by rw [z] at h6; exact absurd h6 (by decide)
      exact ⟨by show p < p + 1; omega, by show p + 1 ≤ L; omega, h6⟩
    · refine ⟨fun q h => ?_, fun r h => (nomatch h)⟩
      have e := Sum.inl.inj h
      omega
theorem sg_ok {il most k p s L : Nat} {t c : Nat → Nat} {sub : Nat → Nat → FN → RR} {f : FN} (hc : okc t L c) (hp : p ≤ L) (hf : ∀ i, i < s → f i < (if il = 1 then 1600 else 6)) (hsub : k ≠ 0 → ∀ q, q ≤ L → ∀ r, sub q s f = .inr r → okr (if il = 1 then 1600 else 6) L most q s r) : ∀ r, sgS il most c sub k p s f = .inr r → okr (if il = 1 then 1600 else 6) L most p s r := by
  intro r h
  obtain ⟨t1, t2, t3⟩ := tm_ok (il := il) hc hp
  unfold sgS at h
  split at h
  · cases h
  · rename_i h0
    split at h
    · rename_i h4
      have t4 := hc.lt (p := (tmS il c p).2) (by omega)
      split at h
      · cases h
      · rename_i hk
        split at h
        · cases h
        · rename_i r2 e2
          obtain ⟨a1, a2, a3, a4, a5⟩ := hsub hk _ (by omega) r2 e2
          split at h
          · rename_i h41
            have t5 := hc.lt (p := r2.1) (by omega)
            exact fin_ok h (by omega) (by omega) (by omega) a3 a5
          · cases h
    · split at h
      · cases h
      · rename_i r2 e2
        obtain ⟨a1, a2, a3⟩ := (pn_ok (il := il) hc t2).2 r2 e2
        refine fin_ok h (by omega) (by omega) (by omega) (Nat.lt_succ_self s) (fun i hi => ?_)
        unfold up1
        split
        · exact a3
        · exact hf i (by omega)
theorem sv_ok {B most p s L e : Nat} {t c : Nat → Nat} {sg : Nat → Nat → FN → RR} {f : FN} (hc : okc t L c) (hp : p ≤ L) (hf : ∀ i, i < s → f i < B) (hsg : ∀ q s2 f2, q ≤ L → (∀ i, i < s2 → f2 i < B) → ∀ r, sg q s2 f2 = .inr r → okr B L most q s2 r) : ∀ r, svS c sg e p s f = .inr r → okr B L most p s r := by
  induction e generalizing p s f with
  | zero => intro r h; cases h
  | succ e ih =>
    intro r h
    unfold svS at h
    split at h
    · cases h
    · rename_i r2 e2
      have h1 := hsg p s f hp hf r2 e2
      split at h
      · have e3 := Sum.inr.inj h
        subst e3
        exact h1
      · obtain ⟨a1, a2, a3, a4, a5⟩ := h1
        obtain ⟨b1, b2, b3, b4, b5⟩ := ih a2 a5 r h
        exact ⟨by omega, b2, by omega, b4, b5⟩
theorem lv_ok {il most L : Nat} {t c : Nat → Nat} (hc : okc t L c) : ∀ k p s (f : FN), p ≤ L → (∀ i, i < s → f i < (if il = 1 then 1600 else 6)) → ∀ r, lvS il most L c k p s f = .inr r → okr (if il = 1 then 1600 else 6) L most p s r
  | 0, p, s, f, hp, hf => sg_ok hc hp hf (fun z => absurd rfl z)
  | k + 1, p, s, f, hp, hf => sg_ok hc hp hf (fun _ q hq r h => sv_ok hc hq hf (fun q2 s2 f2 h2 h3 r2 h4 => lv_ok hc k q2 s2 f2 h2 h3 r2 h4) r h)
theorem rd_ok {il most L : Nat} {t c : Nat → Nat} (hc : okc t L c) {r : Nat × Nat × FN} (h : rdS il most L c = .inr r) : okr (if il = 1 then 1600 else 6) L most 0 0 r ∧ 256 ≤ c r.1 := by
  unfold rdS at h
  split at h
  · cases h
  · rename_i r2 e2
    split at h
    · rename_i h2
      have e3 := Sum.inr.inj h
      subst e3
      exact ⟨sv_ok hc (Nat.zero_le _) (fun i hi => absurd hi (Nat.not_lt_zero i)) (fun q2 s2 f2 h2 h3 r2 h4 => lv_ok hc 2 q2 s2 f2 h2 h3 r2 h4) r2 e2, h2⟩
    · cases h
/-- every fault is below 0 -/
theorem fin_neg {most t p s p2 s2 : Nat} {f2 : FN} {x : Int32} (h : finS most t p s p2 s2 f2 = .inl x) (hp : p ≤ 300) : x < 0 := by
  unfold finS at h
  split at h
  · rw [← Sum.inl.inj h]
    exact flt_neg (by decide) (by decide) hp
  · cases h
theorem sg_neg {il most k p s L : Nat} {t c : Nat → Nat} {sub : Nat → Nat → FN → RR} {f : FN} (hc : okc t L c) (hL : L ≤ 260) (hp : p ≤ L) (hsub : k ≠ 0 → ∀ q, q ≤ L → (∀ x, sub q s f = .inl x → x < 0) ∧ ∀ r, sub q s f = .inr r → r.1 ≤ L) : ∀ x, sgS il most c sub k p s f = .inl x → x < 0 := by
  intro x h
  obtain ⟨t1, t2, t3⟩ := tm_ok (il := il) hc hp
  unfold sgS at h
  split at h
  · rw [← Sum.inl.inj h]
    exact flt_neg (by decide) (by decide) (by omega)
  · split at h
    · rename_i h4
      have t4 := hc.lt (p := (tmS il c p).2) (by omega)
      split at h
      · rw [← Sum.inl.inj h]
        exact flt_neg (by decide) (by decide) (by omega)
      · rename_i hk
        have hs := hsub hk _ (show (tmS il c p).2 + 1 ≤ L by omega)
        split at h
        · rename_i x2 e2
          rw [← Sum.inl.inj h]
          exact hs.1 x2 e2
        · rename_i r2 e2
          have := hs.2 r2 e2
          split at h
          · exact fin_neg h (by omega)
          · rw [← Sum.inl.inj h]
            exact flt_neg (by decide) (by decide) (by omega)
    · split at h
      · rename_i q e2
        have := (pn_ok (il := il) hc t2).1 q e2
        rw [← Sum.inl.inj h]
        exact flt_neg (by decide) (by decide) (by omega)
      · exact fin_neg h (by omega)
theorem sv_neg {B most p s L e : Nat} {t c : Nat → Nat} {sg : Nat → Nat → FN → RR} {f : FN} (hc : okc t L c) (hL : L ≤ 260) (hp : p ≤ L) (hf : ∀ i, i < s → f i < B) (hsg : ∀ q s2 f2, q ≤ L → (∀ i, i < s2 → f2 i < B) → (∀ x, sg q s2 f2 = .inl x → x < 0) ∧ ∀ r, sg q s2 f2 = .inr r → okr B L most q s2 r) : ∀ x, svS c sg e p s f = .inl x → x < 0 := by
  induction e generalizing p s f with
  | zero =>
    intro x h
    rw [← Sum.inl.inj h]
    exact flt_neg (by decide) (by decide) (by omega)
  | succ e ih =>
    intro x h
    unfold svS at h
    split at h
    · rename_i x2 e2
      rw [← Sum.inl.inj h]
      exact (hsg p s f hp hf).1 x2 e2
    · rename_i r2 e2
      obtain ⟨a1, a2, a3, a4, a5⟩ := (hsg p s f hp hf).2 r2 e2
      split at h
      · cases h
      · exact ih a2 a5 x h
theorem lv_neg {il most L : Nat} {t c : Nat → Nat} (hc : okc t L c) (hL : L ≤ 260) : ∀ k p s (f : FN), p ≤ L → (∀ i, i < s → f i < (if il = 1 then 1600 else 6)) → ∀ x, lvS il most L c k p s f = .inl x → x < 0
  | 0, p, s, f, hp, hf => sg_neg hc hL hp (fun z => absurd rfl z)
  | k + 1, p, s, f, hp, hf => sg_neg hc hL hp (fun _ q hq => ⟨sv_neg hc hL hq hf (fun q2 s2 f2 h2 h3 => ⟨lv_neg hc hL k q2 s2 f2 h2 h3, lv_ok hc k q2 s2 f2 h2 h3⟩), fun r h => (sv_ok hc hq hf (fun q2 s2 f2 h2 h3 => lv_ok hc k q2 s2 f2 h2 h3) r h).2.1⟩)
theorem rd_neg {il most L : Nat} {t c : Nat → Nat} (hc : okc t L c) (hL : L ≤ 260) {x : Int32} (h : rdS il most L c = .inl x) : x < 0 := by
  have hf : ∀ i, i < 0 → (fun _ => 0 : FN) i < (if il = 1 then 1600 else 6) := fun i hi => absurd hi (Nat.not_lt_zero i)
  unfold rdS at h
  split at h
  · rename_i x2 e2
    rw [← Sum.inl.inj h]
    exact sv_neg hc hL (Nat.zero_le _) hf (fun q2 s2 f2 h2 h3 => ⟨lv_neg hc hL 2 q2 s2 f2 h2 h3, lv_ok hc 2 q2 s2 f2 h2 h3⟩) x2 e2
  · rename_i r2 e2
    have := (sv_ok hc (Nat.zero_le _) hf (fun q2 s2 f2 h2 h3 => lv_ok hc 2 q2 s2 f2 h2 h3) r2 e2).2.1
    split at h
    · cases h
    · rw [← Sum.inl.inj h]
      exact flt_neg (by decide) (by decide) (by omega)

