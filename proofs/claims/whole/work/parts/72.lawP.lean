/-! ===== the law's text: what it comes to ===== -/
/-- place, how many signs are laid, which -/
abbrev TS : Type := Nat × Nat × CDE
abbrev PR : Type := Int32 ⊕ TS
def cdU (cd : CDE) (s : Nat) (v : Nat × Nat) : CDE := fun x => if x = s then v else cd x
theorem cdU_s (cd : CDE) (s : Nat) (v : Nat × Nat) : cdU cd s v s = v := if_pos rfl
theorem cdU_n {cd : CDE} {s : Nat} {v : Nat × Nat} {x : Nat} (h : x ≠ s) : cdU cd s v x = cd x := if_neg h
def bnd (x : PR) (f : TS → PR) : PR := match x with
  | .inl e => .inl e
  | .inr r => f r
theorem bnd_l {x : PR} {f : TS → PR} {e : Int32} (h : x = .inl e) : bnd x f = .inl e := by rw [h]; rfl
theorem bnd_r {x : PR} {f : TS → PR} {r : TS} (h : x = .inr r) : bnd x f = f r := by rw [h]; rfl
theorem bnd_i {x : PR} {f : TS → PR} {r : TS} (h : bnd x f = .inr r) : ∃ q, x = .inr q ∧ f q = .inr r := by
  match x, h with
  | .inl e, h => cases h
  | .inr q, h => exact ⟨q, rfl, h⟩
def knL (c : Nat) : Nat := if c = 107 then 0 else if c = 110 then 1 else if c = 122 then 2 else if c = 99 then 3 else if c = 117 then 4 else if c = 121 then 5 else if c = 115 then 6 else if c = 105 then 7 else if c = 119 then 8 else 9
def sgL (c : Nat) : Nat := if c = 43 then 2 else if c = 45 then 3 else if c = 42 then 4 else if c = 47 then 5 else if c = 37 then 6 else 0
def cmL (c : Nat) : Nat := if c = 60 then 7 else if c = 62 then 8 else if c = 61 then 9 else 0
def dgL (c : Nat → Nat) : Nat → Nat → Nat → Nat × Nat
  | 0, p, v => (p, v)
  | e + 1, p, v => if 48 ≤ c p ∧ c p ≤ 57 then dgL c e (p + 1) (v * 10 + (c p - 48)) else (p, v)
def psL (c : Nat → Nat) (z : Nat) (r : TS) : PR := if c r.1 = z then .inr (r.1 + 1, r.2) else .inl (flt 1 r.1)
def nbL (c : Nat → Nat) (q : TS) : PR := if 48 ≤ c (dgL c 5 q.1 0).1 ∧ c (dgL c 5 q.1 0).1 ≤ 57 then .inl (flt 2 (dgL c 5 q.1 0).1) else .inr ((dgL c 5 q.1 0).1, q.2.1 + 1, cdU q.2.2 q.2.1 (0, (dgL c 5 q.1 0).2))
def atL (c : Nat → Nat) (q : TS) : PR := if knL (c q.1) < 9 then .inr (q.1 + 1, q.2.1 + 1, cdU q.2.2 q.2.1 (1, knL (c q.1))) else if 48 ≤ c q.1 ∧ c q.1 ≤ 57 then nbL c q else .inl (flt 1 q.1)
def fcL (c : Nat → Nat) (sub : TS → PR) (k : Nat) (q : TS) : PR := if c q.1 = 91 then (if k = 0 then .inl (flt 5 q.1) else bnd (sub (q.1 + 1, q.2)) (psL c 93)) else atL c q
/-- what waits is laid -/
def emL (w : Nat) (q : TS) : TS := if w = 0 then q else (q.1, q.2.1 + 1, cdU q.2.2 q.2.1 (w, 0))
theorem emL_z (q : TS) : emL 0 q = q := rfl
theorem emL_n {w : Nat} (h : ¬ w = 0) (q : TS) : emL w q = (q.1, q.2.1 + 1, cdU q.2.2 q.2.1 (w, 0)) := if_neg h
theorem emL_p (w : Nat) (q : TS) : (emL w q).1 = q.1 := by unfold emL; split <;> rfl
def slL (c : Nat → Nat) (fac : TS → PR) : Nat → Nat → TS → PR
  | 0, w, q => .inr (emL w q)
  | e + 1, w, q => if sgL (c q.1) = 0 then .inr (emL w q) else if sgL (c q.1) ≤ 3 then bnd (fac (q.1 + 1, (emL w q).2)) (fun r => slL c fac e (sgL (c q.1)) r) else bnd (fac (q.1 + 1, q.2)) (fun r => slL c fac e w (emL (sgL (c q.1)) r))
def smO (c : Nat → Nat) (fac : TS → PR) (q : TS) : PR := bnd (fac q) (fun r => slL c fac 240 0 r)
def smL (c : Nat → Nat) : Nat → TS → PR
  | 0 => smO c (fcL c (fun _ => .inl 0) 0)
  | k + 1 => smO c (fcL c (smL c k) (k + 1))
def fkL (c : Nat → Nat) : Nat → TS → PR
  | 0 => fcL c (fun _ => .inl 0) 0
  | k + 1 => fcL c (smL c k) (k + 1)
theorem smL_e (c : Nat → Nat) (k : Nat) : smL c k = smO c (fkL c k) := by cases k <;> rfl
/-- w: one more than the place of what waits for its landing -/
def ldL (w s : Nat) (cd : CDE) : CDE := if w = 0 then cd else cdU cd (w - 1) ((cd (w - 1)).1, s)
def clL (c : Nat → Nat) (tst : TS → PR) : Nat → Nat → TS → PR
  | 0, w, q => .inr (q.1, q.2.1, ldL w q.2.1 q.2.2)
  | e + 1, w, q => if c q.1 = 124 then bnd (tst (q.1 + 1, q.2.1 + 1, cdU (ldL w q.2.1 q.2.2) q.2.1 (12, 0))) (fun r => clL c tst e (q.2.1 + 1) r)
    else if c q.1 = 38 then bnd (tst (q.1 + 1, q.2.1 + 1, cdU q.2.2 q.2.1 (11, 0))) (fun r => clL c tst e w (r.1, r.2.1, ldL (q.2.1 + 1) r.2.1 r.2.2))
    else .inr (q.1, q.2.1, ldL w q.2.1 q.2.2)
def chO (c : Nat → Nat) (tst : TS → PR) (q : TS) : PR := bnd (tst q) (fun r => clL c tst 240 0 r)
def tsL (c : Nat → Nat) (sm sch sts : TS → PR) (k : Nat) (q : TS) : PR :=
  if c q.1 = 33 then (if k = 0 then .inl (flt 5 q.1) else bnd (sts (q.1 + 1, q.2)) (fun r => .inr (emL 10 r)))
  else if c q.1 = 40 then (if k = 0 then .inl (flt 5 q.1) else bnd (sch (q.1 + 1, q.2)) (psL c 41))
  else bnd (sm q) (fun r => if cmL (c r.1) = 0 then .inl (flt 1 r.1) else bnd (sm (r.1 + 1, r.2)) (fun r2 => .inr (emL (cmL (c r.1)) r2)))
def tkL (c : Nat → Nat) : Nat → TS → PR
  | 0 => tsL c (smL c 0) (fun _ => .inl 0) (fun _ => .inl 0) 0
  | k + 1 => tsL c (smL c (k + 1)) (chO c (tkL c k)) (tkL c k) (k + 1)
abbrev chL (c : Nat → Nat) (k : Nat) : TS → PR := chO c (tkL c k)
def rlP (c : Nat) : Nat := if c = 103 then 0 else if c = 102 then 1 else if c = 97 then 2 else if c = 100 then 3 else if c = 120 then 4 else 5
/-- a rule's E (or none), then its C -/
def reL (c : Nat → Nat) (q : TS) : PR := if c q.1 = 120 then .inr (q.1 + 1, q.2) else smL c 6 (q.1 + 1, q.2)
def rcL (c : Nat → Nat) (q : TS) : PR := bnd (psL c 40 q) (fun f => bnd (chL c 5 f) (psL c 41))
abbrev wS (w : LWD) : Nat := w.2.2.2.2.2.2
abbrev wC (w : LWD) : CDE := w.2.2.2.2.2.1
/-- one more rule -/
def adL (w : LWD) (ch h : Nat) (r : TS) : LWD := (w.1 + 1, up1 w.2.1 w.1 ch, up1 w.2.2.1 w.1 (wS w), up1 w.2.2.2.1 w.1 h, up1 w.2.2.2.2.1 w.1 r.2.1, r.2.2, r.2.1)
def ruL (c : Nat → Nat) (p : Nat) (w : LWD) : Int32 ⊕ (Nat × LWD) :=
  if rlP (c p) = 5 then .inl (flt 1 p) else if w.1 = 16 then .inl (flt 4 p) else match reL c (p, wS w, wC w) with
    | .inl x => .inl x
    | .inr a => match rcL c a with
      | .inl x => .inl x
      | .inr r => .inr (r.1, adL w (c p) a.2.1 r)
def lwL (c : Nat → Nat) : Nat → Nat → LWD → Int32 ⊕ LWD
  | 0, _, _ => .inl 0
  | e + 1, p, w => match ruL c p w with
    | .inl x => .inl x
    | .inr r => if 256 ≤ c r.1 then .inr r.2 else if c r.1 = 59 then lwL c e (r.1 + 1) r.2 else .inl (flt 1 r.1)
abbrev lw0 : LWD := (0, fun _ => 0, fun _ => 0, fun _ => 0, fun _ => 0, fun _ => (0, 0), 0)
/-- the whole text -/
def laL (c : Nat → Nat) : Int32 ⊕ LWD := lwL c 17 0 lw0
/-! how it grows -/
def GW (L a b : Nat) (q r : TS) : Prop := q.1 ≤ r.1 ∧ r.1 ≤ L ∧ q.2.1 ≤ r.2.1 ∧ r.2.1 + q.1 + a ≤ r.1 + q.2.1 + b ∧ (∀ i, i < q.2.1 → r.2.2 i = q.2.2 i) ∧ ∀ i, q.2.1 ≤ i → i < r.2.1 → (r.2.2 i).1 ≤ 12 ∧ (r.2.2 i).2 < 1048576
theorem GW.refl {L : Nat} {q : TS} (h : q.1 ≤ L) : GW L 0 0 q q := ⟨Nat.le_refl _, h, Nat.le_refl _, by omega, fun _ _ => rfl, fun i a b => absurd b (by omega)⟩
theorem GW.trans {L a b a2 b2 : Nat} {q r u : TS} (h : GW L a b q r) (h2 : GW L a2 b2 r u) : GW L (a + a2) (b + b2) q u := by
  obtain ⟨h1, h3, h4, h5, h6, h7⟩ := h
  obtain ⟨k1, k3, k4, k5, k6, k7⟩ := h2
  refine ⟨by omega, k3, by omega, by omega, fun i hi => (k6 i (by omega)).trans (h6 i hi), fun i i1 i2 => ?_⟩
  by_cases e : i < r.2.1
  · rw [k6 i e]
    exact h7 i i1 e
  · exact k7 i (by omega) i2
theorem GW.w {L a b a2 b2 : Nat} {q r : TS} (h : GW L a b q r) (e : a2 + b ≤ a + b2) : GW L a2 b2 q r := ⟨h.1, h.2.1, h.2.2.1, by have := h.2.2.2.1; omega, h.2.2.2.2⟩
/-- a step on in the text -/
theorem GW.adv {L : Nat} {q : TS} (h : q.1 < L) : GW L 1 0 q (q.1 + 1, q.2) := ⟨Nat.le_succ _, h, Nat.le_refl _, by show q.2.1 + q.1 + 1 ≤ q.1 + 1 + q.2.1 + 0; omega, fun _ _ => rfl, fun i a b => absurd (show i < q.2.1 from b) (by omega)⟩
/-- one more sign -/
theorem GW.sgn {L x v : Nat} {q : TS} (h : q.1 ≤ L) (hx : x ≤ 12) (hv : v < 1048576) : GW L 0 1 q (q.1, q.2.1 + 1, cdU q.2.2 q.2.1 (x, v)) := by
  refine ⟨Nat.le_refl _, h, Nat.le_succ _, by show q.2.1 + 1 + q.1 + 0 ≤ q.1 + q.2.1 + 1; omega, fun i hi => cdU_n (by omega), fun i a b => ?_⟩
  have b : i < q.2.1 + 1 := b
  have e : i = q.2.1 := by omega
  show (cdU q.2.2 q.2.1 (x, v) i).1 ≤ 12 ∧ (cdU q.2.2 q.2.1 (x, v) i).2 < 1048576
  rw [e, cdU_s]
  exact ⟨hx, hv⟩
theorem GW.em {L w : Nat} {q : TS} (h : q.1 ≤ L) (hx : w ≤ 12) : GW L 0 (if w = 0 then 0 else 1) q (emL w q) := by
  by_cases e : w = 0
  · rw [if_pos e, e]
    exact GW.refl h
  · rw [if_neg e, emL_n e]
    exact GW.sgn h hx (by decide)
section PGrow
variable {t c : Nat → Nat} {L : Nat}
theorem dg_ok (hc : okc t L c) : ∀ (e p v : Nat), p ≤ L → p ≤ (dgL c e p v).1 ∧ (dgL c e p v).1 ≤ L ∧ (dgL c e p v).1 ≤ p + e ∧ ((dgL c e p v).1 ≤ p + e) ∧ ∀ b, v < b → (dgL c e p v).2 < b * 10 ^ e
  | 0, p, v, h => ⟨Nat.le_refl _, h, Nat.le_refl _, Nat.le_refl _, fun b hb => by show v < b * 10 ^ 0; omega⟩
  | e + 1, p, v, h => by
    unfold dgL
    by_cases z : 48 ≤ c p ∧ c p ≤ 57
    · rw [if_pos z]
      have hp := hc.lt (p := p) (by omega)
      obtain ⟨a1, a2, a3, _, a4⟩ := dg_ok hc e (p + 1) (v * 10 + (c p - 48)) hp
      refine ⟨by omega, a2, by omega, by omega, fun b hb => ?_⟩
      have := a4 (b * 10) (by omega)
      rw [Nat.mul_assoc, ← Nat.pow_succ'] at this
      exact this
    · rw [if_neg z]
      refine ⟨Nat.le_refl _, h, by omega, by omega, fun b hb => ?_⟩
      have := Nat.le_mul_of_pos_right b (show 0 < 10 ^ (e + 1) from Nat.pow_pos (by decide))
      exact Nat.lt_of_lt_of_le hb this
theorem dg_1 (hc : okc t L c) {e p v : Nat} (z : 48 ≤ c p ∧ c p ≤ 57) : p + 1 ≤ (dgL c (e + 1) p v).1 := by
  unfold dgL
  rw [if_pos z]
  exact (dg_ok hc e (p + 1) _ (hc.lt (p := p) (by omega))).1
theorem kn_lt {x : Nat} (h : knL x < 9) : x < 256 := by
  apply Decidable.byContradiction
  intro z
  unfold knL at h
  rw [if_neg (by omega), if_neg (by omega), if_neg (by omega), if_neg (by omega), if_neg (by omega), if_neg (by omega), if_neg (by omega), if_neg (by omega), if_neg (by omega)] at h
  omega
theorem sg_lt {x : Nat} (h : ¬ sgL x = 0) : x < 256 ∧ sgL x ≤ 6 ∧ 2 ≤ sgL x := by
  unfold sgL at h ⊢
  split at h
  · rename_i e; subst e; decide
  split at h
  · rename_i e; subst e; decide
  split at h
  · rename_i e; subst e; decide
  split at h
  · rename_i e; subst e; decide
  split at h
  · rename_i e; subst e; decide
  exact absurd rfl h
theorem cm_lt {x : Nat} (h : ¬ cmL x = 0) : x < 256 ∧ cmL x ≤ 9 ∧ 7 ≤ cmL x := by
  unfold cmL at h ⊢
  split at h
  · rename_i e; subst e; decide
  split at h
  · rename_i e; subst e; decide
  split at h
  · rename_i e; subst e; decide
  exact absurd rfl h
theorem ps_i {z : Nat} {q r : TS} (h : psL c z q = .inr r) : c q.1 = z ∧ r = (q.1 + 1, q.2) := by
  unfold psL at h
  by_cases e : c q.1 = z
  · rw [if_pos e] at h
    exact ⟨e, (Sum.inr.inj h).symm⟩
  · rw [if_neg e] at h
    cases h
end PGrow
