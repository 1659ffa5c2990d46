/-! ===== searches: so many found, in their row, and their marks ===== -/
abbrev BS : Type := Nat × (Nat → Nat) × (Nat → Nat)
def up1 (f : Nat → Nat) (s v : Nat) : Nat → Nat := fun x => if x = s then v else f x
def nt (b : BS) (s v : Nat) : BS := if b.2.2 s = 0 then (b.1 + 1, up1 b.2.1 b.1 s, up1 b.2.2 s v) else b
theorem nt_t {b : BS} {s v : Nat} (h : b.2.2 s = 0) : nt b s v = (b.1 + 1, up1 b.2.1 b.1 s, up1 b.2.2 s v) := if_pos h
theorem nt_f {b : BS} {s v : Nat} (h : ¬ b.2.2 s = 0) : nt b s v = b := if_neg h
def cnS (q : Nat → Nat) : Nat → Nat
  | 0 => 0
  | K + 1 => cnS q K + (if q K = 0 then 0 else 1)
theorem cnS_le (q : Nat → Nat) : ∀ K, cnS q K ≤ K
  | 0 => Nat.le_refl _
  | K + 1 => by
    have := cnS_le q K
    show cnS q K + (if q K = 0 then 0 else 1) ≤ K + 1
    split <;> omega
theorem cnS_lt {q : Nat → Nat} {s : Nat} (h : q s = 0) : ∀ K, s < K → cnS q K < K
  | 0, h2 => absurd h2 (Nat.not_lt_zero s)
  | K + 1, h2 => by
    show cnS q K + (if q K = 0 then 0 else 1) < K + 1
    by_cases e : s = K
    · subst e
      have := cnS_le q s
      rw [if_pos h]
      omega
    · have := cnS_lt h K (by omega)
      split <;> omega
theorem cnS_up {q : Nat → Nat} {s v : Nat} (h : q s = 0) (hv : v ≠ 0) : ∀ K, cnS (up1 q s v) K = cnS q K + (if s < K then 1 else 0)
  | 0 => rfl
  | K + 1 => by
    have ih := cnS_up h hv K
    show cnS (up1 q s v) K + (if up1 q s v K = 0 then 0 else 1) = cnS q K + (if q K = 0 then 0 else 1) + _
    rw [ih]
    by_cases e : K = s
    · subst e
      rw [show up1 q K v K = v from if_pos rfl, if_neg (Nat.lt_irrefl K), if_neg hv, if_pos h, if_pos (Nat.lt_succ_self K)]
    · rw [show up1 q s v K = q K from if_neg e]
      by_cases c : s < K
      · rw [if_pos c, if_pos (show s < K + 1 by omega)]
        omega
      · rw [if_neg c, if_neg (show ¬ s < K + 1 by omega)]
        omega
/-- what was found is right, no more than there are, the marks are small -/
def WJ (V : Nat → Prop) (K : Nat) (b : BS) : Prop := (∀ i, i < b.1 → V (b.2.1 i) ∧ b.2.2 (b.2.1 i) ≠ 0) ∧ cnS b.2.2 K = b.1 ∧ (∀ s, b.2.2 s ≤ b.1)
/-- the earlier stays -/
def EJ (b b' : BS) : Prop := b.1 ≤ b'.1 ∧ (∀ i, i < b.1 → b'.2.1 i = b.2.1 i) ∧ ∀ s, b.2.2 s ≠ 0 → b'.2.2 s = b.2.2 s
theorem EJ.refl (b : BS) : EJ b b := ⟨Nat.le_refl _, fun _ _ => rfl, fun _ _ => rfl⟩
theorem EJ.trans {a b c : BS} (h1 : EJ a b) (h2 : EJ b c) : EJ a c := ⟨Nat.le_trans h1.1 h2.1, fun i hi => (h2.2.1 i (Nat.lt_of_lt_of_le hi h1.1)).trans (h1.2.1 i hi), fun s hs => (h2.2.2 s (by rw [h1.2.2 s hs]; exact hs)).trans (h1.2.2 s hs)⟩
theorem nt_ok {V : Nat → Prop} {K : Nat} {b : BS} {s v : Nat} (h : WJ V K b) (hs : V s) (hk : s < K) (hv : v ≠ 0) (hv2 : v ≤ b.1 + 1) : WJ V K (nt b s v) ∧ EJ b (nt b s v) := by
  by_cases e : b.2.2 s = 0
  · rw [nt_t e]
    obtain ⟨h1, h2, h3⟩ := h
    refine ⟨⟨fun i hi => ?_, ?_, fun x => ?_⟩, Nat.le_succ _, fun i hi => if_neg (by omega), fun x hx => if_neg (fun z => hx (by rw [z]; exact e))⟩
    · show V (up1 b.2.1 b.1 s i) ∧ up1 b.2.2 s v (up1 b.2.1 b.1 s i) ≠ 0
      by_cases ei : i = b.1
      · rw [show up1 b.2.1 b.1 s i = s from if_pos ei, show up1 b.2.2 s v s = v from if_pos rfl]
        exact ⟨hs, hv⟩
      · have hi2 : i < b.1 := by have : i < b.1 + 1 := hi; omega
        rw [show up1 b.2.1 b.1 s i = b.2.1 i from if_neg ei]
        obtain ⟨a1, a2⟩ := h1 i hi2
        refine ⟨a1, ?_⟩
        show up1 b.2.2 s v (b.2.1 i) ≠ 0
        unfold up1
        split
        · exact hv
        · exact a2
    · show cnS (up1 b.2.2 s v) K = b.1 + 1
      rw [cnS_up e hv, if_pos hk, h2]
    · show up1 b.2.2 s v x ≤ b.1 + 1
      unfold up1
      split
      · exact hv2
      · have := h3 x
        omega
  · rw [nt_f e]
    exact ⟨h, EJ.refl b⟩
def exJ (mv : Nat → Nat → Nat) (b : BS) (h : Nat) : Nat → BS
  | 0 => b
  | c + 1 => nt (exJ mv b h c) (mv (b.2.1 h) c) (b.2.2 (b.2.1 h) + 1)
theorem exJ_ok {V : Nat → Prop} {K : Nat} {mv : Nat → Nat → Nat} {b : BS} {h : Nat} (hb : WJ V K b) (hh : h < b.1) (hV : ∀ s, V s → s < K) (hmv : ∀ s c, V s → c < 9 → V (mv s c)) : ∀ c, c ≤ 9 → WJ V K (exJ mv b h c) ∧ EJ b (exJ mv b h c)
  | 0, _ => ⟨hb, EJ.refl b⟩
  | c + 1, hc => by
    obtain ⟨h1, h2⟩ := exJ_ok hb hh hV hmv c (by omega)
    have hv := hmv _ c (hb.1 h hh).1 (by omega)
    obtain ⟨h3, h4⟩ := nt_ok (v := b.2.2 (b.2.1 h) + 1) h1 hv (hV _ hv) (Nat.succ_ne_zero _) (by have := hb.2.2 (b.2.1 h); have := h2.1; omega)
    exact ⟨h3, h2.trans h4⟩
def jrS (mv : Nat → Nat → Nat) (b : BS) : Nat → BS
  | 0 => b
  | h + 1 => if h < (jrS mv b h).1 then exJ mv (jrS mv b h) h 9 else jrS mv b h
theorem jrS_t {mv : Nat → Nat → Nat} {b : BS} {h : Nat} (hh : h < (jrS mv b h).1) : jrS mv b (h + 1) = exJ mv (jrS mv b h) h 9 := if_pos hh
theorem jrS_stop {mv : Nat → Nat → Nat} {b : BS} {h : Nat} (hh : (jrS mv b h).1 ≤ h) : ∀ k, jrS mv b (h + k) = jrS mv b h
  | 0 => rfl
  | k + 1 => by
    have ih := jrS_stop hh k
    show (if h + k < (jrS mv b (h + k)).1 then _ else jrS mv b (h + k)) = _
    rw [ih, if_neg (by omega)]
theorem jrS_end {mv : Nat → Nat → Nat} {b : BS} {h K : Nat} (h1 : (jrS mv b h).1 ≤ h) (h2 : h ≤ K) : jrS mv b K = jrS mv b h := by
  have := jrS_stop h1 (K - h)
  rw [show h + (K - h) = K by omega] at this
  exact this
theorem jrS_ok {V : Nat → Prop} {K : Nat} {mv : Nat → Nat → Nat} {b : BS} (hb : WJ V K b) (hV : ∀ s, V s → s < K) (hmv : ∀ s c, V s → c < 9 → V (mv s c)) : ∀ h, WJ V K (jrS mv b h)
  | 0 => hb
  | h + 1 => by
    have ih := jrS_ok hb hV hmv h
    by_cases c : h < (jrS mv b h).1
    · rw [jrS_t c]
      exact (exJ_ok ih c hV hmv 9 (Nat.le_refl _)).1
    · rw [show jrS mv b (h + 1) = jrS mv b h from if_neg c]
      exact ih
theorem jrS_ej {V : Nat → Prop} {K : Nat} {mv : Nat → Nat → Nat} {b : BS} (hb : WJ V K b) (hV : ∀ s, V s → s < K) (hmv : ∀ s c, V s → c < 9 → V (mv s c)) (h : Nat) : ∀ k, EJ (jrS mv b h) (jrS mv b (h + k))
  | 0 => EJ.refl _
  | k + 1 => by
    refine (jrS_ej hb hV hmv h k).trans ?_
    by_cases c : h + k < (jrS mv b (h + k)).1
    · rw [show h + (k + 1) = h + k + 1 from rfl, jrS_t c]
      exact (exJ_ok (jrS_ok hb hV hmv (h + k)) c hV hmv 9 (Nat.le_refl _)).2
    · rw [show jrS mv b (h + (k + 1)) = jrS mv b (h + k) from if_neg c]
      exact EJ.refl _
/-- the mark of the first that is hit -/
def ftS (hit : Nat → Prop) [DecidablePred hit] (b : BS) : Nat → Int32
  | 0 => -2
  | e + 1 => if ftS hit b e = -2 then (if hit (b.2.1 e) then nI (b.2.2 (b.2.1 e) - 1) else -2) else ftS hit b e
theorem ftS_e {hit : Nat → Prop} [DecidablePred hit] {b b' : BS} : ∀ e, (∀ i, i < e → b'.2.1 i = b.2.1 i ∧ b'.2.2 (b.2.1 i) = b.2.2 (b.2.1 i)) → ftS hit b' e = ftS hit b e
  | 0, _ => rfl
  | e + 1, h => by
    have ih := ftS_e (hit := hit) e (fun i hi => h i (by omega))
    have h1 := h e (by omega)
    unfold ftS
    rw [ih, h1.1, h1.2]
theorem ftS_stay {hit : Nat → Prop} [DecidablePred hit] {b : BS} {e : Nat} (h : ftS hit b e ≠ -2) : ∀ k, ftS hit b (e + k) = ftS hit b e
  | 0 => rfl
  | k + 1 => by
    have ih := ftS_stay h k
    show (if ftS hit b (e + k) = -2 then _ else ftS hit b (e + k)) = _
    rw [ih, if_neg h]
theorem dn_no {v : Nat} (h : v < 2 ^ 31) : dnI v = -1 ↔ v = 0 := by
  cases v with
  | zero => exact ⟨fun _ => rfl, fun _ => rfl⟩
  | succ v =>
    refine ⟨fun z => ?_, fun z => Nat.noConfusion z⟩
    exact absurd (show nI v < 0 by rw [show nI v = -1 from z]; decide) (nI_pos (by omega))
theorem dn_p {v : Nat} (h : v ≠ 0) : dnI v = nI (v - 1) := by
  cases v with
  | zero => exact absurd rfl h
  | succ v => rfl
/-! the jugs -/
def amS (W s : Nat) : Nat → Nat := fun i => if i = 0 then s / 21 else if i = 1 then s % 21 else W - s / 21 - s % 21
def pwF (f B : Nat → Nat) (a b : Nat) : Nat → Nat := fun i => if i = b then f b + min (f a) (B b - f b) else if i = a then f a - min (f a) (B b - f b) else f i
def mvS (W : Nat) (B : Nat → Nat) (s c : Nat) : Nat := if c / 3 = c % 3 then s else pwF (amS W s) B (c / 3) (c % 3) 0 * 21 + pwF (amS W s) B (c / 3) (c % 3) 1
def vJ (W : Nat) (B : Nat → Nat) (s : Nat) : Prop := s / 21 + s % 21 ≤ W ∧ ∀ i, i < 3 → amS W s i ≤ B i
theorem vJ_lt {W : Nat} {B : Nat → Nat} (hB : ∀ i, i < 3 → B i ≤ 20) (s : Nat) (h : vJ W B s) : s < 441 := by
  have h1 : s / 21 ≤ B 0 := h.2 0 (by decide)
  have h2 := hB 0 (by decide)
  omega
theorem amS_sum {W s : Nat} (h : s / 21 + s % 21 ≤ W) : amS W s 0 + amS W s 1 + amS W s 2 = W := by
  show s / 21 + s % 21 + (W - s / 21 - s % 21) = W
  omega
theorem pwF_le {f B : Nat → Nat} {a b : Nat} (hf : ∀ i, i < 3 → f i ≤ B i) (hb : b < 3) (ha : a < 3) : ∀ i, i < 3 → pwF f B a b i ≤ B i := by
  intro i hi
  have h1 := hf b hb
  have h2 := hf i hi
  have h3 := hf a ha
  unfold pwF
  split
  · rename_i e
    subst e
    omega
  · split
    · rename_i e
      subst e
      omega
    · exact h2
theorem pwF_sum {f B : Nat → Nat} {a b : Nat} (hb : b < 3) (ha : a < 3) (hne : a ≠ b) : pwF f B a b 0 + pwF f B a b 1 + pwF f B a b 2 = f 0 + f 1 + f 2 := by
  have h1 : min (f a) (B b - f b) ≤ f a := Nat.min_le_left _ _
  have ca : a = 0 ∨ a = 1 ∨ a = 2 := by omega
  have cb : b = 0 ∨ b = 1 ∨ b = 2 := by omega
  unfold pwF
  rcases ca with rfl | rfl | rfl <;> rcases cb with rfl | rfl | rfl <;> simp at hne ⊢ <;> omega
theorem am_pw {W : Nat} {f : Nat → Nat} (h1 : f 1 ≤ 20) (hs : f 0 + f 1 + f 2 = W) : (f 0 * 21 + f 1) / 21 + (f 0 * 21 + f 1) % 21 ≤ W ∧ ∀ i, i < 3 → amS W (f 0 * 21 + f 1) i = f i := by
  have e1 : (f 0 * 21 + f 1) / 21 = f 0 := by omega
  have e2 : (f 0 * 21 + f 1) % 21 = f 1 := by omega
  refine ⟨by omega, fun i hi => ?_⟩
  have ci : i = 0 ∨ i = 1 ∨ i = 2 := by omega
  unfold amS
  rw [e1, e2]
  rcases ci with rfl | rfl | rfl
  · rfl
  · rfl
  · show W - f 0 - f 1 = f 2
    omega
theorem mv_ok {W : Nat} {B : Nat → Nat} (hB : ∀ i, i < 3 → B i ≤ 20) (s c : Nat) (h : vJ W B s) (hc : c < 9) : vJ W B (mvS W B s c) := by
  unfold mvS
  by_cases e : c / 3 = c % 3
  · rw [if_pos e]
    exact h
  · rw [if_neg e]
    have hl := pwF_le (f := amS W s) (B := B) (a := c / 3) (b := c % 3) h.2 (by omega) (by omega)
    have hs := pwF_sum (f := amS W s) (B := B) (a := c / 3) (b := c % 3) (by omega) (by omega) e
    rw [amS_sum h.1] at hs
    obtain ⟨h1, h2⟩ := am_pw (f := pwF (amS W s) B (c / 3) (c % 3)) (Nat.le_trans (hl 1 (by decide)) (hB 1 (by decide))) hs
    exact ⟨h1, fun i hi => by rw [h2 i hi]; exact hl i hi⟩
abbrev hitS (W m : Nat) (s : Nat) : Prop := amS W s 0 = m ∨ amS W s 1 = m ∨ amS W s 2 = m
def jgB (σ : ST) : Nat → Nat := fun i => σ 8 (2 * i) 0
def jgF (σ : ST) : Nat → Nat := fun i => σ 8 (2 * i + 1) 0
def jgW (σ : ST) : Nat := sumS (jgF σ) 3
def bJ (σ : ST) : Prop := ¬ ∀ j, j < 3 → jgB σ j ≤ 20 ∧ jgF σ j ≤ jgB σ j
def b0S (σ : ST) : BS := nt (0, fun _ => 0, fun _ => 0) (jgF σ 0 * 21 + jgF σ 1) 1
def enS (σ : ST) : BS := jrS (mvS (jgW σ) (jgB σ)) (b0S σ) 441
def gJ (σ : ST) (x w : Int32) : Prop := rg x 20 ∧ rg w 1 ∧ 6 ≤ σ 9 0 0
noncomputable def r_jugs (x w : Int32) (σ : ST) : Value := .int (gd (gJ σ x w) (gd (bJ σ) (-3) (if w = nI 0 then ftS (hitS (jgW σ) x.toNatClampNeg) (enS σ) (enS σ).1 else nI (enS σ).1)) (-1))
noncomputable def u_jugs (x w : Int32) (σ : ST) : ST := gd (gJ σ x w) (u0 σ) σ
theorem b_jugs (x w : Int32) : ∀ σ, BND σ → BND (u_jugs x w σ) := by
  intro σ h
  unfold u_jugs
  by_cases c : gJ σ x w
  · rw [gd_t c]
    exact u0_B h
  · rw [gd_f c]
    exact h
theorem b0_ok {σ : ST} (h : ∀ j, j < 3 → jgB σ j ≤ 20 ∧ jgF σ j ≤ jgB σ j) : vJ (jgW σ) (jgB σ) (jgF σ 0 * 21 + jgF σ 1) ∧ (∀ i, i < 3 → amS (jgW σ) (jgF σ 0 * 21 + jgF σ 1) i = jgF σ i) ∧ WJ (vJ (jgW σ) (jgB σ)) 441 (b0S σ) ∧ b0S σ = (1, up1 (fun _ => 0) 0 (jgF σ 0 * 21 + jgF σ 1), up1 (fun _ => 0) (jgF σ 0 * 21 + jgF σ 1) 1) := by
  have hs : jgF σ 0 + jgF σ 1 + jgF σ 2 = jgW σ := by
    show _ = 0 + jgF σ 0 + jgF σ 1 + jgF σ 2
    omega
  have h1 := h 1 (by decide)
  obtain ⟨a1, a2⟩ := am_pw (f := jgF σ) (by omega) hs
  have hv : vJ (jgW σ) (jgB σ) (jgF σ 0 * 21 + jgF σ 1) := ⟨a1, fun i hi => by rw [a2 i hi]; exact (h i hi).2⟩
  have hw : WJ (vJ (jgW σ) (jgB σ)) 441 (0, fun _ => 0, fun _ => 0) := ⟨fun i hi => absurd hi (Nat.not_lt_zero i), by show cnS (fun _ => 0) 441 = 0; decide +kernel, fun s => Nat.le_refl _⟩
  exact ⟨hv, a2, (nt_ok hw hv (vJ_lt (fun i hi => (h i hi).1) _ hv) (by decide) (by decide)).1, nt_t rfl⟩
/-- in the class's cells -/
def XJ (b : BS) (I : IM) : Prop := I 47 5 = nI b.1 ∧ (∀ i, i < b.1 → I 51 i = nI (b.2.1 i)) ∧ ∀ s, s < 441 → I 50 s = dnI (b.2.2 s)
def FJ (I I' : IM) : Prop := (∀ x, x ≠ 47 → x ≠ 49 → x ≠ 50 → x ≠ 51 → I' x = I x) ∧ I' 47 4 = I 47 4
theorem up_pw {I : IM} {c a b : Nat} {f B : Nat → Nat} (ho : ∀ i, i < 3 → I c i = nI (f i)) : ∀ i, i < 3 → up2 (up2 I c a (nI (f a - min (f a) (B b - f b)))) c b (nI (f b + min (f a) (B b - f b))) c i = nI (pwF f B a b i) := by
  intro i hi
  unfold pwF
  by_cases e1 : i = b
  · subst e1
    rw [if_pos rfl]
    exact up2_s _ _ _ _
  · rw [if_neg e1, up2_k _ _ e1]
    by_cases e2 : i = a
    · subst e2
      rw [if_pos rfl]
      exact up2_s _ _ _ _
    · rw [if_neg e2, up2_k _ _ e2]
      exact ho i hi
section PJugs
variable {g : GL} {d n : Nat} {I : IM} {J : JM} {R : RM} {Q : PQ} {σ : ST}
set_option maxRecDepth 100000 in
set_option maxHeartbeats 2000000 in
theorem x_stand {W s : Nat} (hN : 152 ≤ n) (hR : RS R) (hW : I 47 4 = nI W) (hs : s < 441) (hv : s / 21 + s % 21 ≤ W) (hQ : ∀ I2 : IM, (∀ x, x ≠ 49 → I2 x = I x) → (∀ i, i < 3 → I2 49 i = nI (amS W s i)) → Q none n I2 J R) : E g mX2_stand d 0 0 0 (ent 2 [.ref 47, .int (nI s)]) [] n I J R Q := by
  refine E_aload_n dX2_stand_0 rfl ?_
  refine E_getR dX2_stand_1 f_X2_15 rfl (Nat.lt_of_lt_of_le (by decide) hN) rfl (hR _ _ _ rfl) ?_
  refine E_ic (nI 0) dX2_stand_4 (by decide) ?_
  refine E_iload_n dX2_stand_5 rfl ?_
  refine E_bp (nI 21) dX2_stand_6 (by decide) ?_
  refine E_idiv dX2_stand_8 (by decide) ?_
  refine E.top (pk_div (a := s) (d := 21) (by omega) (by decide) (by decide)) ?_
  refine E_iastN dX2_stand_9 rfl (Nat.lt_of_lt_of_le (by decide) hN) (by decide) ?_
  refine E_aload_n dX2_stand_10 rfl ?_
  refine E_getR dX2_stand_11 f_X2_15 rfl (Nat.lt_of_lt_of_le (by decide) hN) rfl (hR _ _ _ rfl) ?_
  refine E_ic (nI 1) dX2_stand_14 (by decide) ?_
  refine E_iload_n dX2_stand_15 rfl ?_
  refine E_bp (nI 21) dX2_stand_16 (by decide) ?_
  refine E_irem dX2_stand_18 (by decide) ?_
  refine E.top (pk_rem (a := s) (d := 21) (by omega) (by decide) (by decide)) ?_
  refine E_iastN dX2_stand_19 rfl (Nat.lt_of_lt_of_le (by decide) hN) (by decide) ?_
  refine E_aload_n dX2_stand_20 rfl ?_
  refine E_getR dX2_stand_21 f_X2_15 rfl (Nat.lt_of_lt_of_le (by decide) hN) rfl (hR _ _ _ rfl) ?_
  refine E_ic (nI 2) dX2_stand_24 (by decide) ?_
  refine E_aload_n dX2_stand_25 rfl ?_
  refine E_getI dX2_stand_26 f_X2_24 rfl (Nat.lt_of_lt_of_le (by decide) hN) rfl ?_
  refine E.top ((congrFun ((up2_o _ 49 1 _ 47 (by decide)).trans (up2_o I 49 0 _ 47 (by decide))) 4).trans hW) ?_
  refine E_aload_n dX2_stand_29 rfl ?_
  refine E_getR dX2_stand_30 f_X2_15 rfl (Nat.lt_of_lt_of_le (by decide) hN) rfl (hR _ _ _ rfl) ?_
  refine E_ic (nI 0) dX2_stand_33 (by decide) ?_
  refine E_ialdN dX2_stand_34 rfl (Nat.lt_of_lt_of_le (by decide) hN) (by decide) ?_
  refine E.top ((up2_k _ _ (by decide)).trans (up2_s _ _ _ _)) ?_
  refine E_isub dX2_stand_35 ?_
  refine E.top (pk_sub (a := W) (b := s / 21) (by omega)) ?_
  refine E_aload_n dX2_stand_36 rfl ?_
  refine E_getR dX2_stand_37 f_X2_15 rfl (Nat.lt_of_lt_of_le (by decide) hN) rfl (hR _ _ _ rfl) ?_
  refine E_ic (nI 1) dX2_stand_40 (by decide) ?_
  refine E_ialdN dX2_stand_41 rfl (Nat.lt_of_lt_of_le (by decide) hN) (by decide) ?_
  refine E.top (up2_s _ _ _ _) ?_
  refine E_isub dX2_stand_42 ?_
  refine E.top (pk_sub (a := W - (s / 21)) (b := s % 21) (by omega)) ?_
  refine E_iastN dX2_stand_43 rfl (Nat.lt_of_lt_of_le (by decide) hN) (by decide) ?_
  exact E_ret dX2_stand_44 rfl (hQ _ (fun x hx => (up2_o _ 49 _ _ x hx).trans ((up2_o _ 49 _ _ x hx).trans (up2_o I 49 _ _ x hx))) (fun i hi => by
      have ci : i = 0 ∨ i = 1 ∨ i = 2 := by omega
      rcases ci with rfl | rfl | rfl
      · exact (up2_k _ _ (by decide)).trans ((up2_k _ _ (by decide)).trans (up2_s _ _ _ _))
      · exact (up2_k _ _ (by decide)).trans (up2_s _ _ _ _)
      · exact up2_s _ _ _ _))
set_option maxRecDepth 100000 in
set_option maxHeartbeats 2000000 in
theorem x_noteJ {b : BS} {f0 f1 v : Nat} (hN : 152 ≤ n) (hR : RS R) (h0 : I 49 0 = nI f0) (h1 : I 49 1 = nI f1) (hs : f0 * 21 + f1 < 441) (hX : XJ b I) (hb : b.2.2 (f0 * 21 + f1) < 1000) (hfr : b.2.2 (f0 * 21 + f1) = 0 → b.1 < 441) (hQ : ∀ I2 : IM, (∀ x, x ≠ 47 → x ≠ 50 → x ≠ 51 → I2 x = I x) → I2 47 4 = I 47 4 → XJ (nt b (f0 * 21 + f1) (v + 1)) I2 → Q none n I2 J R) : E g mX2_note d 0 0 0 (ent 3 [.ref 47, .int (nI v)]) [] n I J R Q := by
  by_cases hp : b.2.2 (f0 * 21 + f1) = 0
  · have hf2 := hfr hp
    refine E_aload_n dX2_note_0 rfl ?_
    refine E_getR dX2_note_1 f_X2_15 rfl (Nat.lt_of_lt_of_le (by decide) hN) rfl (hR _ _ _ rfl) ?_
    refine E_ic (nI 0) dX2_note_4 (by decide) ?_
    refine E_ialdN dX2_note_5 rfl (Nat.lt_of_lt_of_le (by decide) hN) (by decide) ?_
    refine E.top (h0) ?_
    refine E_bp (nI 21) dX2_note_6 (by decide) ?_
    refine E_imul dX2_note_8 ?_
    refine E.top (pk_mul f0 21) ?_
    refine E_aload_n dX2_note_9 rfl ?_
    refine E_getR dX2_note_10 f_X2_15 rfl (Nat.lt_of_lt_of_le (by decide) hN) rfl (hR _ _ _ rfl) ?_
    refine E_ic (nI 1) dX2_note_13 (by decide) ?_
    refine E_ialdN dX2_note_14 rfl (Nat.lt_of_lt_of_le (by decide) hN) (by decide) ?_
    refine E.top (h1) ?_
    refine E_iadd dX2_note_15 ?_
    refine E.top (nI_add (f0 * 21) f1) ?_
    refine E_istore_n dX2_note_16 (Nat.le_of_ble_eq_true rfl) ?_
    refine E_iload_n dX2_note_17 rfl ?_
    refine E_zN_lt (a := (f0 * 21) + f1) (tgt := 79) dX2_note_18 (by omega) (by decide) (fun c18 => c18.elim) (fun c18 => ?_)
    refine E_iload_n dX2_note_21 rfl ?_
    refine E_aload_n dX2_note_22 rfl ?_
    refine E_getR dX2_note_23 f_X2_18 rfl (Nat.lt_of_lt_of_le (by decide) hN) rfl (hR _ _ _ rfl) ?_
    refine E_alen dX2_note_26 rfl (Nat.lt_of_lt_of_le (by decide) hN) (by decide) (by decide) ?_
    refine E.top (show _ = nI 441 from rfl) ?_
    refine E_cN_ge (a := (f0 * 21) + f1) (b := 441) (tgt := 79) dX2_note_27 (by omega) (by decide) (by decide) (fun c27 => absurd c27 (by omega)) (fun c27 => ?_)
    refine E_aload_n dX2_note_30 rfl ?_
    refine E_getR dX2_note_31 f_X2_18 rfl (Nat.lt_of_lt_of_le (by decide) hN) rfl (hR _ _ _ rfl) ?_
    refine E_iload_n dX2_note_34 rfl ?_
    refine E_ialdN dX2_note_35 rfl (Nat.lt_of_lt_of_le (by decide) hN) hs ?_
    refine E.top (hX.2.2 _ hs) ?_
    refine E_ic (-1) dX2_note_36 (by decide) ?_
    refine E_icmp_ne (tgt := 79) dX2_note_37 (by decide) (fun c37 => by first | exact absurd c37 (fun z => z ((dn_no (by omega)).mpr hp)) | exact absurd (fun z => z ((dn_no (by omega)).mpr hp)) c37) (fun c37 => ?_)
    refine E_aload_n dX2_note_40 rfl ?_
    refine E_getI dX2_note_41 f_X2_28 rfl (Nat.lt_of_lt_of_le (by decide) hN) rfl ?_
    refine E.top (hX.1) ?_
    refine E_aload_n dX2_note_44 rfl ?_
    refine E_getR dX2_note_45 f_X2_21 rfl (Nat.lt_of_lt_of_le (by decide) hN) rfl (hR _ _ _ rfl) ?_
    refine E_alen dX2_note_48 rfl (Nat.lt_of_lt_of_le (by decide) hN) (by decide) (by decide) ?_
    refine E.top (show _ = nI 441 from rfl) ?_
    refine E_cN_ge (a := b.1) (b := 441) (tgt := 79) dX2_note_49 (by omega) (by decide) (by decide) (fun c49 => absurd c49 (by omega)) (fun c49 => ?_)
    refine E_aload_n dX2_note_52 rfl ?_
    refine E_getR dX2_note_53 f_X2_18 rfl (Nat.lt_of_lt_of_le (by decide) hN) rfl (hR _ _ _ rfl) ?_
    refine E_iload_n dX2_note_56 rfl ?_
    refine E_iload_n dX2_note_57 rfl ?_
    refine E_iastN dX2_note_58 rfl (Nat.lt_of_lt_of_le (by decide) hN) hs ?_
    refine E_aload_n dX2_note_59 rfl ?_
    refine E_getR dX2_note_60 f_X2_21 rfl (Nat.lt_of_lt_of_le (by decide) hN) rfl (hR _ _ _ rfl) ?_
    refine E_aload_n dX2_note_63 rfl ?_
    refine E_getI dX2_note_64 f_X2_28 rfl (Nat.lt_of_lt_of_le (by decide) hN) rfl ?_
    refine E.top (hX.1) ?_
    refine E_iload_n dX2_note_67 rfl ?_
    refine E_iastN dX2_note_68 rfl (Nat.lt_of_lt_of_le (by decide) hN) (by omega) ?_
    refine E_aload_n dX2_note_69 rfl ?_
    refine E_dup dX2_note_70 rfl ?_
    refine E_getI dX2_note_71 f_X2_28 rfl (Nat.lt_of_lt_of_le (by decide) hN) rfl ?_
    refine E.top ((congrFun ((up2_o _ 51 _ _ 47 (by decide)).trans (up2_o I 50 _ _ 47 (by decide))) 5).trans hX.1) ?_
    refine E_ic (nI 1) dX2_note_74 (by decide) ?_
    refine E_iadd dX2_note_75 ?_
    refine E.top (nI_add (b.1) 1) ?_
    refine E_putI dX2_note_76 f_X2_28 rfl (Nat.lt_of_lt_of_le (by decide) hN) rfl ?_
    exact E_ret dX2_note_79 rfl (hQ _ (fun x h1 h2 h3 => (up2_o _ 47 _ _ x h1).trans ((up2_o _ 51 _ _ x h3).trans (up2_o I 50 _ _ x h2))) ((up2_k _ _ (by decide)).trans (congrFun ((up2_o _ 51 _ _ 47 (by decide)).trans (up2_o I 50 _ _ 47 (by decide))) 4)) (by
          rw [nt_t hp]
          refine ⟨up2_s _ _ _ _, fun i hi => ?_, fun s hs2 => ?_⟩
          · show _ = nI (up1 b.2.1 b.1 (f0 * 21 + f1) i)
            rw [up2_o _ 47 _ _ 51 (by decide)]
            by_cases e : i = b.1
            · subst e
              rw [show up1 b.2.1 b.1 (f0 * 21 + f1) b.1 = f0 * 21 + f1 from if_pos rfl]
              exact up2_s _ _ _ _
            · rw [show up1 b.2.1 b.1 (f0 * 21 + f1) i = b.2.1 i from if_neg e, up2_k _ _ e, up2_o I 50 _ _ 51 (by decide)]
              exact hX.2.1 i (by have : i < b.1 + 1 := hi; omega)
          · show _ = dnI (up1 b.2.2 (f0 * 21 + f1) (v + 1) s)
            rw [up2_o _ 47 _ _ 50 (by decide), up2_o _ 51 _ _ 50 (by decide)]
            by_cases e : s = f0 * 21 + f1
            · subst e
              rw [show up1 b.2.2 (f0 * 21 + f1) (v + 1) (f0 * 21 + f1) = v + 1 from if_pos rfl]
              exact up2_s _ _ _ _
            · rw [show up1 b.2.2 (f0 * 21 + f1) (v + 1) s = b.2.2 s from if_neg e, up2_k _ _ e]
              exact hX.2.2 s hs2))
  · skip
    refine E_aload_n dX2_note_0 rfl ?_
    refine E_getR dX2_note_1 f_X2_15 rfl (Nat.lt_of_lt_of_le (by decide) hN) rfl (hR _ _ _ rfl) ?_
    refine E_ic (nI 0) dX2_note_4 (by decide) ?_
    refine E_ialdN dX2_note_5 rfl (Nat.lt_of_lt_of_le (by decide) hN) (by decide) ?_
    refine E.top (h0) ?_
    refine E_bp (nI 21) dX2_note_6 (by decide) ?_
    refine E_imul dX2_note_8 ?_
    refine E.top (pk_mul f0 21) ?_
    refine E_aload_n dX2_note_9 rfl ?_
    refine E_getR dX2_note_10 f_X2_15 rfl (Nat.lt_of_lt_of_le (by decide) hN) rfl (hR _ _ _ rfl) ?_
    refine E_ic (nI 1) dX2_note_13 (by decide) ?_
    refine E_ialdN dX2_note_14 rfl (Nat.lt_of_lt_of_le (by decide) hN) (by decide) ?_
    refine E.top (h1) ?_
    refine E_iadd dX2_note_15 ?_
    refine E.top (nI_add (f0 * 21) f1) ?_
    refine E_istore_n dX2_note_16 (Nat.le_of_ble_eq_true rfl) ?_
    refine E_iload_n dX2_note_17 rfl ?_
    refine E_zN_lt (a := (f0 * 21) + f1) (tgt := 79) dX2_note_18 (by omega) (by decide) (fun c18 => c18.elim) (fun c18 => ?_)
    refine E_iload_n dX2_note_21 rfl ?_
    refine E_aload_n dX2_note_22 rfl ?_
    refine E_getR dX2_note_23 f_X2_18 rfl (Nat.lt_of_lt_of_le (by decide) hN) rfl (hR _ _ _ rfl) ?_
    refine E_alen dX2_note_26 rfl (Nat.lt_of_lt_of_le (by decide) hN) (by decide) (by decide) ?_
    refine E.top (show _ = nI 441 from rfl) ?_
    refine E_cN_ge (a := (f0 * 21) + f1) (b := 441) (tgt := 79) dX2_note_27 (by omega) (by decide) (by decide) (fun c27 => absurd c27 (by omega)) (fun c27 => ?_)
    refine E_aload_n dX2_note_30 rfl ?_
    refine E_getR dX2_note_31 f_X2_18 rfl (Nat.lt_of_lt_of_le (by decide) hN) rfl (hR _ _ _ rfl) ?_
    refine E_iload_n dX2_note_34 rfl ?_
    refine E_ialdN dX2_note_35 rfl (Nat.lt_of_lt_of_le (by decide) hN) hs ?_
    refine E.top (hX.2.2 _ hs) ?_
    refine E_ic (-1) dX2_note_36 (by decide) ?_
    refine E_icmp_ne (tgt := 79) dX2_note_37 (by decide) (fun c37 => ?_) (fun c37 => by first | exact absurd c37 (fun z => hp ((dn_no (by omega)).mp z)) | exact absurd (fun z => hp ((dn_no (by omega)).mp z)) c37)
    exact E_ret dX2_note_79 rfl (hQ I (fun _ _ _ _ => rfl) rfl (by rw [nt_f hp]; exact hX))
set_option maxRecDepth 100000 in
set_option maxHeartbeats 2000000 in
theorem x_pourAll {W f0 f1 : Nat} {B : Nat → Nat} {b0 : BS} (hN : 152 ≤ n) (hR : RS R) (hW : I 47 4 = nI W) (hbig : ∀ i, i < 3 → I 48 i = nI (B i)) (hB20 : ∀ i, i < 3 → B i ≤ 20) (h0 : I 49 0 = nI f0) (h1 : I 49 1 = nI f1) (hs : f0 * 21 + f1 < 441) (he : b0 = nt (0, fun _ => 0, fun _ => 0) (f0 * 21 + f1) 1) (hb0 : WJ (vJ W B) 441 b0) (hQ : ∀ I2 : IM, FJ I I2 → XJ (jrS (mvS W B) b0 441) I2 → Q none n I2 J R) : E g mX2_pourAll (d + 1) 0 0 0 (ent 6 [.ref 47]) [] n I J R Q := by
  have Lh : ∀ h, h ≤ 441 → ∀ I2 : IM, (FJ I I2 ∧ XJ (jrS (mvS W B) b0 h) I2 ∧ h ≤ (jrS (mvS W B) b0 h).1) → E g mX2_pourAll (d + 1) 0 0 20 [.ref 47, .int (nI h), jk, jk, jk, jk] [] n I2 J R Q := by
    refine loopU 441 (fun I2 hv2 => ?_) (fun h hh4 ihh I2 hv2 => ?_)
    · have wj := jrS_ok hb0 (vJ_lt hB20) (mv_ok hB20) 441
      have cl := cnS_le (jrS (mvS W B) b0 441).2.2 441
      rw [wj.2.1] at cl
      refine E_iload_n dX2_pourAll_20 rfl ?_
      refine E_aload_n dX2_pourAll_21 rfl ?_
      refine E_getI dX2_pourAll_22 f_X2_28 rfl (Nat.lt_of_lt_of_le (by decide) hN) rfl ?_
      refine E.top (hv2.2.1.1) ?_
      refine E_cN_ge (a := 441) (b := (jrS (mvS W B) b0 441).1) (tgt := 155) dX2_pourAll_25 (by decide) (by omega) (by decide) (fun c25 => ?_) (fun c25 => absurd c25 (by omega))
      exact E_ret dX2_pourAll_155 rfl (hQ I2 hv2.1 hv2.2.1)
    · have wj := jrS_ok hb0 (vJ_lt hB20) (mv_ok hB20) h
      have cl := cnS_le (jrS (mvS W B) b0 h).2.2 441
      rw [wj.2.1] at cl
      refine E_iload_n dX2_pourAll_20 rfl ?_
      refine E_aload_n dX2_pourAll_21 rfl ?_
      refine E_getI dX2_pourAll_22 f_X2_28 rfl (Nat.lt_of_lt_of_le (by decide) hN) rfl ?_
      refine E.top (hv2.2.1.1) ?_
      refine E_cN_ge (a := h) (b := (jrS (mvS W B) b0 h).1) (tgt := 155) dX2_pourAll_25 (by omega) (by omega) (by decide) (fun c25 => ?_) (fun c25 => ?_)
      · exact E_ret dX2_pourAll_155 rfl (hQ I2 hv2.1 (by rw [jrS_end (h := h) (by omega) (by omega)]; exact hv2.2.1))
      · refine E_iload_n dX2_pourAll_28 rfl ?_
        refine E_aload_n dX2_pourAll_29 rfl ?_
        refine E_getR dX2_pourAll_30 f_X2_21 rfl (Nat.lt_of_lt_of_le (by decide) hN) rfl (hR _ _ _ rfl) ?_
        refine E_alen dX2_pourAll_33 rfl (Nat.lt_of_lt_of_le (by decide) hN) (by decide) (by decide) ?_
        refine E.top (show _ = nI 441 from rfl) ?_
        refine E_cN_ge (a := h) (b := 441) (tgt := 155) dX2_pourAll_34 (by omega) (by decide) (by decide) (fun c34 => absurd c34 (by omega)) (fun c34 => ?_)
        refine E_aload_n dX2_pourAll_37 rfl ?_
        refine E_getR dX2_pourAll_38 f_X2_18 rfl (Nat.lt_of_lt_of_le (by decide) hN) rfl (hR _ _ _ rfl) ?_
        refine E_aload_n dX2_pourAll_41 rfl ?_
        refine E_getR dX2_pourAll_42 f_X2_21 rfl (Nat.lt_of_lt_of_le (by decide) hN) rfl (hR _ _ _ rfl) ?_
        refine E_iload_n dX2_pourAll_45 rfl ?_
        refine E_ialdN dX2_pourAll_46 rfl (Nat.lt_of_lt_of_le (by decide) hN) (by omega) ?_
        refine E.top (hv2.2.1.2.1 h c25) ?_
        refine E_ialdN dX2_pourAll_47 rfl (Nat.lt_of_lt_of_le (by decide) hN) (vJ_lt hB20 _ (wj.1 h c25).1) ?_
        refine E.top ((hv2.2.1.2.2 _ (vJ_lt hB20 _ (wj.1 h c25).1)).trans (dn_p (wj.1 h c25).2)) ?_
        refine E_ic (nI 1) dX2_pourAll_48 (by decide) ?_
        refine E_iadd dX2_pourAll_49 ?_
        refine E.top (nI_add ((jrS (mvS W B) b0 h).2.2 ((jrS (mvS W B) b0 h).2.1 h) - 1) 1) ?_
        refine E.top (congrArg nI (Nat.sub_add_cancel (Nat.pos_of_ne_zero (wj.1 h c25).2))) ?_
        refine E_istore_n dX2_pourAll_50 (Nat.le_of_ble_eq_true rfl) ?_
        have hh : h < (jrS (mvS W B) b0 h).1 := c25
        have La : ∀ a, a ≤ 3 → ∀ I3 : IM, (FJ I I3 ∧ XJ (exJ (mvS W B) (jrS (mvS W B) b0 h) h (3 * a + 0)) I3) → E g mX2_pourAll (d + 1) 0 0 53 [.ref 47, .int (nI h), .int (nI ((jrS (mvS W B) b0 h).2.2 ((jrS (mvS W B) b0 h).2.1 h))), .int (nI a), jk, jk] [] n I3 J R Q := by
          refine loopU 3 (fun I3 hva => ?_) (fun a ha iha I3 hva => ?_)
          · refine E_iload_n dX2_pourAll_53 rfl ?_
            refine E_ic (nI 3) dX2_pourAll_54 (by decide) ?_
            refine E_cN_ge (a := 3) (b := 3) (tgt := 149) dX2_pourAll_55 (by decide) (by decide) (by decide) (fun c55 => ?_) (fun c55 => absurd c55 (by omega))
            refine E_incN dX2_pourAll_149 rfl ?_
            refine E_goto (tgt := 20) dX2_pourAll_152 (by decide) ?_
            refine E.mask [true, true, false, false, false, false] ?_
            refine ihh I3 ⟨hva.1, ?_, ?_⟩
            · rw [jrS_t hh]
              exact hva.2
            · rw [jrS_t hh]
              have := (exJ_ok wj hh (vJ_lt hB20) (mv_ok hB20) 9 (Nat.le_refl _)).2.1
              omega
          · have Li : ∀ i, i ≤ 3 → ∀ I4 : IM, (FJ I I4 ∧ XJ (exJ (mvS W B) (jrS (mvS W B) b0 h) h (3 * a + i)) I4) → E g mX2_pourAll (d + 1) 0 0 61 [.ref 47, .int (nI h), .int (nI ((jrS (mvS W B) b0 h).2.2 ((jrS (mvS W B) b0 h).2.1 h))), .int (nI a), .int (nI i), jk] [] n I4 J R Q := by
              refine loopU 3 (fun I4 hv => ?_) (fun i hi ihi I4 hv => ?_)
              · refine E_iload dX2_pourAll_61 rfl ?_
                refine E_ic (nI 3) dX2_pourAll_63 (by decide) ?_
                refine E_cN_ge (a := 3) (b := 3) (tgt := 143) dX2_pourAll_64 (by decide) (by decide) (by decide) (fun c64 => ?_) (fun c64 => absurd c64 (by omega))
                refine E_incN dX2_pourAll_143 rfl ?_
                refine E_goto (tgt := 53) dX2_pourAll_146 (by decide) ?_
                refine E.mask [true, true, true, true, false, false] ?_
                exact iha I4 (by rw [show 3 * (a + 1) + 0 = 3 * a + 3 by omega]; exact hv)
              · obtain ⟨w2, e2⟩ := exJ_ok wj hh (vJ_lt hB20) (mv_ok hB20) (3 * a + i) (by omega)
                have vk := (wj.1 h hh).1
                have pl := pwF_le (f := amS W ((jrS (mvS W B) b0 h).2.1 h)) (B := B) (a := a) (b := i) vk.2 (by omega) (by omega)
                have s441 : pwF (amS W ((jrS (mvS W B) b0 h).2.1 h)) B a i 0 * 21 + pwF (amS W ((jrS (mvS W B) b0 h).2.1 h)) B a i 1 < 441 := by have := pl 0 (by decide); have := pl 1 (by decide); have := hB20 0 (by decide); have := hB20 1 (by decide); omega
                have am1 := vk.2 a (by omega)
                have am2 := vk.2 i (by omega)
                have am3 := hB20 a (by omega)
                have am4 := hB20 i (by omega)
                refine E_iload dX2_pourAll_61 rfl ?_
                refine E_ic (nI 3) dX2_pourAll_63 (by decide) ?_
                refine E_cN_ge (a := i) (b := 3) (tgt := 143) dX2_pourAll_64 (by omega) (by decide) (by decide) (fun c64 => absurd c64 (by omega)) (fun c64 => ?_)
                refine E_iload_n dX2_pourAll_67 rfl ?_
                refine E_iload dX2_pourAll_68 rfl ?_
                refine E_cN_eq (a := a) (b := i) (tgt := 137) dX2_pourAll_70 (by omega) (by omega) (by decide) (fun c70 => ?_) (fun c70 => ?_)
                · refine E_incN dX2_pourAll_137 rfl ?_
                  refine E_goto (tgt := 61) dX2_pourAll_140 (by decide) ?_
                  refine E.mask [true, true, true, true, true, false] ?_
                  refine ihi _ ⟨?_, ?_⟩
                  · first
                    | exact hv.1
                    | exact ⟨fun x h1 h2 h3 h4 => (f6 x h1 h3 h4).trans ((up2_o _ 49 _ _ x h2).trans ((up2_o _ 49 _ _ x h2).trans ((f5 x h2).trans (hv.1.1 x h1 h2 h3 h4)))), g6.trans ((congrFun ((up2_o _ 49 _ _ 47 (by decide)).trans ((up2_o _ 49 _ _ 47 (by decide)).trans (f5 47 (by decide)))) 4).trans hv.1.2)⟩
                  · first
                    | (rw [show 3 * a + (i + 1) = 3 * a + i + 1 by omega, show (exJ (mvS W B) (jrS (mvS W B) b0 h) h (3 * a + i + 1)) = nt (exJ (mvS W B) (jrS (mvS W B) b0 h) h (3 * a + i)) (mvS W B ((jrS (mvS W B) b0 h).2.1 h) (3 * a + i)) ((jrS (mvS W B) b0 h).2.2 ((jrS (mvS W B) b0 h).2.1 h) + 1) from rfl, show mvS W B ((jrS (mvS W B) b0 h).2.1 h) (3 * a + i) = pwF (amS W ((jrS (mvS W B) b0 h).2.1 h)) B a i 0 * 21 + pwF (amS W ((jrS (mvS W B) b0 h).2.1 h)) B a i 1 by unfold mvS; rw [show (3 * a + i) / 3 = a by omega, show (3 * a + i) % 3 = i by omega, if_neg c70]]; exact x6)
                    | (rw [show 3 * a + (i + 1) = 3 * a + i + 1 by omega, show (exJ (mvS W B) (jrS (mvS W B) b0 h) h (3 * a + i + 1)) = nt (exJ (mvS W B) (jrS (mvS W B) b0 h) h (3 * a + i)) (mvS W B ((jrS (mvS W B) b0 h).2.1 h) (3 * a + i)) ((jrS (mvS W B) b0 h).2.2 ((jrS (mvS W B) b0 h).2.1 h) + 1) from rfl, show mvS W B ((jrS (mvS W B) b0 h).2.1 h) (3 * a + i) = ((jrS (mvS W B) b0 h).2.1 h) by unfold mvS; rw [show (3 * a + i) / 3 = a by omega, show (3 * a + i) % 3 = i by omega, if_pos c70], nt_f (by rw [e2.2.2 _ (wj.1 h hh).2]; exact (wj.1 h hh).2)]; exact hv.2)
                · refine E_aload_n dX2_pourAll_73 rfl ?_
                  refine E_aload_n dX2_pourAll_74 rfl ?_
                  refine E_getR dX2_pourAll_75 f_X2_21 rfl (Nat.lt_of_lt_of_le (by decide) hN) rfl (hR _ _ _ rfl) ?_
                  refine E_iload_n dX2_pourAll_78 rfl ?_
                  refine E_ialdN dX2_pourAll_79 rfl (Nat.lt_of_lt_of_le (by decide) hN) (by omega) ?_
                  refine E.top ((hv.2.2.1 h (by have := e2.1; omega)).trans (congrArg nI (e2.2.1 h hh))) ?_
                  refine E_callV (As := [_]) (ci := 2) (kc' := 0) (ks' := 0) (kc := 0) (ks := 0) dX2_pourAll_80 ok_X2_stand w_X2_41 i_X2_stand s_X2_stand rfl (by decide) rfl (Nat.lt_of_lt_of_le (by decide) hN) rfl rfl rfl (Nat.le_of_ble_eq_true rfl) (Nat.le_of_ble_eq_true rfl) (Nat.le_refl _) (x_stand (W := W) hN hR (hv.1.2.trans hW) (vJ_lt hB20 _ vk) vk.1 (fun I5 f5 o5 => ?_))
                  refine E_aload_n dX2_pourAll_83 rfl ?_
                  refine E_getR dX2_pourAll_84 f_X2_15 rfl (Nat.lt_of_lt_of_le (by decide) hN) rfl (hR _ _ _ rfl) ?_
                  refine E_iload_n dX2_pourAll_87 rfl ?_
                  refine E_ialdN dX2_pourAll_88 rfl (Nat.lt_of_lt_of_le (by decide) hN) (by omega) ?_
                  refine E.top (o5 a (by omega)) ?_
                  refine E_aload_n dX2_pourAll_89 rfl ?_
                  refine E_getR dX2_pourAll_90 f_X2_9 rfl (Nat.lt_of_lt_of_le (by decide) hN) rfl (hR _ _ _ rfl) ?_
                  refine E_iload dX2_pourAll_93 rfl ?_
                  refine E_ialdN dX2_pourAll_95 rfl (Nat.lt_of_lt_of_le (by decide) hN) (by omega) ?_
                  refine E.top ((congrFun (f5 48 (by decide)) i).trans ((congrFun (hv.1.1 48 (by decide) (by decide) (by decide) (by decide)) i).trans (hbig i hi))) ?_
                  refine E_aload_n dX2_pourAll_96 rfl ?_
                  refine E_getR dX2_pourAll_97 f_X2_15 rfl (Nat.lt_of_lt_of_le (by decide) hN) rfl (hR _ _ _ rfl) ?_
                  refine E_iload dX2_pourAll_100 rfl ?_
                  refine E_ialdN dX2_pourAll_102 rfl (Nat.lt_of_lt_of_le (by decide) hN) (by omega) ?_
                  refine E.top (o5 i (by omega)) ?_
                  refine E_isub dX2_pourAll_103 ?_
                  refine E.top (pk_sub (a := B i) (b := amS W ((jrS (mvS W B) b0 h).2.1 h) i) (vk.2 i hi)) ?_
                  refine E_mmin dX2_pourAll_104 w_X2_44 (Nat.le_of_ble_eq_true rfl) (by omega) ?_
                  refine E.top (nI_min (amS W ((jrS (mvS W B) b0 h).2.1 h) a) ((B i) - (amS W ((jrS (mvS W B) b0 h).2.1 h) i)) (by omega) (by omega)) ?_
                  refine E_istore dX2_pourAll_107 (Nat.le_of_ble_eq_true rfl) ?_
                  refine E_aload_n dX2_pourAll_109 rfl ?_
                  refine E_getR dX2_pourAll_110 f_X2_15 rfl (Nat.lt_of_lt_of_le (by decide) hN) rfl (hR _ _ _ rfl) ?_
                  refine E_iload_n dX2_pourAll_113 rfl ?_
                  refine E_dup2 dX2_pourAll_114 rfl rfl ?_
                  refine E_ialdN dX2_pourAll_115 rfl (Nat.lt_of_lt_of_le (by decide) hN) (by omega) ?_
                  refine E.top (o5 a (by omega)) ?_
                  refine E_iload dX2_pourAll_116 rfl ?_
                  refine E_isub dX2_pourAll_118 ?_
                  refine E.top (pk_sub (a := amS W ((jrS (mvS W B) b0 h).2.1 h) a) (b := min (amS W ((jrS (mvS W B) b0 h).2.1 h) a) ((B i) - (amS W ((jrS (mvS W B) b0 h).2.1 h) i))) (Nat.min_le_left _ _)) ?_
                  refine E_iastN dX2_pourAll_119 rfl (Nat.lt_of_lt_of_le (by decide) hN) (by omega) ?_
                  refine E_aload_n dX2_pourAll_120 rfl ?_
                  refine E_getR dX2_pourAll_121 f_X2_15 rfl (Nat.lt_of_lt_of_le (by decide) hN) rfl (hR _ _ _ rfl) ?_
                  refine E_iload dX2_pourAll_124 rfl ?_
                  refine E_dup2 dX2_pourAll_126 rfl rfl ?_
                  refine E_ialdN dX2_pourAll_127 rfl (Nat.lt_of_lt_of_le (by decide) hN) (by omega) ?_
                  refine E.top ((up2_k _ _ (fun z => c70 z.symm)).trans (o5 i (by omega))) ?_
                  refine E_iload dX2_pourAll_128 rfl ?_
                  refine E_iadd dX2_pourAll_130 ?_
                  refine E.top (nI_add (amS W ((jrS (mvS W B) b0 h).2.1 h) i) (min (amS W ((jrS (mvS W B) b0 h).2.1 h) a) ((B i) - (amS W ((jrS (mvS W B) b0 h).2.1 h) i)))) ?_
                  refine E_iastN dX2_pourAll_131 rfl (Nat.lt_of_lt_of_le (by decide) hN) (by omega) ?_
                  have X5 : XJ (exJ (mvS W B) (jrS (mvS W B) b0 h) h (3 * a + i)) (up2 (up2 I5 49 a (nI (amS W ((jrS (mvS W B) b0 h).2.1 h) a - min (amS W ((jrS (mvS W B) b0 h).2.1 h) a) (B i - amS W ((jrS (mvS W B) b0 h).2.1 h) i)))) 49 i (nI (amS W ((jrS (mvS W B) b0 h).2.1 h) i + min (amS W ((jrS (mvS W B) b0 h).2.1 h) a) (B i - amS W ((jrS (mvS W B) b0 h).2.1 h) i)))) := ⟨(congrFun ((up2_o _ 49 _ _ 47 (by decide)).trans ((up2_o _ 49 _ _ 47 (by decide)).trans (f5 47 (by decide)))) 5).trans hv.2.1, fun k hk => (congrFun ((up2_o _ 49 _ _ 51 (by decide)).trans ((up2_o _ 49 _ _ 51 (by decide)).trans (f5 51 (by decide)))) k).trans (hv.2.2.1 k hk), fun s hs => (congrFun ((up2_o _ 49 _ _ 50 (by decide)).trans ((up2_o _ 49 _ _ 50 (by decide)).trans (f5 50 (by decide)))) s).trans (hv.2.2.2 s hs)⟩
                  refine E_aload_n dX2_pourAll_132 rfl ?_
                  refine E_iload_n dX2_pourAll_133 rfl ?_
                  refine E_callV (As := [_]) (ci := 2) (kc' := 0) (ks' := 0) (kc := 0) (ks := 0) dX2_pourAll_134 ok_X2_note w_X2_37 i_X2_note s_X2_note rfl (by decide) rfl (Nat.lt_of_lt_of_le (by decide) hN) rfl rfl rfl (Nat.le_of_ble_eq_true rfl) (Nat.le_of_ble_eq_true rfl) (Nat.le_refl _) (x_noteJ (b := (exJ (mvS W B) (jrS (mvS W B) b0 h) h (3 * a + i))) hN hR (up_pw o5 0 (by decide)) (up_pw o5 1 (by decide)) s441 X5 (by have := w2.2.2 (pwF (amS W ((jrS (mvS W B) b0 h).2.1 h)) B a i 0 * 21 + pwF (amS W ((jrS (mvS W B) b0 h).2.1 h)) B a i 1); have := cnS_le (exJ (mvS W B) (jrS (mvS W B) b0 h) h (3 * a + i)).2.2 441; rw [w2.2.1] at this; omega) (fun z => by have := cnS_lt z 441 s441; rw [w2.2.1] at this; exact this) (fun I6 f6 g6 x6 => ?_))
                  refine E_incN dX2_pourAll_137 rfl ?_
                  refine E_goto (tgt := 61) dX2_pourAll_140 (by decide) ?_
                  refine E.mask [true, true, true, true, true, false] ?_
                  refine ihi _ ⟨?_, ?_⟩
                  · first
                    | exact hv.1
                    | exact ⟨fun x h1 h2 h3 h4 => (f6 x h1 h3 h4).trans ((up2_o _ 49 _ _ x h2).trans ((up2_o _ 49 _ _ x h2).trans ((f5 x h2).trans (hv.1.1 x h1 h2 h3 h4)))), g6.trans ((congrFun ((up2_o _ 49 _ _ 47 (by decide)).trans ((up2_o _ 49 _ _ 47 (by decide)).trans (f5 47 (by decide)))) 4).trans hv.1.2)⟩
                  · first
                    | (rw [show 3 * a + (i + 1) = 3 * a + i + 1 by omega, show (exJ (mvS W B) (jrS (mvS W B) b0 h) h (3 * a + i + 1)) = nt (exJ (mvS W B) (jrS (mvS W B) b0 h) h (3 * a + i)) (mvS W B ((jrS (mvS W B) b0 h).2.1 h) (3 * a + i)) ((jrS (mvS W B) b0 h).2.2 ((jrS (mvS W B) b0 h).2.1 h) + 1) from rfl, show mvS W B ((jrS (mvS W B) b0 h).2.1 h) (3 * a + i) = pwF (amS W ((jrS (mvS W B) b0 h).2.1 h)) B a i 0 * 21 + pwF (amS W ((jrS (mvS W B) b0 h).2.1 h)) B a i 1 by unfold mvS; rw [show (3 * a + i) / 3 = a by omega, show (3 * a + i) % 3 = i by omega, if_neg c70]]; exact x6)
                    | (rw [show 3 * a + (i + 1) = 3 * a + i + 1 by omega, show (exJ (mvS W B) (jrS (mvS W B) b0 h) h (3 * a + i + 1)) = nt (exJ (mvS W B) (jrS (mvS W B) b0 h) h (3 * a + i)) (mvS W B ((jrS (mvS W B) b0 h).2.1 h) (3 * a + i)) ((jrS (mvS W B) b0 h).2.2 ((jrS (mvS W B) b0 h).2.1 h) + 1) from rfl, show mvS W B ((jrS (mvS W B) b0 h).2.1 h) (3 * a + i) = ((jrS (mvS W B) b0 h).2.1 h) by unfold mvS; rw [show (3 * a + i) / 3 = a by omega, show (3 * a + i) % 3 = i by omega, if_pos c70], nt_f (by rw [e2.2.2 _ (wj.1 h hh).2]; exact (wj.1 h hh).2)]; exact hv.2)
            refine E_iload_n dX2_pourAll_53 rfl ?_
            refine E_ic (nI 3) dX2_pourAll_54 (by decide) ?_
            refine E_cN_ge (a := a) (b := 3) (tgt := 149) dX2_pourAll_55 (by omega) (by decide) (by decide) (fun c55 => absurd c55 (by omega)) (fun c55 => ?_)
            refine E_ic (nI 0) dX2_pourAll_58 (by decide) ?_
            refine E_istore dX2_pourAll_59 (Nat.le_of_ble_eq_true rfl) ?_
            exact Li 0 (Nat.zero_le _) I3 hva
        refine E_ic (nI 0) dX2_pourAll_51 (by decide) ?_
        refine E_istore_n dX2_pourAll_52 (Nat.le_of_ble_eq_true rfl) ?_
        exact La 0 (Nat.zero_le _) I2 ⟨hv2.1, hv2.2.1⟩
  refine E_aload_n dX2_pourAll_0 rfl ?_
  refine E_getR dX2_pourAll_1 f_X2_18 rfl (Nat.lt_of_lt_of_le (by decide) hN) rfl (hR _ _ _ rfl) ?_
  refine E_ic (-1) dX2_pourAll_4 (by decide) ?_
  refine E_callS (As := [_, _]) (kc' := 0) (ks' := 0) (kc := 0) (ks := 0) dX2_pourAll_5 ok_J7_fill_53178 w_X2_31 st_J7_fill_53178 rfl rfl rfl (Nat.le_of_ble_eq_true rfl) (Nat.le_of_ble_eq_true rfl) (Nat.le_refl _) (c_fillI (L := 441) rfl (Nat.lt_of_lt_of_le (by decide) hN) ?_)
  refine E_aload_n dX2_pourAll_8 rfl ?_
  refine E_ic (nI 0) dX2_pourAll_9 (by decide) ?_
  refine E_putI dX2_pourAll_10 f_X2_28 rfl (Nat.lt_of_lt_of_le (by decide) hN) rfl ?_
  refine E_aload_n dX2_pourAll_13 rfl ?_
  refine E_ic (nI 0) dX2_pourAll_14 (by decide) ?_
  refine E_callV (As := [_]) (ci := 2) (kc' := 0) (ks' := 0) (kc := 0) (ks := 0) dX2_pourAll_15 ok_X2_note w_X2_37 i_X2_note s_X2_note rfl (by decide) rfl (Nat.lt_of_lt_of_le (by decide) hN) rfl rfl rfl (Nat.le_of_ble_eq_true rfl) (Nat.le_of_ble_eq_true rfl) (Nat.le_refl _) (x_noteJ (b := (0, fun _ => 0, fun _ => 0)) (v := 0) hN hR ((congrFun ((up2_o _ 47 _ _ 49 (by decide)).trans (show fil I 50 441 (-1) 49 = I 49 from funext fun y => if_neg (fun z => absurd z.1 (by decide)))) 0).trans h0) ((congrFun ((up2_o _ 47 _ _ 49 (by decide)).trans (show fil I 50 441 (-1) 49 = I 49 from funext fun y => if_neg (fun z => absurd z.1 (by decide)))) 1).trans h1) hs ⟨up2_s _ _ _ _, fun i hi => absurd hi (Nat.not_lt_zero i), fun s hs => (congrFun (up2_o _ 47 _ _ 50 (by decide)) s).trans (if_pos ⟨rfl, hs⟩)⟩ (Nat.zero_lt_succ _) (fun _ => by decide) (fun I6 f6 g6 x6 => ?_))
  refine E_ic (nI 0) dX2_pourAll_18 (by decide) ?_
  refine E_istore_n dX2_pourAll_19 (Nat.le_of_ble_eq_true rfl) ?_
  refine Lh 0 (Nat.zero_le _) I6 ⟨⟨fun x h1 h2 h3 h4 => (f6 x h1 h3 h4).trans ((up2_o _ 47 _ _ x h1).trans (funext fun y => if_neg (fun z => h3 z.1))), g6.trans ((up2_k _ _ (by decide)).trans (if_neg (fun z => absurd z.1 (by decide))))⟩, ?_, Nat.zero_le _⟩
  show XJ b0 I6
  rw [he]
  exact x6
set_option maxRecDepth 100000 in
set_option maxHeartbeats 2000000 in
theorem x_fillJ (hN : 152 ≤ n) (hR : RS R) (hB : BND σ) (hT : TX σ I) (h6 : 6 ≤ σ 9 0 0) (hbad : bJ σ → ∀ I2 : IM, (∀ x, x ≠ 47 → x ≠ 48 → x ≠ 49 → I2 x = I x) → Q (some (.int 0)) n I2 J R) (hgood : (∀ j, j < 3 → jgB σ j ≤ 20 ∧ jgF σ j ≤ jgB σ j) → ∀ I2 : IM, (∀ x, x ≠ 47 → x ≠ 48 → x ≠ 49 → I2 x = I x) → I2 47 4 = nI (jgW σ) → (∀ i, i < 3 → I2 48 i = nI (jgB σ i) ∧ I2 49 i = nI (jgF σ i)) → Q (some (.int 1)) n I2 J R) : E g mX2_fill d 0 0 0 (ent 3 [.ref 47, .ref 2]) [] n I J R Q := by
  have L : ∀ j, j ≤ 3 → ∀ I2 : IM, ((∀ x, x ≠ 47 → x ≠ 48 → x ≠ 49 → I2 x = I x) ∧ I2 47 4 = nI (sumS (jgF σ) j) ∧ ∀ i, i < j → I2 48 i = nI (jgB σ i) ∧ I2 49 i = nI (jgF σ i) ∧ jgB σ i ≤ 20 ∧ jgF σ i ≤ jgB σ i) → E g mX2_fill d 0 0 7 [.ref 47, .ref 2, .int (nI j)] [] n I2 J R Q := by
    refine loopU 3 (fun I2 hv => ?_) (fun j hj ih I2 hv => ?_)
    · refine E_iload_n dX2_fill_7 rfl ?_
      refine E_ic (nI 3) dX2_fill_8 (by decide) ?_
      refine E_cN_ge (a := 3) (b := 3) (tgt := 85) dX2_fill_9 (by decide) (by decide) (by decide) (fun c9 => ?_) (fun c9 => absurd c9 (by omega))
      refine E_ic (nI 1) dX2_fill_85 (by decide) ?_
      exact E_zret dX2_fill_86 rfl (by decide) (hgood (fun j hj => (hv.2.2 j hj).2.2) I2 hv.1 hv.2.1 (fun i hi => ⟨(hv.2.2 i hi).1, (hv.2.2 i hi).2.1⟩))
    · have b81 : jgB σ j < 256 := hB.2.2.2.2.1 (2 * j) (by omega)
      have b82 : jgF σ j < 256 := hB.2.2.2.2.1 (2 * j + 1) (by omega)
      refine E_iload_n dX2_fill_7 rfl ?_
      refine E_ic (nI 3) dX2_fill_8 (by decide) ?_
      refine E_cN_ge (a := j) (b := 3) (tgt := 85) dX2_fill_9 (by omega) (by decide) (by decide) (fun c9 => absurd c9 (by omega)) (fun c9 => ?_)
      refine E_aload_n dX2_fill_12 rfl ?_
      refine E_getR dX2_fill_13 f_X2_9 rfl (Nat.lt_of_lt_of_le (by decide) hN) rfl (hR _ _ _ rfl) ?_
      refine E_iload_n dX2_fill_16 rfl ?_
      refine E_aload_n dX2_fill_17 rfl ?_
      refine E_ic (nI 2) dX2_fill_18 (by decide) ?_
      refine E_iload_n dX2_fill_19 rfl ?_
      refine E_imul dX2_fill_20 ?_
      refine E.top (pk_mul 2 j) ?_
      refine E_ialdN dX2_fill_21 rfl (Nat.lt_of_lt_of_le (by decide) hN) (by omega) ?_
      refine E.top ((congrFun (hv.1 2 (by decide) (by decide) (by decide)) (2 * j)).trans (hT (2 * j) (by omega))) ?_
      refine E_iastN dX2_fill_22 rfl (Nat.lt_of_lt_of_le (by decide) hN) (by omega) ?_
      refine E_aload_n dX2_fill_23 rfl ?_
      refine E_getR dX2_fill_24 f_X2_15 rfl (Nat.lt_of_lt_of_le (by decide) hN) rfl (hR _ _ _ rfl) ?_
      refine E_iload_n dX2_fill_27 rfl ?_
      refine E_aload_n dX2_fill_28 rfl ?_
      refine E_ic (nI 2) dX2_fill_29 (by decide) ?_
      refine E_iload_n dX2_fill_30 rfl ?_
      refine E_imul dX2_fill_31 ?_
      refine E.top (pk_mul 2 j) ?_
      refine E_ic (nI 1) dX2_fill_32 (by decide) ?_
      refine E_iadd dX2_fill_33 ?_
      refine E.top (nI_add (2 * j) 1) ?_
      refine E_ialdN dX2_fill_34 rfl (Nat.lt_of_lt_of_le (by decide) hN) (by omega) ?_
      refine E.top ((congrFun ((up2_o I2 48 _ _ 2 (by decide)).trans (hv.1 2 (by decide) (by decide) (by decide))) (2 * j + 1)).trans (hT (2 * j + 1) (by omega))) ?_
      refine E_iastN dX2_fill_35 rfl (Nat.lt_of_lt_of_le (by decide) hN) (by omega) ?_
      refine E_aload_n dX2_fill_36 rfl ?_
      refine E_getR dX2_fill_37 f_X2_9 rfl (Nat.lt_of_lt_of_le (by decide) hN) rfl (hR _ _ _ rfl) ?_
      refine E_iload_n dX2_fill_40 rfl ?_
      refine E_ialdN dX2_fill_41 rfl (Nat.lt_of_lt_of_le (by decide) hN) (by omega) ?_
      refine E.top ((congrFun (up2_o (up2 I2 48 j (nI (jgB σ j))) 49 _ _ 48 (by decide)) j).trans (up2_s _ _ _ _)) ?_
      refine E_bp (nI 20) dX2_fill_42 (by decide) ?_
      refine E_cN_gt (a := jgB σ j) (b := 20) (tgt := 62) dX2_fill_44 (by omega) (by decide) (by decide) (fun c44 => ?_) (fun c44 => ?_)
      · refine E_ic (nI 0) dX2_fill_62 (by decide) ?_
        exact E_zret dX2_fill_63 rfl (by decide) (hbad (fun z => by have := z j hj; omega) _ (fun x h1 h2 h3 => (up2_o _ 49 _ _ x h3).trans ((up2_o _ 48 _ _ x h2).trans (hv.1 x h1 h2 h3))))
      · refine E_aload_n dX2_fill_47 rfl ?_
        refine E_getR dX2_fill_48 f_X2_15 rfl (Nat.lt_of_lt_of_le (by decide) hN) rfl (hR _ _ _ rfl) ?_
        refine E_iload_n dX2_fill_51 rfl ?_
        refine E_ialdN dX2_fill_52 rfl (Nat.lt_of_lt_of_le (by decide) hN) (by omega) ?_
        refine E.top (up2_s _ _ _ _) ?_
        refine E_aload_n dX2_fill_53 rfl ?_
        refine E_getR dX2_fill_54 f_X2_9 rfl (Nat.lt_of_lt_of_le (by decide) hN) rfl (hR _ _ _ rfl) ?_
        refine E_iload_n dX2_fill_57 rfl ?_
        refine E_ialdN dX2_fill_58 rfl (Nat.lt_of_lt_of_le (by decide) hN) (by omega) ?_
        refine E.top ((congrFun (up2_o (up2 I2 48 j (nI (jgB σ j))) 49 _ _ 48 (by decide)) j).trans (up2_s _ _ _ _)) ?_
        refine E_cN_le (a := jgF σ j) (b := jgB σ j) (tgt := 64) dX2_fill_59 (by omega) (by omega) (by decide) (fun c59 => ?_) (fun c59 => ?_)
        · refine E_aload_n dX2_fill_64 rfl ?_
          refine E_dup dX2_fill_65 rfl ?_
          refine E_getI dX2_fill_66 f_X2_24 rfl (Nat.lt_of_lt_of_le (by decide) hN) rfl ?_
          refine E.top ((congrFun ((up2_o (up2 I2 48 j (nI (jgB σ j))) 49 _ _ 47 (by decide)).trans (up2_o I2 48 _ _ 47 (by decide))) 4).trans hv.2.1) ?_
          refine E_aload_n dX2_fill_69 rfl ?_
          refine E_getR dX2_fill_70 f_X2_15 rfl (Nat.lt_of_lt_of_le (by decide) hN) rfl (hR _ _ _ rfl) ?_
          refine E_iload_n dX2_fill_73 rfl ?_
          refine E_ialdN dX2_fill_74 rfl (Nat.lt_of_lt_of_le (by decide) hN) (by omega) ?_
          refine E.top (up2_s _ _ _ _) ?_
          refine E_iadd dX2_fill_75 ?_
          refine E.top (nI_add (sumS (jgF σ) j) (jgF σ j)) ?_
          refine E_putI dX2_fill_76 f_X2_24 rfl (Nat.lt_of_lt_of_le (by decide) hN) rfl ?_
          refine E_incN dX2_fill_79 rfl ?_
          refine E_goto (tgt := 7) dX2_fill_82 (by decide) ?_
          refine ih _ ⟨fun x h1 h2 h3 => (up2_o _ 47 _ _ x h1).trans ((up2_o _ 49 _ _ x h3).trans ((up2_o _ 48 _ _ x h2).trans (hv.1 x h1 h2 h3))), up2_s _ _ _ _, fun i hi => ?_⟩
          rw [up2_o _ 47 _ _ 48 (by decide), up2_o _ 47 _ _ 49 (by decide), up2_o _ 49 _ _ 48 (by decide)]
          rcases Nat.lt_succ_iff_lt_or_eq.mp hi with z | z
          · rw [up2_k _ _ (show i ≠ j by omega), up2_k _ _ (show i ≠ j by omega), up2_o _ 48 _ _ 49 (by decide)]
            exact hv.2.2 i z
          · subst z
            exact ⟨up2_s _ _ _ _, up2_s _ _ _ _, c44, c59⟩
        · refine E_ic (nI 0) dX2_fill_62 (by decide) ?_
          exact E_zret dX2_fill_63 rfl (by decide) (hbad (fun z => by have := z j hj; omega) _ (fun x h1 h2 h3 => (up2_o _ 49 _ _ x h3).trans ((up2_o _ 48 _ _ x h2).trans (hv.1 x h1 h2 h3))))
  refine E_aload_n dX2_fill_0 rfl ?_
  refine E_ic (nI 0) dX2_fill_1 (by decide) ?_
  refine E_putI dX2_fill_2 f_X2_24 rfl (Nat.lt_of_lt_of_le (by decide) hN) rfl ?_
  refine E_ic (nI 0) dX2_fill_5 (by decide) ?_
  refine E_istore_n dX2_fill_6 (Nat.le_of_ble_eq_true rfl) ?_
  exact L 0 (Nat.zero_le _) _ ⟨fun x h1 h2 h3 => up2_o I 47 _ _ x h1, up2_s _ _ _ _, fun i hi => absurd hi (Nat.not_lt_zero i)⟩
set_option maxRecDepth 100000 in
set_option maxHeartbeats 2000000 in
theorem x_fewest {W m : Nat} {B : Nat → Nat} {b : BS} (hN : 152 ≤ n) (hR : RS R) (hW : I 47 4 = nI W) (hB20 : ∀ i, i < 3 → B i ≤ 20) (hm : m ≤ 20) (hX : XJ b I) (hb : WJ (vJ W B) 441 b) (hQ : ∀ I2 : IM, (∀ x, x ≠ 49 → I2 x = I x) → Q (some (.int (ftS (hitS W m) b b.1))) n I2 J R) : E g mX2_fewestTill (d + 1) 0 0 0 (ent 3 [.ref 47, .int (nI m)]) [] n I J R Q := by
  have cl := cnS_le b.2.2 441
  rw [hb.2.1] at cl
  have L : ∀ i, i ≤ (b.1) → ∀ I2 : IM, ((∀ x, x ≠ 49 → I2 x = I x) ∧ ftS (hitS W m) b i = -2) → E g mX2_fewestTill (d + 1) 0 0 2 [.ref 47, .int (nI m), .int (nI i)] [] n I2 J R Q := by
    refine loopU (b.1) (fun I2 hv => ?_) (fun i hi ih I2 hv => ?_)
    · refine E_iload_n dX2_fewestTill_2 rfl ?_
      refine E_aload_n dX2_fewestTill_3 rfl ?_
      refine E_getI dX2_fewestTill_4 f_X2_28 rfl (Nat.lt_of_lt_of_le (by decide) hN) rfl ?_
      refine E.top ((congrFun (hv.1 47 (by decide)) 5).trans hX.1) ?_
      refine E_cN_ge (a := b.1) (b := b.1) (tgt := 77) dX2_fewestTill_7 (by omega) (by omega) (by decide) (fun c7 => ?_) (fun c7 => absurd c7 (by omega))
      refine E_bp (-2) dX2_fewestTill_77 (by decide) ?_
      exact E_iret dX2_fewestTill_79 rfl (by rw [hv.2] at hQ; exact hQ I2 hv.1)
    · have vk := hb.1 i hi
      have s4 := vJ_lt hB20 _ vk.1
      have a0 := vk.1.2 0 (by decide)
      have a1 := vk.1.2 1 (by decide)
      have a2 := vk.1.2 2 (by decide)
      have q0 := hB20 0 (by decide)
      have q1 := hB20 1 (by decide)
      have q2 := hB20 2 (by decide)
      have pb := hb.2.2 (b.2.1 i)
      refine E_iload_n dX2_fewestTill_2 rfl ?_
      refine E_aload_n dX2_fewestTill_3 rfl ?_
      refine E_getI dX2_fewestTill_4 f_X2_28 rfl (Nat.lt_of_lt_of_le (by decide) hN) rfl ?_
      refine E.top ((congrFun (hv.1 47 (by decide)) 5).trans hX.1) ?_
      refine E_cN_ge (a := i) (b := b.1) (tgt := 77) dX2_fewestTill_7 (by omega) (by omega) (by decide) (fun c7 => absurd c7 (by omega)) (fun c7 => ?_)
      refine E_iload_n dX2_fewestTill_10 rfl ?_
      refine E_aload_n dX2_fewestTill_11 rfl ?_
      refine E_getR dX2_fewestTill_12 f_X2_21 rfl (Nat.lt_of_lt_of_le (by decide) hN) rfl (hR _ _ _ rfl) ?_
      refine E_alen dX2_fewestTill_15 rfl (Nat.lt_of_lt_of_le (by decide) hN) (by decide) (by decide) ?_
      refine E.top (show _ = nI 441 from rfl) ?_
      refine E_cN_ge (a := i) (b := 441) (tgt := 77) dX2_fewestTill_16 (by omega) (by decide) (by decide) (fun c16 => absurd c16 (by omega)) (fun c16 => ?_)
      refine E_aload_n dX2_fewestTill_19 rfl ?_
      refine E_aload_n dX2_fewestTill_20 rfl ?_
      refine E_getR dX2_fewestTill_21 f_X2_21 rfl (Nat.lt_of_lt_of_le (by decide) hN) rfl (hR _ _ _ rfl) ?_
      refine E_iload_n dX2_fewestTill_24 rfl ?_
      refine E_ialdN dX2_fewestTill_25 rfl (Nat.lt_of_lt_of_le (by decide) hN) (by omega) ?_
      refine E.top ((congrFun (hv.1 51 (by decide)) i).trans (hX.2.1 i hi)) ?_
      refine E_callV (As := [_]) (ci := 2) (kc' := 0) (ks' := 0) (kc := 0) (ks := 0) dX2_fewestTill_26 ok_X2_stand w_X2_41 i_X2_stand s_X2_stand rfl (by decide) rfl (Nat.lt_of_lt_of_le (by decide) hN) rfl rfl rfl (Nat.le_of_ble_eq_true rfl) (Nat.le_of_ble_eq_true rfl) (Nat.le_refl _) (x_stand (W := W) hN hR ((congrFun (hv.1 47 (by decide)) 4).trans hW) s4 vk.1.1 (fun I5 f5 o5 => ?_))
      refine E_aload_n dX2_fewestTill_29 rfl ?_
      refine E_getR dX2_fewestTill_30 f_X2_15 rfl (Nat.lt_of_lt_of_le (by decide) hN) rfl (hR _ _ _ rfl) ?_
      refine E_ic (nI 0) dX2_fewestTill_33 (by decide) ?_
      refine E_ialdN dX2_fewestTill_34 rfl (Nat.lt_of_lt_of_le (by decide) hN) (by decide) ?_
      refine E.top (o5 0 (by decide)) ?_
      refine E_iload_n dX2_fewestTill_35 rfl ?_
      refine E_cN_eq (a := amS W (b.2.1 i) 0) (b := m) (tgt := 59) dX2_fewestTill_36 (by omega) (by omega) (by decide) (fun c36 => ?_) (fun c36 => ?_)
      · refine E_aload_n dX2_fewestTill_59 rfl ?_
        refine E_getR dX2_fewestTill_60 f_X2_18 rfl (Nat.lt_of_lt_of_le (by decide) hN) rfl (hR _ _ _ rfl) ?_
        refine E_aload_n dX2_fewestTill_63 rfl ?_
        refine E_getR dX2_fewestTill_64 f_X2_21 rfl (Nat.lt_of_lt_of_le (by decide) hN) rfl (hR _ _ _ rfl) ?_
        refine E_iload_n dX2_fewestTill_67 rfl ?_
        refine E_ialdN dX2_fewestTill_68 rfl (Nat.lt_of_lt_of_le (by decide) hN) (by omega) ?_
        refine E.top ((congrFun ((f5 51 (by decide)).trans (hv.1 51 (by decide))) i).trans (hX.2.1 i hi)) ?_
        refine E_ialdN dX2_fewestTill_69 rfl (Nat.lt_of_lt_of_le (by decide) hN) s4 ?_
        refine E.top ((congrFun ((f5 50 (by decide)).trans (hv.1 50 (by decide))) _).trans ((hX.2.2 _ s4).trans (dn_p vk.2))) ?_
        exact E_iret dX2_fewestTill_70 rfl (by first | (have e1 : ftS (hitS W m) b (i + 1) = nI (b.2.2 (b.2.1 i) - 1) := (if_pos hv.2).trans (if_pos (Or.inl c36)); have e2 := ftS_stay (e := i + 1) (by rw [e1]; exact nI_ne2 (by omega)) (b.1 - (i + 1)); rw [show i + 1 + (b.1 - (i + 1)) = b.1 by omega, e1] at e2; rw [e2] at hQ; exact hQ I5 (fun x hx => (f5 x hx).trans (hv.1 x hx))) | (have e1 : ftS (hitS W m) b (i + 1) = nI (b.2.2 (b.2.1 i) - 1) := (if_pos hv.2).trans (if_pos (Or.inr (Or.inl c46))); have e2 := ftS_stay (e := i + 1) (by rw [e1]; exact nI_ne2 (by omega)) (b.1 - (i + 1)); rw [show i + 1 + (b.1 - (i + 1)) = b.1 by omega, e1] at e2; rw [e2] at hQ; exact hQ I5 (fun x hx => (f5 x hx).trans (hv.1 x hx))) | (have e1 : ftS (hitS W m) b (i + 1) = nI (b.2.2 (b.2.1 i) - 1) := (if_pos hv.2).trans (if_pos (Or.inr (Or.inr c56))); have e2 := ftS_stay (e := i + 1) (by rw [e1]; exact nI_ne2 (by omega)) (b.1 - (i + 1)); rw [show i + 1 + (b.1 - (i + 1)) = b.1 by omega, e1] at e2; rw [e2] at hQ; exact hQ I5 (fun x hx => (f5 x hx).trans (hv.1 x hx))))
      · refine E_aload_n dX2_fewestTill_39 rfl ?_
        refine E_getR dX2_fewestTill_40 f_X2_15 rfl (Nat.lt_of_lt_of_le (by decide) hN) rfl (hR _ _ _ rfl) ?_
        refine E_ic (nI 1) dX2_fewestTill_43 (by decide) ?_
        refine E_ialdN dX2_fewestTill_44 rfl (Nat.lt_of_lt_of_le (by decide) hN) (by decide) ?_
        refine E.top (o5 1 (by decide)) ?_
        refine E_iload_n dX2_fewestTill_45 rfl ?_
        refine E_cN_eq (a := amS W (b.2.1 i) 1) (b := m) (tgt := 59) dX2_fewestTill_46 (by omega) (by omega) (by decide) (fun c46 => ?_) (fun c46 => ?_)
        · refine E_aload_n dX2_fewestTill_59 rfl ?_
          refine E_getR dX2_fewestTill_60 f_X2_18 rfl (Nat.lt_of_lt_of_le (by decide) hN) rfl (hR _ _ _ rfl) ?_
          refine E_aload_n dX2_fewestTill_63 rfl ?_
          refine E_getR dX2_fewestTill_64 f_X2_21 rfl (Nat.lt_of_lt_of_le (by decide) hN) rfl (hR _ _ _ rfl) ?_
          refine E_iload_n dX2_fewestTill_67 rfl ?_
          refine E_ialdN dX2_fewestTill_68 rfl (Nat.lt_of_lt_of_le (by decide) hN) (by omega) ?_
          refine E.top ((congrFun ((f5 51 (by decide)).trans (hv.1 51 (by decide))) i).trans (hX.2.1 i hi)) ?_
          refine E_ialdN dX2_fewestTill_69 rfl (Nat.lt_of_lt_of_le (by decide) hN) s4 ?_
          refine E.top ((congrFun ((f5 50 (by decide)).trans (hv.1 50 (by decide))) _).trans ((hX.2.2 _ s4).trans (dn_p vk.2))) ?_
          exact E_iret dX2_fewestTill_70 rfl (by first | (have e1 : ftS (hitS W m) b (i + 1) = nI (b.2.2 (b.2.1 i) - 1) := (if_pos hv.2).trans (if_pos (Or.inl c36)); have e2 := ftS_stay (e := i + 1) (by rw [e1]; exact nI_ne2 (by omega)) (b.1 - (i + 1)); rw [show i + 1 + (b.1 - (i + 1)) = b.1 by omega, e1] at e2; rw [e2] at hQ; exact hQ I5 (fun x hx => (f5 x hx).trans (hv.1 x hx))) | (have e1 : ftS (hitS W m) b (i + 1) = nI (b.2.2 (b.2.1 i) - 1) := (if_pos hv.2).trans (if_pos (Or.inr (Or.inl c46))); have e2 := ftS_stay (e := i + 1) (by rw [e1]; exact nI_ne2 (by omega)) (b.1 - (i + 1)); rw [show i + 1 + (b.1 - (i + 1)) = b.1 by omega, e1] at e2; rw [e2] at hQ; exact hQ I5 (fun x hx => (f5 x hx).trans (hv.1 x hx))) | (have e1 : ftS (hitS W m) b (i + 1) = nI (b.2.2 (b.2.1 i) - 1) := (if_pos hv.2).trans (if_pos (Or.inr (Or.inr c56))); have e2 := ftS_stay (e := i + 1) (by rw [e1]; exact nI_ne2 (by omega)) (b.1 - (i + 1)); rw [show i + 1 + (b.1 - (i + 1)) = b.1 by omega, e1] at e2; rw [e2] at hQ; exact hQ I5 (fun x hx => (f5 x hx).trans (hv.1 x hx))))
        · refine E_aload_n dX2_fewestTill_49 rfl ?_
          refine E_getR dX2_fewestTill_50 f_X2_15 rfl (Nat.lt_of_lt_of_le (by decide) hN) rfl (hR _ _ _ rfl) ?_
          refine E_ic (nI 2) dX2_fewestTill_53 (by decide) ?_
          refine E_ialdN dX2_fewestTill_54 rfl (Nat.lt_of_lt_of_le (by decide) hN) (by decide) ?_
          refine E.top (o5 2 (by decide)) ?_
          refine E_iload_n dX2_fewestTill_55 rfl ?_
          refine E_cN_ne (a := amS W (b.2.1 i) 2) (b := m) (tgt := 71) dX2_fewestTill_56 (by omega) (by omega) (by decide) (fun c56 => ?_) (fun c56 => ?_)
          · refine E_incN dX2_fewestTill_71 rfl ?_
            refine E_goto (tgt := 2) dX2_fewestTill_74 (by decide) ?_
            exact ih I5 ⟨fun x hx => (f5 x hx).trans (hv.1 x hx), (if_pos hv.2).trans (if_neg (fun z => z.elim c36 (fun z => z.elim c46 c56)))⟩
          · refine E_aload_n dX2_fewestTill_59 rfl ?_
            refine E_getR dX2_fewestTill_60 f_X2_18 rfl (Nat.lt_of_lt_of_le (by decide) hN) rfl (hR _ _ _ rfl) ?_
            refine E_aload_n dX2_fewestTill_63 rfl ?_
            refine E_getR dX2_fewestTill_64 f_X2_21 rfl (Nat.lt_of_lt_of_le (by decide) hN) rfl (hR _ _ _ rfl) ?_
            refine E_iload_n dX2_fewestTill_67 rfl ?_
            refine E_ialdN dX2_fewestTill_68 rfl (Nat.lt_of_lt_of_le (by decide) hN) (by omega) ?_
            refine E.top ((congrFun ((f5 51 (by decide)).trans (hv.1 51 (by decide))) i).trans (hX.2.1 i hi)) ?_
            refine E_ialdN dX2_fewestTill_69 rfl (Nat.lt_of_lt_of_le (by decide) hN) s4 ?_
            refine E.top ((congrFun ((f5 50 (by decide)).trans (hv.1 50 (by decide))) _).trans ((hX.2.2 _ s4).trans (dn_p vk.2))) ?_
            exact E_iret dX2_fewestTill_70 rfl (by first | (have e1 : ftS (hitS W m) b (i + 1) = nI (b.2.2 (b.2.1 i) - 1) := (if_pos hv.2).trans (if_pos (Or.inl c36)); have e2 := ftS_stay (e := i + 1) (by rw [e1]; exact nI_ne2 (by omega)) (b.1 - (i + 1)); rw [show i + 1 + (b.1 - (i + 1)) = b.1 by omega, e1] at e2; rw [e2] at hQ; exact hQ I5 (fun x hx => (f5 x hx).trans (hv.1 x hx))) | (have e1 : ftS (hitS W m) b (i + 1) = nI (b.2.2 (b.2.1 i) - 1) := (if_pos hv.2).trans (if_pos (Or.inr (Or.inl c46))); have e2 := ftS_stay (e := i + 1) (by rw [e1]; exact nI_ne2 (by omega)) (b.1 - (i + 1)); rw [show i + 1 + (b.1 - (i + 1)) = b.1 by omega, e1] at e2; rw [e2] at hQ; exact hQ I5 (fun x hx => (f5 x hx).trans (hv.1 x hx))) | (have e1 : ftS (hitS W m) b (i + 1) = nI (b.2.2 (b.2.1 i) - 1) := (if_pos hv.2).trans (if_pos (Or.inr (Or.inr c56))); have e2 := ftS_stay (e := i + 1) (by rw [e1]; exact nI_ne2 (by omega)) (b.1 - (i + 1)); rw [show i + 1 + (b.1 - (i + 1)) = b.1 by omega, e1] at e2; rw [e2] at hQ; exact hQ I5 (fun x hx => (f5 x hx).trans (hv.1 x hx))))
  refine E_ic (nI 0) dX2_fewestTill_0 (by decide) ?_
  refine E_istore_n dX2_fewestTill_1 (Nat.le_of_ble_eq_true rfl) ?_
  exact L 0 (Nat.zero_le _) I ⟨fun _ _ => rfl, rfl⟩
set_option maxRecDepth 100000 in
set_option maxHeartbeats 2000000 in
theorem sx_jugs (x w : Int32) : SX mX11_jugs [.int x, .int w] (r_jugs x w) (u_jugs x w) := by
  intro g n I J R σ Q hB hX hQ
  have hN := hX.2.2.2.1.n.1
  have hR := hX.2.2.2.1.1
  have b9 : σ 9 0 0 ≤ 260 := hB.2.2.2.2.2.1
  unfold r_jugs u_jugs at hQ
  have hNO : ¬ gJ σ x w → Q (some (.int (-1))) n I J R := fun hno => by
    rw [gd_f hno] at hQ
    rw [gd_f hno] at hQ
    exact hQ I J hX (fun _ _ _ => rfl) (fun _ _ _ => rfl)
  rcases i32_ix x 21 (by decide) with hx | ⟨m, hm, rfl⟩
  · have hq := hNO (fun z => rg_no hx (by decide) z.1)
    refine E_iload_n dX11_jugs_0 rfl ?_
    refine E_if_lt (tgt := 32) dX11_jugs_1 (by decide) (fun c1 => ?_) (fun c1 => ?_)
    · refine E_ic (-1) dX11_jugs_32 (by decide) ?_
      exact E_iret dX11_jugs_33 rfl (hq)
    · refine E_iload_n dX11_jugs_4 rfl ?_
      refine E_bp (nI 20) dX11_jugs_5 (by decide) ?_
      refine E_icmp_gt (tgt := 32) dX11_jugs_7 (by decide) (fun c7 => ?_) (fun c7 => by first | exact absurd c7 (hx.elim (fun q => absurd q (Int32.not_lt.mpr (Int32.not_lt.mp c1))) (fun q => Int32.lt_of_lt_of_le (by decide) q)) | exact absurd (hx.elim (fun q => absurd q (Int32.not_lt.mpr (Int32.not_lt.mp c1))) (fun q => Int32.lt_of_lt_of_le (by decide) q)) c7)
      refine E_ic (-1) dX11_jugs_32 (by decide) ?_
      exact E_iret dX11_jugs_33 rfl (hq)
  rcases i32_ix w 2 (by decide) with hx | ⟨v, hv, rfl⟩
  · have hq := hNO (fun z => rg_no hx (by decide) z.2.1)
    refine E_iload_n dX11_jugs_0 rfl ?_
    refine E_zN_lt (a := m) (tgt := 32) dX11_jugs_1 (by omega) (by decide) (fun c1 => c1.elim) (fun c1 => ?_)
    refine E_iload_n dX11_jugs_4 rfl ?_
    refine E_bp (nI 20) dX11_jugs_5 (by decide) ?_
    refine E_cN_gt (a := m) (b := 20) (tgt := 32) dX11_jugs_7 (by omega) (by decide) (by decide) (fun c7 => absurd c7 (by omega)) (fun c7 => ?_)
    refine E_iload_n dX11_jugs_10 rfl ?_
    refine E_if_lt (tgt := 32) dX11_jugs_11 (by decide) (fun c11 => ?_) (fun c11 => ?_)
    · refine E_ic (-1) dX11_jugs_32 (by decide) ?_
      exact E_iret dX11_jugs_33 rfl (hq)
    · refine E_iload_n dX11_jugs_14 rfl ?_
      refine E_ic (nI 1) dX11_jugs_15 (by decide) ?_
      refine E_icmp_gt (tgt := 32) dX11_jugs_16 (by decide) (fun c16 => ?_) (fun c16 => by first | exact absurd c16 (hx.elim (fun q => absurd q (Int32.not_lt.mpr (Int32.not_lt.mp c11))) (fun q => Int32.lt_of_lt_of_le (by decide) q)) | exact absurd (hx.elim (fun q => absurd q (Int32.not_lt.mpr (Int32.not_lt.mp c11))) (fun q => Int32.lt_of_lt_of_le (by decide) q)) c16)
      refine E_ic (-1) dX11_jugs_32 (by decide) ?_
      exact E_iret dX11_jugs_33 rfl (hq)
  refine E_iload_n dX11_jugs_0 rfl ?_
  refine E_zN_lt (a := m) (tgt := 32) dX11_jugs_1 (by omega) (by decide) (fun c1 => c1.elim) (fun c1 => ?_)
  refine E_iload_n dX11_jugs_4 rfl ?_
  refine E_bp (nI 20) dX11_jugs_5 (by decide) ?_
  refine E_cN_gt (a := m) (b := 20) (tgt := 32) dX11_jugs_7 (by omega) (by decide) (by decide) (fun c7 => absurd c7 (by omega)) (fun c7 => ?_)
  refine E_iload_n dX11_jugs_10 rfl ?_
  refine E_zN_lt (a := v) (tgt := 32) dX11_jugs_11 (by omega) (by decide) (fun c11 => c11.elim) (fun c11 => ?_)
  refine E_iload_n dX11_jugs_14 rfl ?_
  refine E_ic (nI 1) dX11_jugs_15 (by decide) ?_
  refine E_cN_gt (a := v) (b := 1) (tgt := 32) dX11_jugs_16 (by omega) (by decide) (by decide) (fun c16 => absurd c16 (by omega)) (fun c16 => ?_)
  refine E_aload_n dX11_jugs_19 rfl ?_
  refine E_bp (nI 6) dX11_jugs_20 (by decide) ?_
  refine E_bp (nI 6) dX11_jugs_22 (by decide) ?_
  refine E_bp (nI 6) dX11_jugs_24 (by decide) ?_
  refine E_callV (As := [_, _, _]) (ci := 10) (kc' := 0) (ks' := 0) (kc := 0) (ks := 0) dX11_jugs_26 ok_X11_tapeHas w_X11_113 i_X11_tapeHas s_X11_tapeHas rfl (by decide) rfl (Nat.lt_of_lt_of_le (by decide) hN) rfl rfl rfl (Nat.le_of_ble_eq_true rfl) (Nat.le_of_ble_eq_true rfl) (Nat.le_refl _) (X_tapeHas (d := 899) (x := nI 6) (by decide) (by decide) hB hX (fun _ h1 h2 h3 e => ?_) (fun z => ?_))
  · have h6 : 6 ≤ σ 9 0 0 := by have := (nI_eq (by omega) (by omega)).mp e; omega
    have hg : gJ σ (nI m) (nI v) := ⟨rg_of (by omega), rg_of (by omega), h6⟩
    rw [gd_t hg] at hQ
    rw [gd_t hg, nI_clamp (n := m) (by omega)] at hQ
    have hT : TX σ (up2 I 0 2 (nI 0)) := fun j hj => hX.2.2.1 j hj
    refine E_zN_ne (a := 1) (tgt := 34) dX11_jugs_29 (by decide) (by decide) (fun c29 => ?_) (fun c29 => absurd c29 (by omega))
    refine E_aload_n dX11_jugs_34 rfl ?_
    refine E_ic (nI 0) dX11_jugs_35 (by decide) ?_
    refine E_putI dX11_jugs_36 f_X11_19 rfl (Nat.lt_of_lt_of_le (by decide) hN) rfl ?_
    refine E_aload_n dX11_jugs_39 rfl ?_
    refine E_getR dX11_jugs_40 f_X11_75 rfl (Nat.lt_of_lt_of_le (by decide) hN) rfl (hR _ _ _ rfl) ?_
    refine E_aload_n dX11_jugs_43 rfl ?_
    refine E_getR dX11_jugs_44 f_X11_15 rfl (Nat.lt_of_lt_of_le (by decide) hN) rfl (hR _ _ _ rfl) ?_
    refine E_callV (As := [_]) (ci := 2) (kc' := 0) (ks' := 0) (kc := 0) (ks := 0) dX11_jugs_47 ok_X2_fill w_X11_285 i_X2_fill s_X2_fill rfl (by decide) rfl (Nat.lt_of_lt_of_le (by decide) hN) rfl rfl rfl (Nat.le_of_ble_eq_true rfl) (Nat.le_of_ble_eq_true rfl) (Nat.le_refl _) (x_fillJ (d := 899) hN hR hB hT h6 (fun z I2 f2 => ?_) (fun z I2 f2 w2 o2 => ?_))
    · rw [gd_t z] at hQ
      have far : ∀ a, a ≠ 47 → a ≠ 48 → a ≠ 49 → a ≠ 0 → I2 a = I a := fun a a1 a2 a3 a4 => (f2 a a1 a2 a3).trans (up2_o I 0 2 _ a a4)
      have hq := hQ I2 J ((u0_X hX).congr (fun a _ _ => f2 a (by omega) (by omega) (by omega)) (f2 0 (by decide) (by decide) (by decide)) (f2 2 (by decide) (by decide) (by decide))) (fun a a1 _ => far a (by omega) (by omega) (by omega) (by omega)) (fun a a1 _ => far a (by omega) (by omega) (by omega) (by omega))
      refine E_zN_ne (a := 0) (tgt := 56) dX11_jugs_50 (by decide) (by decide) (fun c50 => absurd c50 (by omega)) (fun c50 => ?_)
      refine E_bp (-3) dX11_jugs_53 (by decide) ?_
      exact E_iret dX11_jugs_55 rfl (by first | exact hq | (have hq := hq I4 f4; rw [if_pos (congrArg nI c64)] at hq; exact hq) | (have hq := hq I3 (fun _ _ => rfl); rw [if_neg (fun z => by have := (nI_eq (by omega) (by decide)).mp z; omega)] at hq; exact hq))
    · rw [gd_f (fun y => y z)] at hQ
      obtain ⟨v1, v2, v3, v4⟩ := b0_ok z
      have hB20 : ∀ i, i < 3 → jgB σ i ≤ 20 := fun i hi => (z i hi).1
      refine E_zN_ne (a := 1) (tgt := 56) dX11_jugs_50 (by decide) (by decide) (fun c50 => ?_) (fun c50 => absurd c50 (by omega))
      refine E_aload_n dX11_jugs_56 rfl ?_
      refine E_getR dX11_jugs_57 f_X11_75 rfl (Nat.lt_of_lt_of_le (by decide) hN) rfl (hR _ _ _ rfl) ?_
      refine E_callV (As := []) (ci := 2) (kc' := 0) (ks' := 0) (kc := 0) (ks := 0) dX11_jugs_60 ok_X2_pourAll w_X11_288 i_X2_pourAll s_X2_pourAll rfl (by decide) rfl (Nat.lt_of_lt_of_le (by decide) hN) rfl rfl rfl (Nat.le_of_ble_eq_true rfl) (Nat.le_of_ble_eq_true rfl) (Nat.le_refl _) (x_pourAll (d := 898) hN hR w2 (fun i hi => (o2 i hi).1) hB20 (o2 0 (by decide)).2 (o2 1 (by decide)).2 (vJ_lt hB20 _ v1) rfl v3 (fun I3 f3 x3 => ?_))
      have hen := jrS_ok v3 (vJ_lt hB20) (mv_ok hB20) 441
      have far0 : ∀ (I4 : IM), (∀ x, x ≠ 49 → I4 x = I3 x) → ∀ a, a ≠ 47 → a ≠ 48 → a ≠ 49 → a ≠ 50 → a ≠ 51 → I4 a = (up2 I 0 2 (nI 0)) a := fun I4 f4 a a1 a2 a3 a4 a5 => (f4 a a3).trans ((f3.1 a a1 a3 a4 a5).trans (f2 a a1 a2 a3))
      have far : ∀ (I4 : IM), (∀ x, x ≠ 49 → I4 x = I3 x) → ∀ a, a ≠ 47 → a ≠ 48 → a ≠ 49 → a ≠ 50 → a ≠ 51 → a ≠ 0 → I4 a = I a := fun I4 f4 a a1 a2 a3 a4 a5 a6 => (far0 I4 f4 a a1 a2 a3 a4 a5).trans (up2_o I 0 2 _ a a6)
      have hq := fun (I4 : IM) (f4 : ∀ x, x ≠ 49 → I4 x = I3 x) => hQ I4 J ((u0_X hX).congr (fun a _ _ => far0 I4 f4 a (by omega) (by omega) (by omega) (by omega) (by omega)) (far0 I4 f4 0 (by decide) (by decide) (by decide) (by decide) (by decide)) (far0 I4 f4 2 (by decide) (by decide) (by decide) (by decide) (by decide))) (fun a a1 _ => far I4 f4 a (by omega) (by omega) (by omega) (by omega) (by omega) (by omega)) (fun a a1 _ => far I4 f4 a (by omega) (by omega) (by omega) (by omega) (by omega) (by omega))
      refine E_iload_n dX11_jugs_63 rfl ?_
      refine E_zN_ne (a := v) (tgt := 78) dX11_jugs_64 (by omega) (by decide) (fun c64 => ?_) (fun c64 => ?_)
      · refine E_aload_n dX11_jugs_78 rfl ?_
        refine E_getR dX11_jugs_79 f_X11_75 rfl (Nat.lt_of_lt_of_le (by decide) hN) rfl (hR _ _ _ rfl) ?_
        refine E_getI dX11_jugs_82 f_X11_294 rfl (Nat.lt_of_lt_of_le (by decide) hN) rfl ?_
        refine E.top (x3.1) ?_
        exact E_iret dX11_jugs_85 rfl (by first | exact hq | (have hq := hq I4 f4; rw [if_pos (congrArg nI c64)] at hq; exact hq) | (have hq := hq I3 (fun _ _ => rfl); rw [if_neg (fun z => by have := (nI_eq (by omega) (by decide)).mp z; omega)] at hq; exact hq))
      · refine E_aload_n dX11_jugs_67 rfl ?_
        refine E_getR dX11_jugs_68 f_X11_75 rfl (Nat.lt_of_lt_of_le (by decide) hN) rfl (hR _ _ _ rfl) ?_
        refine E_iload_n dX11_jugs_71 rfl ?_
        refine E_callV (As := [_]) (ci := 2) (kc' := 0) (ks' := 0) (kc := 0) (ks := 0) dX11_jugs_72 ok_X2_fewestTill w_X11_291 i_X2_fewestTill s_X2_fewestTill rfl (by decide) rfl (Nat.lt_of_lt_of_le (by decide) hN) rfl rfl rfl (Nat.le_of_ble_eq_true rfl) (Nat.le_of_ble_eq_true rfl) (Nat.le_refl _) (x_fewest (d := 898) hN hR (f3.2.trans w2) hB20 (by omega) x3 hen (fun I4 f4 => ?_))
        refine E_goto (tgt := 85) dX11_jugs_75 (by decide) ?_
        exact E_iret dX11_jugs_85 rfl (by first | exact hq | (have hq := hq I4 f4; rw [if_pos (congrArg nI c64)] at hq; exact hq) | (have hq := hq I3 (fun _ _ => rfl); rw [if_neg (fun z => by have := (nI_eq (by omega) (by decide)).mp z; omega)] at hq; exact hq))
  · have hq := hNO (fun y => z (tp_of (by omega) (by omega) y.2.2))
    refine E_zN_ne (a := 0) (tgt := 34) dX11_jugs_29 (by decide) (by decide) (fun c29 => absurd c29 (by omega)) (fun c29 => ?_)
    refine E_ic (-1) dX11_jugs_32 (by decide) ?_
    exact E_iret dX11_jugs_33 rfl (by first | exact hq | (have hq := hq I4 f4; rw [if_pos (congrArg nI c64)] at hq; exact hq) | (have hq := hq I3 (fun _ _ => rfl); rw [if_neg (fun z => by have := (nI_eq (by omega) (by decide)).mp z; omega)] at hq; exact hq))
end PJugs
