/-! ===== plan: what is marked ===== -/
section PMark
variable {nx : Nat → Nat → Nat} {ou br : Nat → Nat → Bool} {V Z : Nat → Prop} {K : Nat} {b : BS} {h : Nat}
theorem nt_m {s v : Nat} (hb : ∀ t, b.2.2 t ≠ 0 → Z t) (hs : Z s) : ∀ t, (nt b s v).2.2 t ≠ 0 → Z t := by
  intro t ht
  by_cases e : b.2.2 s = 0
  · rw [nt_t e] at ht
    by_cases c : t = s
    · rw [c]
      exact hs
    · exact hb t (by rw [show (b.1 + 1, up1 b.2.1 b.1 s, up1 b.2.2 s v).2.2 t = b.2.2 t from if_neg c] at ht; exact ht)
  · rw [nt_f e] at ht
    exact hb t ht
theorem spP_m (hb : ∀ t, b.2.2 t ≠ 0 → Z t) (hn : ∀ dd, dd < 6 → ¬ ou (b.2.1 h) dd → ¬ br (b.2.1 h) dd → Z (nx (b.2.1 h) dd)) : ∀ dd, dd ≤ 6 → ∀ t, (spP nx ou br b h dd).1.2.2 t ≠ 0 → Z t
  | 0, _ => hb
  | dd + 1, hd => by
    have ih := spP_m hb hn dd (by omega)
    by_cases e : (spP nx ou br b h dd).2 = 0
    · by_cases o : ou (b.2.1 h) dd
      · rw [spP_o e o]
        exact ih
      · by_cases w : br (b.2.1 h) dd
        · rw [spP_b e o w]
          exact ih
        · rw [spP_n e o w]
          exact nt_m ih (hn dd (by omega) o w)
    · rw [spP_x e]
      exact ih
theorem srP_m (hW : WP V K b) (hV : ∀ s, V s → s < K) (hv : ∀ s dd, V s → dd < 6 → ¬ ou s dd → ¬ br s dd → V (nx s dd)) (hb : ∀ t, b.2.2 t ≠ 0 → Z t) (hn : ∀ s dd, V s → dd < 6 → ¬ ou s dd → ¬ br s dd → Z (nx s dd)) : ∀ h t, (srP nx ou br b h).1.2.2 t ≠ 0 → Z t
  | 0 => hb
  | h + 1 => by
    have ih := srP_m hW hV hv hb hn h
    by_cases c : (srP nx ou br b h).2 = 0 ∧ h < (srP nx ou br b h).1.1 ∧ lvP (srP nx ou br b h).1 h < 20
    · rw [srP_t c.1 c.2.1 c.2.2]
      exact spP_m ih (fun dd hd o w => hn _ dd ((srP_ok hW hV hv h).1 h c.2.1).1 hd o w) 6 (Nat.le_refl _)
    · rw [show srP nx ou br b (h + 1) = srP nx ou br b h from if_neg c]
      exact ih
end PMark
theorem pk_out {LN : Nat} {D : FN} (h : okD LN D) (h5 : D 5 = 0) : pkD D / 1980 = D 3 := un_pk h h5 3 (by decide)
/-- marked: right, and no more out than asked -/
abbrev zP (LN T s : Nat) : Prop := vP LN s ∧ s / 1980 ≤ T
theorem nx_z {q : LWD} {k LN : Nat} {Y S : FN} {T : Nat} (hL : LN ≤ 24) (s dd : Nat) (h : vP LN s) (hd : dd < 6) (o : ¬ ouP q k LN Y S T s dd) (w : ¬ brP q k LN Y S s dd) : zP LN T (nxP q k LN Y S s dd) := by
  refine ⟨nx_ok hL s dd h hd o w, ?_⟩
  have h5 : nxD q k LN Y S s dd 5 = 0 := Decidable.not_not.mp (fun z => w (decide_eq_true z))
  rw [show nxP q k LN Y S s dd / 1980 = nxD q k LN Y S s dd 3 from pk_out (ddS_ok (unD_ok h)) h5]
  exact Nat.le_of_not_lt (fun z => o (decide_eq_true z))
theorem sk_z {q : LWD} {k LN : Nat} {Y S D : FN} {T : Nat} (hL : LN ≤ 24) (hO : okD LN D) (h5 : D 5 = 0) (h3 : D 3 ≤ T) : ∀ h t, (srP (nxP q k LN Y S) (ouP q k LN Y S T) (brP q k LN Y S) (skB D) h).1.2.2 t ≠ 0 → zP LN T t :=
  srP_m (skB_ok hL hO h5) (fun _ z => z.1) (nx_ok hL) (nt_m (b := (0, fun _ => 0, fun _ => 0)) (fun t ht => absurd rfl ht) ⟨pk_vP hL hO h5, by rw [pk_out hO h5]; exact h3⟩) (nx_z hL)
