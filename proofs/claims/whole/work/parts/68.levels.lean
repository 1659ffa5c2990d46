/-! ===== plan: the levels go up ===== -/
/-- levels never fall, none is two above one that still waits, the first alone is 0 -/
def LV (b : BS) (h : Nat) : Prop := (∀ i j, i ≤ j → j < b.1 → lvP b i ≤ lvP b j) ∧ (∀ i j, i < b.1 → h ≤ j → j < b.1 → lvP b i ≤ lvP b j + 1) ∧ lvP b 0 = 0 ∧ (∀ i, 1 ≤ i → i < b.1 → 1 ≤ lvP b i) ∧ 0 < b.1
section PLevel
variable {nx : Nat → Nat → Nat} {ou br : Nat → Nat → Bool} {V : Nat → Prop} {K : Nat} {b : BS} {h : Nat}
theorem LV.next (hb : WP V K b) (hh : h < b.1) (hV : ∀ s, V s → s < K) (hn : ∀ s dd, V s → dd < 6 → ¬ ou s dd → ¬ br s dd → V (nx s dd)) (hL : LV b h) : LV (spP nx ou br b h 6).1 (h + 1) := by
  obtain ⟨w1, w2, w3⟩ := spP_ok (nx := nx) (ou := ou) (br := br) hb hh hV hn 6 (Nat.le_refl _)
  revert w1 w2 w3
  generalize (spP nx ou br b h 6).1 = c
  intro w1 w2 w3
  obtain ⟨a1, a2, a3, a4, a5⟩ := hL
  have old : ∀ i, i < b.1 → lvP c i = lvP b i := fun i hi => lv_keep w2 hb hi
  have mono : ∀ i j, i ≤ j → j < c.1 → lvP c i ≤ lvP c j := by
    intro i j hij hj
    by_cases cj : j < b.1
    · rw [old i (by omega), old j cj]
      exact a1 i j hij cj
    · rw [w3 j (by omega) hj]
      by_cases ci : i < b.1
      · rw [old i ci]
        exact a2 i h ci (Nat.le_refl _) hh
      · rw [w3 i (by omega) (by omega)]
        exact Nat.le_refl _
  have top : ∀ i, i < c.1 → lvP c i ≤ lvP b h + 1 := by
    intro i hi
    by_cases ci : i < b.1
    · rw [old i ci]
      exact a2 i h ci (Nat.le_refl _) hh
    · rw [w3 i (by omega) hi]
      exact Nat.le_refl _
  refine ⟨mono, fun i j hi hj hj2 => ?_, (old 0 a5).trans a3, fun i h1 h2 => ?_, Nat.lt_of_lt_of_le a5 w2.1⟩
  · have t1 := top i hi
    have t2 := mono h j (by omega) hj2
    rw [old h hh] at t2
    exact Nat.le_trans t1 (Nat.succ_le_succ t2)
  · by_cases ci : i < b.1
    · rw [old i ci]
      exact a4 i h1 ci
    · rw [w3 i (by omega) h2]
      exact Nat.succ_le_succ (Nat.zero_le _)
theorem LV.wait (hL : LV b h) : LV b (h + 1) := ⟨hL.1, fun i j hi hj hj2 => hL.2.1 i j hi (by omega) hj2, hL.2.2⟩
theorem srP_lv (hb : WP V K b) (hV : ∀ s, V s → s < K) (hn : ∀ s dd, V s → dd < 6 → ¬ ou s dd → ¬ br s dd → V (nx s dd)) (h0 : LV b 0) : ∀ h, LV (srP nx ou br b h).1 h
  | 0 => h0
  | h + 1 => by
    have ih := srP_lv hb hV hn h0 h
    by_cases c : (srP nx ou br b h).2 = 0 ∧ h < (srP nx ou br b h).1.1 ∧ lvP (srP nx ou br b h).1 h < 20
    · rw [srP_t c.1 c.2.1 c.2.2]
      exact ih.next (srP_ok hb hV hn h) c.2.1 hV hn
    · rw [show srP nx ou br b (h + 1) = srP nx ou br b h from if_neg c]
      exact ih.wait
end PLevel
theorem skB_e (D : FN) : skB D = (0 + 1, up1 (fun _ => 0) 0 (pkD D), up1 (fun _ => 0) (pkD D) 1) := nt_t rfl
theorem skB_lv (D : FN) : LV (skB D) 0 := by
  have e0 : lvP (skB D) 0 = 0 := by
    show ((skB D).2.2 ((skB D).2.1 0) - 1) / 8 = 0
    rw [skB_e]
    show (up1 (fun _ => 0) (pkD D) 1 (up1 (fun _ => 0) 0 (pkD D) 0) - 1) / 8 = 0
    rw [up1_s, up1_s]
  have e1 : (skB D).1 = 1 := by rw [skB_e]
  refine ⟨fun i j hij hj => ?_, fun i j hi hj hj2 => ?_, e0, fun i h1 h2 => absurd h2 (by omega), by omega⟩
  · have : i = j := by omega
    rw [this]
    exact Nat.le_refl _
  · have : i = j := by omega
    rw [this]
    exact Nat.le_succ _
