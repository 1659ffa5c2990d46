/-! ===== plan: the reference's rows ===== -/
/-- queue 139, steps 140 (one more than the level, 0: not seen), first deeds 141 (but of the first state) -/
def XM (LN : Nat) (b : BS) (I : IM) : Prop := (∀ i, i < b.1 → I 139 i = nI (rkN (b.2.1 i))) ∧ (∀ s, vP LN s → I 140 (rkN s) = nI (if b.2.2 s = 0 then 0 else (b.2.2 s - 1) / 8 + 1)) ∧ (∀ s, vP LN s → ¬ b.2.2 s = 0 → ¬ (b.2.2 s - 1) / 8 = 0 → I 141 (rkN s) = nI ((b.2.2 s - 1) % 8)) ∧ ∀ z, ¬ I 140 z = 0 → ∃ i, i < b.1 ∧ z = rkN (b.2.1 i)
theorem XM_nt {LN : Nat} {b : BS} {I : IM} {s l f : Nat} (hP : XM LN b I) (hs : vP LN s) (hf : f < 8) (hz : b.2.2 s = 0) (hv : ∀ i, i < b.1 → vP LN (b.2.1 i) ∧ ¬ b.2.2 (b.2.1 i) = 0) : XM LN (nt b s (mkP (l + 1) f)) (up2 (up2 (up2 I 140 (rkN s) (nI (l + 2))) 141 (rkN s) (nI f)) 139 b.1 (nI (rkN s))) := by
  rw [nt_t hz]
  have m0 : ¬ mkP (l + 1) f = 0 := by unfold mkP; omega
  have m1 : (mkP (l + 1) f - 1) / 8 = l + 1 := by unfold mkP; omega
  have m2 : (mkP (l + 1) f - 1) % 8 = f := by unfold mkP; omega
  refine ⟨fun i hi => ?_, fun t ht => ?_, fun t ht => ?_, fun z hz2 => ?_⟩
  · show _ = nI (rkN (up1 b.2.1 b.1 s i))
    by_cases e : i = b.1
    · subst e
      rw [up2_s, up1_s]
    · have hi2 : i < b.1 := by have : i < b.1 + 1 := hi; omega
      rw [up2_k _ _ e, up2_o _ 141 _ _ 139 (by decide), up2_o _ 140 _ _ 139 (by decide), up1_n e]
      exact hP.1 i hi2
  · show _ = nI (if up1 b.2.2 s (mkP (l + 1) f) t = 0 then 0 else (up1 b.2.2 s (mkP (l + 1) f) t - 1) / 8 + 1)
    rw [up2_o _ 139 _ _ 140 (by decide), up2_o _ 141 _ _ 140 (by decide)]
    by_cases e : t = s
    · subst e
      rw [up2_s, up1_s, if_neg m0, m1]
    · rw [up2_k _ _ (fun c => e (rk_inj ht hs c)), up1_n e]
      exact hP.2.1 t ht
  · show ¬ up1 b.2.2 s (mkP (l + 1) f) t = 0 → ¬ (up1 b.2.2 s (mkP (l + 1) f) t - 1) / 8 = 0 → _ = nI ((up1 b.2.2 s (mkP (l + 1) f) t - 1) % 8)
    rw [up2_o _ 139 _ _ 141 (by decide)]
    by_cases e : t = s
    · subst e
      rw [up2_s, up1_s, m2]
      exact fun _ _ => rfl
    · rw [up2_k _ _ (fun c => e (rk_inj ht hs c)), up2_o _ 140 _ _ 141 (by decide), up1_n e]
      exact hP.2.2.1 t ht
  · rw [up2_o _ 139 _ _ 140 (by decide), up2_o _ 141 _ _ 140 (by decide)] at hz2
    by_cases e : z = rkN s
    · exact ⟨b.1, Nat.lt_succ_self _, by show z = rkN (up1 b.2.1 b.1 s b.1); rw [up1_s]; exact e⟩
    · rw [up2_k _ _ e] at hz2
      obtain ⟨i, i1, i2⟩ := hP.2.2.2 z hz2
      exact ⟨i, Nat.lt_succ_of_lt i1, by show z = rkN (up1 b.2.1 b.1 s i); rw [up1_n (by omega)]; exact i2⟩
