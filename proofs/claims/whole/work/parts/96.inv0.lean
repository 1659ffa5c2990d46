/-! ===== the invariant at the start ===== -/
def σ0 : ST := fun t i j => if t = 3 then (if j = 1 then 9 else 0) else if t = 4 then (if i = 0 then 99 else if i = 2 then 1 else 0) else 0
theorem BND_0 : BND σ0 := by
  refine ⟨fun k _ => ⟨Nat.zero_le _, fun i hi => absurd hi (Nat.not_lt_zero i), ⟨?_, ?_, ?_, ?_, ?_, ?_, ?_, ?_⟩, Nat.zero_le _⟩, ⟨?_, ?_, ?_⟩, Nat.zero_le _, fun z => absurd z (by decide), fun j hj => absurd hj (Nat.not_lt_zero j), Nat.zero_le _, fun k _ _ => ⟨rfl, rfl, fun z => absurd z (by decide)⟩⟩
  · exact Nat.zero_le _
  · exact Nat.le_refl 9
  · exact Nat.zero_le _
  · exact Nat.zero_le _
  · exact Nat.zero_le _
  · exact Nat.zero_le _
  · exact fun z => rfl
  · exact fun z => (show 1 ≤ 9 by decide)
  · exact Nat.le_refl 99
  · exact Nat.zero_le _
  · exact (show 1 ≤ 65535 by decide)
set_option maxRecDepth 100000 in
theorem Im_far {a : Nat} (h : a ≠ 115) : Im a = Ix a := by
  unfold Im
  funext k
  rw [up2_o _ 115 _ _ a h, up2_o _ 115 _ _ a h, up2_o _ 115 _ _ a h, up2_o _ 115 _ _ a h, up2_o _ 115 _ _ a h, up2_o _ 115 _ _ a h, up2_o _ 115 _ _ a h, up2_o _ 115 _ _ a h, up2_o _ 115 _ _ a h, up2_o _ 115 _ _ a h, up2_o _ 115 _ _ a h, up2_o _ 115 _ _ a h, up2_o _ 115 _ _ a h, up2_o _ 115 _ _ a h]
theorem Im_z {a : Nat} (h : 114 ≤ a) (h2 : a ≠ 115) (k : Nat) : Im a k = 0 := by
  rw [Im_far h2]
  exact Ix_z a h k
set_option maxRecDepth 1000000 in
set_option maxHeartbeats 4000000 in
theorem Im_w : ∀ k, k < 12 → Im (54 + 5 * k) 4 = 0 ∧ Im (54 + 5 * k) 5 = 0 ∧ (∀ f, f < 6 → Im (57 + 5 * k) f = if f = 1 then 9 else 0) ∧ Im (58 + 5 * k) 4 = 0 ∧ Im (58 + 5 * k) 5 = 0 := by decide +kernel
set_option maxRecDepth 1000000 in
set_option maxHeartbeats 4000000 in
theorem Im_0 : Im 0 2 = 0 ∧ Im 0 13 = 99 ∧ Im 0 14 = 0 ∧ Im 0 15 = 1 ∧ Im 0 16 = 0 ∧ Im 3 7 = 0 := by decide +kernel
set_option maxRecDepth 1000000 in
set_option maxHeartbeats 4000000 in
theorem Im_m : (∀ k, k < 12 → Im 115 k = 0 ∧ Im 115 (12 + k) = 9 ∧ Im 115 (24 + k) = 0 ∧ Im 115 (36 + k) = 0 ∧ Im 115 (48 + k) = 0 ∧ Im 115 (60 + k) = 0) ∧ Im 115 72 = 99 ∧ Im 115 73 = 0 ∧ Im 115 74 = 1 := by decide +kernel
set_option maxRecDepth 1000000 in
set_option maxHeartbeats 4000000 in
theorem Rm_k : ∀ a, a < 152 → ∀ k, k < 60 → RT a k = none ∨ Rm a k = RT a k := by decide +kernel
theorem RT_b : ∀ a, a < 152 → (RTL.getD a []).length ≤ 60 := by decide +kernel
theorem RT_l : RTL.length ≤ 152 := by decide +kernel
theorem RS_m : RS Rm := by
  intro a k v h
  by_cases ha : a < 152
  · by_cases hk : k < 60
    · rcases Rm_k a ha k hk with z | z
      · rw [z] at h
        cases h
      · rw [z]
        exact h
    · have hb := RT_b a ha
      unfold RT at h
      rw [List.getD_eq_getElem?_getD, List.getElem?_eq_none (by omega)] at h
      cases h
  · have hb := RT_l
    unfold RT at h
    rw [List.getD_eq_getElem?_getD (l := RTL), List.getElem?_eq_none (l := RTL) (by omega)] at h
    have h : ([] : List (Option Nat)).getD k none = some v := h
    rw [List.getD_eq_getElem?_getD, List.getElem?_eq_none (Nat.zero_le _)] at h
    cases h
theorem Rm_37 : Rm 37 1 = some 39 := by decide +kernel
theorem INV_0 : INV LRq 152 Im Z0J Rm := by
  refine ⟨σ0, BND_0, ⟨fun k hk => ?_, ⟨Im_0.1, Im_0.2.1, Im_0.2.2.1, Im_0.2.2.2.1, Im_0.2.2.2.2.1, fun z => absurd z (by decide)⟩, fun j hj => absurd hj (Nat.not_lt_zero j), ⟨RS_m, Or.inl ⟨rfl, Rm_37⟩⟩, fun k hk => ⟨Or.inl (Im_w k hk).2.2.2.1, Or.inl (Im_w k hk).2.2.2.2⟩⟩, ⟨fun k hk => ⟨Im_z (by decide) (by decide) k, fun i hi => absurd hi (Nat.not_lt_zero i)⟩, ⟨fun k hk => ?_, Im_m.2.1, Im_m.2.2.1, Im_m.2.2.2⟩, fun z => absurd z (by decide), ⟨Im_z (by decide) (by decide) 7, Im_z (by decide) (by decide) 58⟩, fun j hj => absurd hj (Nat.not_lt_zero j), fun j => Im_z (by decide) (by decide) j⟩, ⟨lw0, lw0_ok.f (by decide), ⟨Im_0.2.2.2.2.2, fun r hr => absurd hr (Nat.not_lt_zero r), fun i hi => absurd hi (Nat.not_lt_zero i)⟩, ⟨Im_z (by decide) (by decide) 16, fun r hr => absurd hr (Nat.not_lt_zero r), fun i hi => absurd hi (Nat.not_lt_zero i)⟩⟩⟩
  · obtain ⟨w1, w2, w3, w4, w5⟩ := Im_w k hk
    refine ⟨w1, w2, fun i hi => absurd hi (Nat.not_lt_zero i), fun f hf => ?_, fun z => absurd z (by decide)⟩
    rw [w3 f hf]
    show _ = nI (if f = 1 then 9 else 0)
    by_cases e : f = 1
    · rw [if_pos e, if_pos e]
      rfl
    · rw [if_neg e, if_neg e]
      rfl
  · exact Im_m.1 k hk
