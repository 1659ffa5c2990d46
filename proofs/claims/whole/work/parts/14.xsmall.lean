/-! ===== the class: small things ===== -/
section PX1
variable {g : GL} {d n : Nat} {I : IM} {J : JM} {R : RM} {Q : PQ}
set_option maxRecDepth 100000 in
set_option maxHeartbeats 4000000 in
theorem x_tapeHas {x lo hi : Int32} (hN : 152 ≤ n) (ht : ¬ x < lo → ¬ hi < x → ¬ I 0 2 < x → Q (some (.int 1)) n I J R) (hf : (x < lo ∨ hi < x ∨ I 0 2 < x) → Q (some (.int 0)) n I J R) : E g mX11_tapeHas d 0 0 0 (ent 4 [.ref 0, .int x, .int lo, .int hi]) [] n I J R Q := by
  refine E_iload_n dX11_tapeHas_0 rfl ?_
  refine E_iload_n dX11_tapeHas_1 rfl ?_
  refine E_icmp_lt (tgt := 22) dX11_tapeHas_2 (by decide) (fun c2 => ?_) (fun c2 => ?_)
  · refine E_ic (0) dX11_tapeHas_22 (by decide) ?_
    exact E_zret dX11_tapeHas_23 rfl (by decide) (by first | exact ht c2 c7 c15 | exact hf (Or.inl c2) | exact hf (Or.inr (Or.inl c7)) | exact hf (Or.inr (Or.inr c15)))
  · refine E_iload_n dX11_tapeHas_5 rfl ?_
    refine E_iload_n dX11_tapeHas_6 rfl ?_
    refine E_icmp_gt (tgt := 22) dX11_tapeHas_7 (by decide) (fun c7 => ?_) (fun c7 => ?_)
    · refine E_ic (0) dX11_tapeHas_22 (by decide) ?_
      exact E_zret dX11_tapeHas_23 rfl (by decide) (by first | exact ht c2 c7 c15 | exact hf (Or.inl c2) | exact hf (Or.inr (Or.inl c7)) | exact hf (Or.inr (Or.inr c15)))
    · refine E_iload_n dX11_tapeHas_10 rfl ?_
      refine E_aload_n dX11_tapeHas_11 rfl ?_
      refine E_getI dX11_tapeHas_12 f_X11_19 (by first | assumption | rfl) (by first | assumption | omega) rfl ?_
      refine E_icmp_gt (tgt := 22) dX11_tapeHas_15 (by decide) (fun c15 => ?_) (fun c15 => ?_)
      · refine E_ic (0) dX11_tapeHas_22 (by decide) ?_
        exact E_zret dX11_tapeHas_23 rfl (by decide) (by first | exact ht c2 c7 c15 | exact hf (Or.inl c2) | exact hf (Or.inr (Or.inl c7)) | exact hf (Or.inr (Or.inr c15)))
      · refine E_ic (1) dX11_tapeHas_18 (by decide) ?_
        refine E_goto (tgt := 23) dX11_tapeHas_19 (by decide) ?_
        exact E_zret dX11_tapeHas_23 rfl (by decide) (by first | exact ht c2 c7 c15 | exact hf (Or.inl c2) | exact hf (Or.inr (Or.inl c7)) | exact hf (Or.inr (Or.inr c15)))
set_option maxRecDepth 100000 in
set_option maxHeartbeats 4000000 in
theorem x_isTold {x : Int32} (hN : 152 ≤ n) (hR : RS R) (ht : ∀ j, j < 12 → x = nI j → ¬ I (54 + 5 * j) 5 = 0 → Q (some (.int 1)) n I J R) (hf : (¬ ∃ j, j < 12 ∧ x = nI j ∧ ¬ I (54 + 5 * j) 5 = 0) → Q (some (.int 0)) n I J R) : E g mX11_isTold d 0 0 0 (ent 2 [.ref 0, .int x]) [] n I J R Q := by
  rcases i32_ix x 12 (by decide) with h | ⟨j, hj, rfl⟩
  · have hno : ¬ ∃ j, j < 12 ∧ x = nI j ∧ ¬ I (54 + 5 * j) 5 = 0 := by
      rintro ⟨j, hj, rfl, -⟩
      rcases h with h | h
      · exact nI_pos (by omega) h
      · exact nI_ge hj (by decide) h
    refine E_iload_n dX11_isTold_0 rfl ?_
    refine E_if_lt (tgt := 26) dX11_isTold_1 (by decide) (fun c1 => ?_) (fun c1 => ?_)
    · refine E_ic (0) dX11_isTold_26 (by decide) ?_
      exact E_zret dX11_isTold_27 rfl (by decide) (hf hno)
    · refine E_iload_n dX11_isTold_4 rfl ?_
      refine E_bp (12) dX11_isTold_5 (by decide) ?_
      refine E_icmp_ge (tgt := 26) dX11_isTold_7 (by decide) (fun c7 => ?_) (fun c7 => ?_)
      · refine E_ic (0) dX11_isTold_26 (by decide) ?_
        exact E_zret dX11_isTold_27 rfl (by decide) (hf hno)
      · exact absurd h (fun z => z.elim c1 c7)
  · have hs := LYw j hj
    refine E_iload_n dX11_isTold_0 rfl ?_
    refine E_if_lt (tgt := 26) dX11_isTold_1 (by decide) (fun c1 => absurd c1 (nI_pos (by omega))) (fun c1 => ?_)
    refine E_iload_n dX11_isTold_4 rfl ?_
    refine E_bp (12) dX11_isTold_5 (by decide) ?_
    refine E_icmp_ge (tgt := 26) dX11_isTold_7 (by decide) (fun c7 => absurd c7 (nI_ge hj (by decide))) (fun c7 => ?_)
    refine E_aload_n dX11_isTold_10 rfl ?_
    refine E_getR dX11_isTold_11 f_X11_11 (by first | assumption | rfl) (by first | assumption | omega) rfl (by first | exact hR _ _ _ rfl | assumption) ?_
    refine E_iload_n dX11_isTold_14 rfl ?_
    refine E_aaldN dX11_isTold_15 rfl (by omega) hj (hR _ _ _ (RT1 j hj)) ?_
    refine E_getI dX11_isTold_16 f_X11_314 hs.1 (by first | assumption | omega) rfl ?_
    refine E_if_eq (tgt := 26) dX11_isTold_19 (by decide) (fun c19 => ?_) (fun c19 => ?_)
    · refine E_ic (0) dX11_isTold_26 (by decide) ?_
      exact E_zret dX11_isTold_27 rfl (by decide) (by first | exact ht j hj rfl c19 | exact hf (by rintro ⟨i, hi, e, z⟩; have := (nI_eq (by omega) (by omega)).mp e; subst this; exact z c19))
    · refine E_ic (1) dX11_isTold_22 (by decide) ?_
      refine E_goto (tgt := 27) dX11_isTold_23 (by decide) ?_
      exact E_zret dX11_isTold_27 rfl (by decide) (by first | exact ht j hj rfl c19 | exact hf (by rintro ⟨i, hi, e, z⟩; have := (nI_eq (by omega) (by omega)).mp e; subst this; exact z c19))
set_option maxRecDepth 100000 in
set_option maxHeartbeats 4000000 in
theorem x_isPlace {x m : Int32} (ht : (x = 100 ∨ (¬ x < 0 ∧ ¬ m ≤ x)) → Q (some (.int 1)) n I J R) (hf : ¬ (x = 100 ∨ (¬ x < 0 ∧ ¬ m ≤ x)) → Q (some (.int 0)) n I J R) : E g mX11_isPlace d 0 0 0 (ent 2 [.int x, .int m]) [] n I J R Q := by
  refine E_iload_n dX11_isPlace_0 rfl ?_
  refine E_bp (100) dX11_isPlace_1 (by decide) ?_
  refine E_icmp_eq (tgt := 15) dX11_isPlace_3 (by decide) (fun c3 => ?_) (fun c3 => ?_)
  · refine E_ic (1) dX11_isPlace_15 (by decide) ?_
    refine E_goto (tgt := 20) dX11_isPlace_16 (by decide) ?_
    exact E_zret dX11_isPlace_20 rfl (by decide) (by first | exact ht (Or.inl c3) | exact ht (Or.inr ⟨c7, c12⟩) | exact hf (fun z => z.elim c3 (fun y => y.1 c7)) | exact hf (fun z => z.elim c3 (fun y => y.2 c12)))
  · refine E_iload_n dX11_isPlace_6 rfl ?_
    refine E_if_lt (tgt := 19) dX11_isPlace_7 (by decide) (fun c7 => ?_) (fun c7 => ?_)
    · refine E_ic (0) dX11_isPlace_19 (by decide) ?_
      exact E_zret dX11_isPlace_20 rfl (by decide) (by first | exact ht (Or.inl c3) | exact ht (Or.inr ⟨c7, c12⟩) | exact hf (fun z => z.elim c3 (fun y => y.1 c7)) | exact hf (fun z => z.elim c3 (fun y => y.2 c12)))
    · refine E_iload_n dX11_isPlace_10 rfl ?_
      refine E_iload_n dX11_isPlace_11 rfl ?_
      refine E_icmp_ge (tgt := 19) dX11_isPlace_12 (by decide) (fun c12 => ?_) (fun c12 => ?_)
      · refine E_ic (0) dX11_isPlace_19 (by decide) ?_
        exact E_zret dX11_isPlace_20 rfl (by decide) (by first | exact ht (Or.inl c3) | exact ht (Or.inr ⟨c7, c12⟩) | exact hf (fun z => z.elim c3 (fun y => y.1 c7)) | exact hf (fun z => z.elim c3 (fun y => y.2 c12)))
      · refine E_ic (1) dX11_isPlace_15 (by decide) ?_
        refine E_goto (tgt := 20) dX11_isPlace_16 (by decide) ?_
        exact E_zret dX11_isPlace_20 rfl (by decide) (by first | exact ht (Or.inl c3) | exact ht (Or.inr ⟨c7, c12⟩) | exact hf (fun z => z.elim c3 (fun y => y.1 c7)) | exact hf (fun z => z.elim c3 (fun y => y.2 c12)))
set_option maxRecDepth 100000 in
set_option maxHeartbeats 4000000 in
theorem x_screw {x : Int32} (hN : 152 ≤ n) (ht : ¬ x < 0 → x ≤ 99 → Q (some (.int 1)) n (up2 I 0 13 x) J R) (hf : (x < 0 ∨ ¬ x ≤ 99) → Q (some (.int 0)) n I J R) : E g mX11_screw d 0 0 0 (ent 2 [.ref 0, .int x]) [] n I J R Q := by
  refine E_iload_n dX11_screw_0 rfl ?_
  refine E_if_lt (tgt := 10) dX11_screw_1 (by decide) (fun c1 => ?_) (fun c1 => ?_)
  · refine E_ic (0) dX11_screw_10 (by decide) ?_
    exact E_zret dX11_screw_11 rfl (by decide) (by first | exact ht c1 c7 | exact hf (Or.inl c1) | exact hf (Or.inr c7))
  · refine E_iload_n dX11_screw_4 rfl ?_
    refine E_bp (99) dX11_screw_5 (by decide) ?_
    refine E_icmp_le (tgt := 12) dX11_screw_7 (by decide) (fun c7 => ?_) (fun c7 => ?_)
    · refine E_aload_n dX11_screw_12 rfl ?_
      refine E_iload_n dX11_screw_13 rfl ?_
      refine E_putI dX11_screw_14 f_X11_86 (by first | assumption | rfl) (by first | assumption | omega) rfl ?_
      refine E_ic (1) dX11_screw_17 (by decide) ?_
      exact E_zret dX11_screw_18 rfl (by decide) (by first | exact ht c1 c7 | exact hf (Or.inl c1) | exact hf (Or.inr c7))
    · refine E_ic (0) dX11_screw_10 (by decide) ?_
      exact E_zret dX11_screw_11 rfl (by decide) (by first | exact ht c1 c7 | exact hf (Or.inl c1) | exact hf (Or.inr c7))
set_option maxRecDepth 100000 in
set_option maxHeartbeats 4000000 in
theorem x_seed {x : Int32} (hN : 152 ≤ n) (ht : ¬ x < 0 → x ≤ 65535 → Q (some (.int 1)) n (up2 I 0 15 x) J R) (hf : (x < 0 ∨ ¬ x ≤ 65535) → Q (some (.int 0)) n I J R) : E g mX11_seed d 0 0 0 (ent 2 [.ref 0, .int x]) [] n I J R Q := by
  refine E_iload_n dX11_seed_0 rfl ?_
  refine E_if_lt (tgt := 10) dX11_seed_1 (by decide) (fun c1 => ?_) (fun c1 => ?_)
  · refine E_ic (0) dX11_seed_10 (by decide) ?_
    exact E_zret dX11_seed_11 rfl (by decide) (by first | exact ht c1 c7 | exact hf (Or.inl c1) | exact hf (Or.inr c7))
  · refine E_iload_n dX11_seed_4 rfl ?_
    refine E_ldc (65535) dX11_seed_5 k_X11_250 ?_
    refine E_icmp_le (tgt := 12) dX11_seed_7 (by decide) (fun c7 => ?_) (fun c7 => ?_)
    · refine E_aload_n dX11_seed_12 rfl ?_
      refine E_iload_n dX11_seed_13 rfl ?_
      refine E_putI dX11_seed_14 f_X11_92 (by first | assumption | rfl) (by first | assumption | omega) rfl ?_
      refine E_ic (1) dX11_seed_17 (by decide) ?_
      exact E_zret dX11_seed_18 rfl (by decide) (by first | exact ht c1 c7 | exact hf (Or.inl c1) | exact hf (Or.inr c7))
    · refine E_ic (0) dX11_seed_10 (by decide) ?_
      exact E_zret dX11_seed_11 rfl (by decide) (by first | exact ht c1 c7 | exact hf (Or.inl c1) | exact hf (Or.inr c7))
end PX1
