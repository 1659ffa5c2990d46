/-! ===== rows in plain numbers, loops, the tape's guard ===== -/
section ENat
variable {g : GL} {M : MD} {d kc ks pc n : Nat} {ls st : List Value} {I : IM} {J : JM} {R : RM} {Q : PQ}
theorem E_cN_lt {a b : Nat} {off : Int} {tgt : Nat} (hd : decode M.2.1 pc = .ok (.if_icmp .lt off, 3)) (ha : a < 2 ^ 31) (hb : b < 2 ^ 31) (ht : (pc : Int) + off = (tgt : Int)) (kt : a < b → E g M d kc ks tgt ls st n I J R Q) (kf : b ≤ a → E g M d kc ks (pc + 3) ls st n I J R Q) : E g M d kc ks pc ls (.int (nI b) :: .int (nI a) :: st) n I J R Q :=
  E_icmp_lt hd ht (fun z => kt ((nI_ltI ha hb).mp z)) (fun z => kf (Nat.not_lt.mp (fun y => z ((nI_ltI ha hb).mpr y))))
theorem E_cN_ge {a b : Nat} {off : Int} {tgt : Nat} (hd : decode M.2.1 pc = .ok (.if_icmp .ge off, 3)) (ha : a < 2 ^ 31) (hb : b < 2 ^ 31) (ht : (pc : Int) + off = (tgt : Int)) (kt : b ≤ a → E g M d kc ks tgt ls st n I J R Q) (kf : a < b → E g M d kc ks (pc + 3) ls st n I J R Q) : E g M d kc ks pc ls (.int (nI b) :: .int (nI a) :: st) n I J R Q :=
  E_icmp_ge hd ht (fun z => kt ((nI_leI hb ha).mp z)) (fun z => kf (Nat.not_le.mp (fun y => z ((nI_leI hb ha).mpr y))))
theorem E_cN_gt {a b : Nat} {off : Int} {tgt : Nat} (hd : decode M.2.1 pc = .ok (.if_icmp .gt off, 3)) (ha : a < 2 ^ 31) (hb : b < 2 ^ 31) (ht : (pc : Int) + off = (tgt : Int)) (kt : b < a → E g M d kc ks tgt ls st n I J R Q) (kf : a ≤ b → E g M d kc ks (pc + 3) ls st n I J R Q) : E g M d kc ks pc ls (.int (nI b) :: .int (nI a) :: st) n I J R Q :=
  E_icmp_gt hd ht (fun z => kt ((nI_ltI hb ha).mp z)) (fun z => kf (Nat.not_lt.mp (fun y => z ((nI_ltI hb ha).mpr y))))
theorem E_cN_le {a b : Nat} {off : Int} {tgt : Nat} (hd : decode M.2.1 pc = .ok (.if_icmp .le off, 3)) (ha : a < 2 ^ 31) (hb : b < 2 ^ 31) (ht : (pc : Int) + off = (tgt : Int)) (kt : a ≤ b → E g M d kc ks tgt ls st n I J R Q) (kf : b < a → E g M d kc ks (pc + 3) ls st n I J R Q) : E g M d kc ks pc ls (.int (nI b) :: .int (nI a) :: st) n I J R Q :=
  E_icmp_le hd ht (fun z => kt ((nI_leI ha hb).mp z)) (fun z => kf (Nat.not_le.mp (fun y => z ((nI_leI ha hb).mpr y))))
theorem E_cN_eq {a b : Nat} {off : Int} {tgt : Nat} (hd : decode M.2.1 pc = .ok (.if_icmp .eq off, 3)) (ha : a < 2 ^ 31) (hb : b < 2 ^ 31) (ht : (pc : Int) + off = (tgt : Int)) (kt : a = b → E g M d kc ks tgt ls st n I J R Q) (kf : a ≠ b → E g M d kc ks (pc + 3) ls st n I J R Q) : E g M d kc ks pc ls (.int (nI b) :: .int (nI a) :: st) n I J R Q :=
  E_icmp_eq hd ht (fun z => kt ((nI_eq ha hb).mp z)) (fun z => kf (id (fun y => z ((nI_eq ha hb).mpr y))))
theorem E_cN_ne {a b : Nat} {off : Int} {tgt : Nat} (hd : decode M.2.1 pc = .ok (.if_icmp .ne off, 3)) (ha : a < 2 ^ 31) (hb : b < 2 ^ 31) (ht : (pc : Int) + off = (tgt : Int)) (kt : a ≠ b → E g M d kc ks tgt ls st n I J R Q) (kf : a = b → E g M d kc ks (pc + 3) ls st n I J R Q) : E g M d kc ks pc ls (.int (nI b) :: .int (nI a) :: st) n I J R Q :=
  E_icmp_ne hd ht (fun z => kt (fun y => z ((nI_eq ha hb).mpr y))) (fun z => kf ((nI_eq ha hb).mp z))
theorem E_zN_eq {a : Nat} {off : Int} {tgt : Nat} (hd : decode M.2.1 pc = .ok (.ifCond .eq off, 3)) (ha : a < 2 ^ 31) (ht : (pc : Int) + off = (tgt : Int)) (kt : a = 0 → E g M d kc ks tgt ls st n I J R Q) (kf : 0 < a → E g M d kc ks (pc + 3) ls st n I J R Q) : E g M d kc ks pc ls (.int (nI a) :: st) n I J R Q :=
  E_if_eq hd ht (fun z => kt ((nI_eq ha (by decide)).mp z)) (fun z => kf (Nat.pos_of_ne_zero (fun y => z ((nI_eq ha (by decide)).mpr y))))
theorem E_zN_ne {a : Nat} {off : Int} {tgt : Nat} (hd : decode M.2.1 pc = .ok (.ifCond .ne off, 3)) (ha : a < 2 ^ 31) (ht : (pc : Int) + off = (tgt : Int)) (kt : 0 < a → E g M d kc ks tgt ls st n I J R Q) (kf : a = 0 → E g M d kc ks (pc + 3) ls st n I J R Q) : E g M d kc ks pc ls (.int (nI a) :: st) n I J R Q :=
  E_if_ne hd ht (fun z => kt (Nat.pos_of_ne_zero (fun y => z ((nI_eq ha (by decide)).mpr y)))) (fun z => kf ((nI_eq ha (by decide)).mp z))
theorem E_zN_lt {a : Nat} {off : Int} {tgt : Nat} (hd : decode M.2.1 pc = .ok (.ifCond .lt off, 3)) (ha : a < 2 ^ 31) (ht : (pc : Int) + off = (tgt : Int)) (kt : False → E g M d kc ks tgt ls st n I J R Q) (kf : True → E g M d kc ks (pc + 3) ls st n I J R Q) : E g M d kc ks pc ls (.int (nI a) :: st) n I J R Q :=
  E_if_lt hd ht (fun z => kt (nI_pos ha z)) (fun _ => kf trivial)
theorem E_zN_ge {a : Nat} {off : Int} {tgt : Nat} (hd : decode M.2.1 pc = .ok (.ifCond .ge off, 3)) (ha : a < 2 ^ 31) (ht : (pc : Int) + off = (tgt : Int)) (kt : True → E g M d kc ks tgt ls st n I J R Q) (kf : False → E g M d kc ks (pc + 3) ls st n I J R Q) : E g M d kc ks pc ls (.int (nI a) :: st) n I J R Q :=
  E_if_ge hd ht (fun _ => kt trivial) (fun z => kf (z (nI_pos' ha)))
theorem E_zN_gt {a : Nat} {off : Int} {tgt : Nat} (hd : decode M.2.1 pc = .ok (.ifCond .gt off, 3)) (ha : a < 2 ^ 31) (ht : (pc : Int) + off = (tgt : Int)) (kt : 0 < a → E g M d kc ks tgt ls st n I J R Q) (kf : a = 0 → E g M d kc ks (pc + 3) ls st n I J R Q) : E g M d kc ks pc ls (.int (nI a) :: st) n I J R Q :=
  E_if_gt hd ht (fun z => kt ((nI_ltI (by decide) ha).mp z)) (fun z => kf (Nat.eq_zero_of_not_pos (fun y => z ((nI_ltI (by decide) ha).mpr y))))
theorem E_zN_le {a : Nat} {off : Int} {tgt : Nat} (hd : decode M.2.1 pc = .ok (.ifCond .le off, 3)) (ha : a < 2 ^ 31) (ht : (pc : Int) + off = (tgt : Int)) (kt : a = 0 → E g M d kc ks tgt ls st n I J R Q) (kf : 0 < a → E g M d kc ks (pc + 3) ls st n I J R Q) : E g M d kc ks pc ls (.int (nI a) :: st) n I J R Q :=
  E_if_le hd ht (fun z => kt (Nat.le_zero.mp ((nI_leI ha (by decide)).mp z))) (fun z => kf (Nat.pos_of_ne_zero (fun y => z ((nI_leI ha (by decide)).mpr (Nat.le_of_eq y)))))
end ENat
theorem nI_max (a b : Nat) (ha : a < 2 ^ 31) (hb : b < 2 ^ 31) : imax (nI a) (nI b) = nI (max a b) := by
  unfold imax
  by_cases h : a < b
  · rw [if_pos (nI_lt h hb), Nat.max_eq_right (Nat.le_of_lt h)]
  · rw [if_neg (nI_nlt (Nat.le_of_not_lt h) ha), Nat.max_eq_left (Nat.le_of_not_lt h)]
theorem nI_min (a b : Nat) (ha : a < 2 ^ 31) (hb : b < 2 ^ 31) : imin (nI a) (nI b) = nI (min a b) := by
  unfold imin
  by_cases h : b < a
  · rw [if_pos (nI_lt h ha), Nat.min_eq_right (Nat.le_of_lt h)]
  · rw [if_neg (nI_nlt (Nat.le_of_not_lt h) hb), Nat.min_eq_left (Nat.le_of_not_lt h)]
/-- a counted loop: up, and down -/
theorem loopU {P : Nat → Prop} (N : Nat) (hN : P N) (h : ∀ i, i < N → P (i + 1) → P i) : ∀ i, i ≤ N → P i := by
  intro i hi
  have : ∀ m, m ≤ N → P (N - m) := by
    intro m
    induction m with
    | zero => intro _; exact hN
    | succ m ih =>
      intro hm
      exact h _ (by omega) (by rw [show N - (m + 1) + 1 = N - m by omega]; exact ih (by omega))
  have := this (N - i) (by omega)
  rw [show N - (N - i) = i by omega] at this
  exact this
theorem loopD {P : Nat → Prop} (h0 : P 0) (h : ∀ i, P i → P (i + 1)) : ∀ N, P N := by
  intro N
  induction N with
  | zero => exact h0
  | succ N ih => exact h N ih
/-- one of two, by what holds -/
noncomputable def gd {α : Type} (c : Prop) (a b : α) : α := @ite α c (Classical.propDecidable c) a b
theorem gd_t {α : Type} {c : Prop} {a b : α} (h : c) : gd c a b = a := if_pos h
theorem gd_f {α : Type} {c : Prop} {a b : α} (h : ¬ c) : gd c a b = b := if_neg h
/-- the tape has so many, within bounds -/
def tp (σ : ST) (x : Int32) (lo hi : Nat) : Prop := ∃ m, lo ≤ m ∧ m ≤ hi ∧ m ≤ σ 9 0 0 ∧ x = nI m
theorem tp_of {σ : ST} {lo hi m : Nat} (h1 : lo ≤ m) (h2 : m ≤ hi) (h3 : m ≤ σ 9 0 0) : tp σ (nI m) lo hi := ⟨m, h1, h2, h3, rfl⟩
/-- the tape is empty -/
def u0 (σ : ST) : ST := ups σ 9 (fun _ _ => 0)
theorem u0_B {σ : ST} (h : BND σ) : BND (u0 σ) := by
  obtain ⟨h1, h2, h3, h4, h5, h6, h7⟩ := h
  exact ⟨h1, h2, h3, h4, fun j hj => absurd hj (Nat.not_lt_zero j), Nat.zero_le _, h7⟩
theorem u0_X {σ : ST} {n : Nat} {I : IM} {R : RM} (h : XR σ n I R) : XR (u0 σ) n (up2 I 0 2 (nI 0)) R := by
  obtain ⟨h1, ⟨k1, k2, k3, k4, k5, k6⟩, h3, h4, h5⟩ := h
  exact ⟨h1.congr (fun a _ _ => up2_o I 0 2 _ a (by omega)), ⟨rfl, k2, k3, k4, k5, k6⟩, fun j hj => absurd hj (Nat.not_lt_zero j), h4, h5.congr (fun a _ _ => up2_o I 0 2 _ a (by omega))⟩
theorem u0_M {σ : ST} {I : IM} (h : MR σ I) : MR (u0 σ) (up2 I 114 7 (nI 0)) := by
  obtain ⟨h1, h2, h3, ⟨k1, k2⟩, h5, h6⟩ := h
  exact ⟨h1, h2, h3, ⟨rfl, k2⟩, fun j hj => absurd hj (Nat.not_lt_zero j), h6⟩
section PGuard
variable {g : GL} {d n : Nat} {I : IM} {J : JM} {R : RM} {Q : PQ} {σ : ST}
theorem X_tapeHas {x : Int32} {lo hi : Nat} (hlo : lo < 2 ^ 31) (hhi : hi < 2 ^ 31) (hB : BND σ) (hX : XR σ n I R) (ht : ∀ m, lo ≤ m → m ≤ hi → m ≤ σ 9 0 0 → x = nI m → Q (some (.int 1)) n I J R) (hf : ¬ tp σ x lo hi → Q (some (.int 0)) n I J R) : E g mX11_tapeHas d 0 0 0 (ent 4 [.ref 0, .int x, .int (nI lo), .int (nI hi)]) [] n I J R Q := by
  have b9 : σ 9 0 0 ≤ 260 := hB.2.2.2.2.2.1
  refine x_tapeHas hX.2.2.2.1.n.1 (fun h1 h2 h3 => ?_) (fun h => ?_)
  · have h0 : ¬ x < 0 := fun z => h1 (Int32.lt_of_lt_of_le z (nI_pos' hlo))
    obtain ⟨m, hm, rfl⟩ := nI_of h0
    rw [hX.2.1.1] at h3
    exact ht m ((nI_leI hlo hm).mp (Int32.not_lt.mp h1)) ((nI_leI hm hhi).mp (Int32.not_lt.mp h2)) ((nI_leI hm (by omega)).mp (Int32.not_lt.mp h3)) rfl
  · refine hf ?_
    rintro ⟨m, q1, q2, q3, rfl⟩
    rw [hX.2.1.1] at h
    rcases h with h | h | h
    · exact nI_nlt q1 (by omega) h
    · exact nI_nlt q2 hhi h
    · exact nI_nlt q3 (by omega) h
/-- the reference's in -/
theorem M_in {x : Int32} {lo hi : Nat} (hlo : lo < 2 ^ 31) (hhi : hi < 2 ^ 31) (ht : ∀ m, lo ≤ m → m ≤ hi → x = nI m → Q (some (.int 1)) n I J R) (hf : (∀ m, lo ≤ m → m ≤ hi → x ≠ nI m) → Q (some (.int 0)) n I J R) : E g mX12_in d 0 0 0 (ent 3 [.int x, .int (nI lo), .int (nI hi)]) [] n I J R Q := by
  refine m_in (fun h1 h2 => ?_) (fun h => hf ?_)
  · have h0 : ¬ x < 0 := fun z => h1 (Int32.lt_of_lt_of_le z (nI_pos' hlo))
    obtain ⟨m, hm, rfl⟩ := nI_of h0
    exact ht m ((nI_leI hlo hm).mp (Int32.not_lt.mp h1)) ((nI_leI hm hhi).mp (Int32.not_lt.mp h2)) rfl
  · rintro m q1 q2 rfl
    rcases h with h | h
    · exact nI_nlt q1 (by omega) h
    · exact nI_nlt q2 hhi h
end PGuard
