/-! ===== how a law's code is reckoned ===== -/
abbrev CDE : Type := Nat → Nat × Nat
def b2i (c : Prop) [Decidable c] : Int32 := if c then 1 else 0
def rkn (op : Nat) (x y : Int32) : Int32 := match op with
  | 2 => x + y
  | 3 => x - y
  | 4 => x * y
  | 5 => x / y
  | 6 => x - x / y * y
  | 7 => if x < y then 1 else 0
  | 8 => if y < x then 1 else 0
  | _ => if x = y then 1 else 0
/-- reckoned with all that may go wrong looked for: none, if it does -/
def evL (code : CDE) (fa : Nat → Int32) (to : Nat) : Nat → Nat → List Int32 → Option Int32
  | 0, pc, st => if to ≤ pc then (match st with | [v] => some v | _ => none) else none
  | e + 1, pc, st => if to ≤ pc then (match st with | [v] => some v | _ => none) else
    if (code pc).1 = 0 then (if st.length < 32 then evL code fa to e (pc + 1) (nI (code pc).2 :: st) else none)
    else if (code pc).1 = 1 then (if st.length < 32 ∧ (code pc).2 < 9 then evL code fa to e (pc + 1) (fa (code pc).2 :: st) else none)
    else if (code pc).1 = 10 then (match st with
      | [] => none
      | x :: s => if x = 0 then evL code fa to e (pc + 1) (1 :: s) else if x = 1 then evL code fa to e (pc + 1) (0 :: s) else none)
    else if (code pc).1 = 11 then (match st with
      | [] => none
      | x :: s => if x = 0 then (if pc < (code pc).2 ∧ (code pc).2 ≤ 240 then evL code fa to e (code pc).2 (0 :: s) else none) else if x = 1 then evL code fa to e (pc + 1) s else none)
    else if (code pc).1 = 12 then (match st with
      | [] => none
      | x :: s => if x = 1 then (if pc < (code pc).2 ∧ (code pc).2 ≤ 240 then evL code fa to e (code pc).2 (1 :: s) else none) else if x = 0 then evL code fa to e (pc + 1) s else none)
    else match st with
      | y :: x :: s => if ((code pc).1 = 5 ∨ (code pc).1 = 6) ∧ y = 0 then some 0 else if 9 < (code pc).1 then none else evL code fa to e (pc + 1) (rkn (code pc).1 x y :: s)
      | _ => none
def CDok (code : CDE) (to : Nat) : Prop := ∀ i, i < to → (code i).1 ≤ 12 ∧ (code i).2 < 1048576
section PEv
variable {code : CDE} {fa : Nat → Int32} {to e pc : Nat} {st : List Int32} {v : Int32}
theorem ev_one {l : List Int32} (h : (match l with | [v] => some v | _ => none) = some v) : l = [v] := by
  match l, h with
  | [x], h => rw [Option.some.inj h]
  | [], h => cases h
  | _ :: _ :: _, h => cases h
theorem ev_end0 (h : evL code fa to 0 pc st = some v) : to ≤ pc ∧ st = [v] := by
  unfold evL at h
  by_cases c : to ≤ pc
  · rw [if_pos c] at h
    exact ⟨c, ev_one h⟩
  · rw [if_neg c] at h
    cases h
theorem ev_end (c : to ≤ pc) (h : evL code fa to (e + 1) pc st = some v) : st = [v] := by
  unfold evL at h
  rw [if_pos c] at h
  exact ev_one h
theorem ev_0 (c : ¬ to ≤ pc) (o : (code pc).1 = 0) (h : evL code fa to (e + 1) pc st = some v) : st.length < 32 ∧ evL code fa to e (pc + 1) (nI (code pc).2 :: st) = some v := by
  unfold evL at h
  rw [if_neg c, o] at h
  rw [if_pos rfl] at h
  by_cases q : st.length < 32
  · rw [if_pos q] at h
    exact ⟨q, h⟩
  · rw [if_neg q] at h
    cases h
theorem ev_1 (c : ¬ to ≤ pc) (o : (code pc).1 = 1) (h : evL code fa to (e + 1) pc st = some v) : st.length < 32 ∧ (code pc).2 < 9 ∧ evL code fa to e (pc + 1) (fa (code pc).2 :: st) = some v := by
  unfold evL at h
  rw [if_neg c, o] at h
  rw [if_neg (by decide), if_pos rfl] at h
  by_cases q : st.length < 32 ∧ (code pc).2 < 9
  · rw [if_pos q] at h
    exact ⟨q.1, q.2, h⟩
  · rw [if_neg q] at h
    cases h
theorem ev_10 (c : ¬ to ≤ pc) (o : (code pc).1 = 10) (h : evL code fa to (e + 1) pc st = some v) : ∃ s, (st = 0 :: s ∧ evL code fa to e (pc + 1) (1 :: s) = some v) ∨ (st = 1 :: s ∧ evL code fa to e (pc + 1) (0 :: s) = some v) := by
  unfold evL at h
  rw [if_neg c, o] at h
  rw [if_neg (by decide), if_neg (by decide), if_pos rfl] at h
  match st, h with
  | [], h => cases h
  | x :: s, h =>
    try dsimp only at h
    by_cases q : x = 0
    · subst q
      rw [if_pos rfl] at h
      exact ⟨s, Or.inl ⟨rfl, h⟩⟩
    · rw [if_neg q] at h
      by_cases q1 : x = 1
      · subst q1
        rw [if_pos rfl] at h
        exact ⟨s, Or.inr ⟨rfl, h⟩⟩
      · rw [if_neg q1] at h
        cases h
theorem ev_11 (c : ¬ to ≤ pc) (o : (code pc).1 = 11) (h : evL code fa to (e + 1) pc st = some v) : ∃ s, (st = 0 :: s ∧ pc < (code pc).2 ∧ (code pc).2 ≤ 240 ∧ evL code fa to e (code pc).2 (0 :: s) = some v) ∨ (st = 1 :: s ∧ evL code fa to e (pc + 1) s = some v) := by
  unfold evL at h
  rw [if_neg c, o] at h
  rw [if_neg (by decide), if_neg (by decide), if_neg (by decide), if_pos rfl] at h
  match st, h with
  | [], h => cases h
  | x :: s, h =>
    try dsimp only at h
    by_cases q : x = 0
    · subst q
      rw [if_pos rfl] at h
      by_cases q2 : pc < (code pc).2 ∧ (code pc).2 ≤ 240
      · rw [if_pos q2] at h
        exact ⟨s, Or.inl ⟨rfl, q2.1, q2.2, h⟩⟩
      · rw [if_neg q2] at h
        cases h
    · rw [if_neg q] at h
      by_cases q1 : x = 1
      · subst q1
        rw [if_pos rfl] at h
        exact ⟨s, Or.inr ⟨rfl, h⟩⟩
      · rw [if_neg q1] at h
        cases h
theorem ev_12 (c : ¬ to ≤ pc) (o : (code pc).1 = 12) (h : evL code fa to (e + 1) pc st = some v) : ∃ s, (st = 1 :: s ∧ pc < (code pc).2 ∧ (code pc).2 ≤ 240 ∧ evL code fa to e (code pc).2 (1 :: s) = some v) ∨ (st = 0 :: s ∧ evL code fa to e (pc + 1) s = some v) := by
  unfold evL at h
  rw [if_neg c, o] at h
  rw [if_neg (by decide), if_neg (by decide), if_neg (by decide), if_neg (by decide), if_pos rfl] at h
  match st, h with
  | [], h => cases h
  | x :: s, h =>
    try dsimp only at h
    by_cases q : x = 1
    · subst q
      rw [if_pos rfl] at h
      by_cases q2 : pc < (code pc).2 ∧ (code pc).2 ≤ 240
      · rw [if_pos q2] at h
        exact ⟨s, Or.inl ⟨rfl, q2.1, q2.2, h⟩⟩
      · rw [if_neg q2] at h
        cases h
    · rw [if_neg q] at h
      by_cases q1 : x = 0
      · subst q1
        rw [if_pos rfl] at h
        exact ⟨s, Or.inr ⟨rfl, h⟩⟩
      · rw [if_neg q1] at h
        cases h

theorem ev_2 (c : ¬ to ≤ pc) (o : (code pc).1 = 2) (h : evL code fa to (e + 1) pc st = some v) : ∃ y x s, st = y :: x :: s ∧ evL code fa to e (pc + 1) (rkn 2 x y :: s) = some v := by
  unfold evL at h
  rw [if_neg c, o] at h
  rw [if_neg (by decide), if_neg (by decide), if_neg (by decide), if_neg (by decide), if_neg (by decide)] at h
  match st, h with
  | [], h => cases h
  | [_], h => cases h
  | y :: x :: s, h =>
    try dsimp only at h
    rw [if_neg (fun z => absurd z.1 (by decide)), if_neg (by decide)] at h
    exact ⟨y, x, s, rfl, h⟩
theorem ev_3 (c : ¬ to ≤ pc) (o : (code pc).1 = 3) (h : evL code fa to (e + 1) pc st = some v) : ∃ y x s, st = y :: x :: s ∧ evL code fa to e (pc + 1) (rkn 3 x y :: s) = some v := by
  unfold evL at h
  rw [if_neg c, o] at h
  rw [if_neg (by decide), if_neg (by decide), if_neg (by decide), if_neg (by decide), if_neg (by decide)] at h
  match st, h with
  | [], h => cases h
  | [_], h => cases h
  | y :: x :: s, h =>
    try dsimp only at h
    rw [if_neg (fun z => absurd z.1 (by decide)), if_neg (by decide)] at h
    exact ⟨y, x, s, rfl, h⟩
theorem ev_4 (c : ¬ to ≤ pc) (o : (code pc).1 = 4) (h : evL code fa to (e + 1) pc st = some v) : ∃ y x s, st = y :: x :: s ∧ evL code fa to e (pc + 1) (rkn 4 x y :: s) = some v := by
  unfold evL at h
  rw [if_neg c, o] at h
  rw [if_neg (by decide), if_neg (by decide), if_neg (by decide), if_neg (by decide), if_neg (by decide)] at h
  match st, h with
  | [], h => cases h
  | [_], h => cases h
  | y :: x :: s, h =>
    try dsimp only at h
    rw [if_neg (fun z => absurd z.1 (by decide)), if_neg (by decide)] at h
    exact ⟨y, x, s, rfl, h⟩
theorem ev_5 (c : ¬ to ≤ pc) (o : (code pc).1 = 5) (h : evL code fa to (e + 1) pc st = some v) : ∃ y x s, st = y :: x :: s ∧ ((y = 0 ∧ v = 0) ∨ (¬ y = 0 ∧ evL code fa to e (pc + 1) (rkn 5 x y :: s) = some v)) := by
  unfold evL at h
  rw [if_neg c, o] at h
  rw [if_neg (by decide), if_neg (by decide), if_neg (by decide), if_neg (by decide), if_neg (by decide)] at h
  match st, h with
  | [], h => cases h
  | [_], h => cases h
  | y :: x :: s, h =>
    try dsimp only at h
    by_cases q : y = 0
    · rw [if_pos ⟨by decide, q⟩] at h
      exact ⟨y, x, s, rfl, Or.inl ⟨q, (Option.some.inj h).symm⟩⟩
    · rw [if_neg (fun z => q z.2), if_neg (by decide)] at h
      exact ⟨y, x, s, rfl, Or.inr ⟨q, h⟩⟩
theorem ev_6 (c : ¬ to ≤ pc) (o : (code pc).1 = 6) (h : evL code fa to (e + 1) pc st = some v) : ∃ y x s, st = y :: x :: s ∧ ((y = 0 ∧ v = 0) ∨ (¬ y = 0 ∧ evL code fa to e (pc + 1) (rkn 6 x y :: s) = some v)) := by
  unfold evL at h
  rw [if_neg c, o] at h
  rw [if_neg (by decide), if_neg (by decide), if_neg (by decide), if_neg (by decide), if_neg (by decide)] at h
  match st, h with
  | [], h => cases h
  | [_], h => cases h
  | y :: x :: s, h =>
    try dsimp only at h
    by_cases q : y = 0
    · rw [if_pos ⟨by decide, q⟩] at h
      exact ⟨y, x, s, rfl, Or.inl ⟨q, (Option.some.inj h).symm⟩⟩
    · rw [if_neg (fun z => q z.2), if_neg (by decide)] at h
      exact ⟨y, x, s, rfl, Or.inr ⟨q, h⟩⟩
theorem ev_7 (c : ¬ to ≤ pc) (o : (code pc).1 = 7) (h : evL code fa to (e + 1) pc st = some v) : ∃ y x s, st = y :: x :: s ∧ evL code fa to e (pc + 1) (rkn 7 x y :: s) = some v := by
  unfold evL at h
  rw [if_neg c, o] at h
  rw [if_neg (by decide), if_neg (by decide), if_neg (by decide), if_neg (by decide), if_neg (by decide)] at h
  match st, h with
  | [], h => cases h
  | [_], h => cases h
  | y :: x :: s, h =>
    try dsimp only at h
    rw [if_neg (fun z => absurd z.1 (by decide)), if_neg (by decide)] at h
    exact ⟨y, x, s, rfl, h⟩
theorem ev_8 (c : ¬ to ≤ pc) (o : (code pc).1 = 8) (h : evL code fa to (e + 1) pc st = some v) : ∃ y x s, st = y :: x :: s ∧ evL code fa to e (pc + 1) (rkn 8 x y :: s) = some v := by
  unfold evL at h
  rw [if_neg c, o] at h
  rw [if_neg (by decide), if_neg (by decide), if_neg (by decide), if_neg (by decide), if_neg (by decide)] at h
  match st, h with
  | [], h => cases h
  | [_], h => cases h
  | y :: x :: s, h =>
    try dsimp only at h
    rw [if_neg (fun z => absurd z.1 (by decide)), if_neg (by decide)] at h
    exact ⟨y, x, s, rfl, h⟩
theorem ev_9 (c : ¬ to ≤ pc) (o : (code pc).1 = 9) (h : evL code fa to (e + 1) pc st = some v) : ∃ y x s, st = y :: x :: s ∧ evL code fa to e (pc + 1) (rkn 9 x y :: s) = some v := by
  unfold evL at h
  rw [if_neg c, o] at h
  rw [if_neg (by decide), if_neg (by decide), if_neg (by decide), if_neg (by decide), if_neg (by decide)] at h
  match st, h with
  | [], h => cases h
  | [_], h => cases h
  | y :: x :: s, h =>
    try dsimp only at h
    rw [if_neg (fun z => absurd z.1 (by decide)), if_neg (by decide)] at h
    exact ⟨y, x, s, rfl, h⟩
end PEv
def SKv (a : Nat) (I : IM) : List Int32 → Prop
  | [] => True
  | x :: s => I a s.length = x ∧ SKv a I s
theorem SKv.low {a : Nat} {I I' : IM} : ∀ {s : List Int32}, SKv a I s → (∀ j, j < s.length → I' a j = I a j) → SKv a I' s
  | [], _, _ => trivial
  | _ :: s, h, k => ⟨(k s.length (Nat.lt_succ_self _)).trans h.1, SKv.low h.2 (fun j hj => k j (Nat.lt_succ_of_lt hj))⟩
theorem SKv.push {a : Nat} {I : IM} {s : List Int32} (h : SKv a I s) (x : Int32) : SKv a (up2 I a s.length x) (x :: s) := ⟨up2_s _ _ _ _, h.low (fun j hj => up2_k _ _ (by omega))⟩
def whc (k : Nat) : Nat := [78, 75, 43, 45, 42, 47, 37, 60, 62, 61, 33, 38, 124].getD k 0
theorem wh_of {k K w : Nat} (h : k = K) (e : whc K = w) : whc k = w := by
  subst h
  exact e
theorem wd_and {w v : Nat} (hw : w < 256) (hv : v < 1048576) : nI (w + 256 * v) &&& nI 255 = nI w := by
  rw [pk_andN (show w + 256 * v < 2 ^ 32 by omega) 8 (by decide)]
  congr 1
  omega
theorem wd_shr {w v : Nat} (hw : w < 256) (hv : v < 1048576) : ((nI (w + 256 * v)).toUInt32 >>> ((nI 8).toUInt32 &&& Int32.toUInt32 31)).toInt32 = nI v := by
  rw [pk_ushrN (show w + 256 * v < 2 ^ 32 by omega) (nI 8) 8 (by decide)]
  congr 1
  omega
section PReckon
variable {g : GL} {d n : Nat} {I : IM} {J : JM} {R : RM} {Q : PQ}
set_option maxRecDepth 100000 in
set_option maxHeartbeats 2000000 in
theorem x_joined2 {x y : Int32} (hQ : Q (some (.int (rkn 2 x y))) n I J R) : E g mX3_joined d 0 0 0 (ent 3 [.int (nI 43), .int x, .int y]) [] n I J R Q := by
  refine E_iload_n dX3_joined_0 rfl ?_
  refine E_look (tgt := 68) dX3_joined_1 (by decide) rfl (by decide) ?_
  refine E_iload_n dX3_joined_68 rfl ?_
  refine E_iload_n dX3_joined_69 rfl ?_
  refine E_iadd dX3_joined_70 ?_
  exact E_iret dX3_joined_71 rfl (hQ)
set_option maxRecDepth 100000 in
set_option maxHeartbeats 2000000 in
theorem x_joined3 {x y : Int32} (hQ : Q (some (.int (rkn 3 x y))) n I J R) : E g mX3_joined d 0 0 0 (ent 3 [.int (nI 45), .int x, .int y]) [] n I J R Q := by
  refine E_iload_n dX3_joined_0 rfl ?_
  refine E_look (tgt := 72) dX3_joined_1 (by decide) rfl (by decide) ?_
  refine E_iload_n dX3_joined_72 rfl ?_
  refine E_iload_n dX3_joined_73 rfl ?_
  refine E_isub dX3_joined_74 ?_
  exact E_iret dX3_joined_75 rfl (hQ)
set_option maxRecDepth 100000 in
set_option maxHeartbeats 2000000 in
theorem x_joined4 {x y : Int32} (hQ : Q (some (.int (rkn 4 x y))) n I J R) : E g mX3_joined d 0 0 0 (ent 3 [.int (nI 42), .int x, .int y]) [] n I J R Q := by
  refine E_iload_n dX3_joined_0 rfl ?_
  refine E_look (tgt := 76) dX3_joined_1 (by decide) rfl (by decide) ?_
  refine E_iload_n dX3_joined_76 rfl ?_
  refine E_iload_n dX3_joined_77 rfl ?_
  refine E_imul dX3_joined_78 ?_
  exact E_iret dX3_joined_79 rfl (hQ)
set_option maxRecDepth 100000 in
set_option maxHeartbeats 2000000 in
theorem x_joined5 {x y : Int32} (hy : ¬ y = 0) (hQ : Q (some (.int (rkn 5 x y))) n I J R) : E g mX3_joined d 0 0 0 (ent 3 [.int (nI 47), .int x, .int y]) [] n I J R Q := by
  refine E_iload_n dX3_joined_0 rfl ?_
  refine E_look (tgt := 80) dX3_joined_1 (by decide) rfl (by decide) ?_
  refine E_iload_n dX3_joined_80 rfl ?_
  refine E_if_ne (tgt := 88) dX3_joined_81 (by decide) (fun cw81 => ?_) (fun cw81 => by first | exact absurd cw81 (hy) | exact absurd (hy) cw81)
  refine E_iload_n dX3_joined_88 rfl ?_
  refine E_iload_n dX3_joined_89 rfl ?_
  refine E_idiv dX3_joined_90 hy ?_
  exact E_iret dX3_joined_91 rfl (hQ)
set_option maxRecDepth 100000 in
set_option maxHeartbeats 2000000 in
theorem x_joined6 {x y : Int32} (hy : ¬ y = 0) (hQ : Q (some (.int (rkn 6 x y))) n I J R) : E g mX3_joined d 0 0 0 (ent 3 [.int (nI 37), .int x, .int y]) [] n I J R Q := by
  refine E_iload_n dX3_joined_0 rfl ?_
  refine E_look (tgt := 92) dX3_joined_1 (by decide) rfl (by decide) ?_
  refine E_iload_n dX3_joined_92 rfl ?_
  refine E_if_ne (tgt := 100) dX3_joined_93 (by decide) (fun cw93 => ?_) (fun cw93 => by first | exact absurd cw93 (hy) | exact absurd (hy) cw93)
  refine E_iload_n dX3_joined_100 rfl ?_
  refine E_iload_n dX3_joined_101 rfl ?_
  refine E_irem dX3_joined_102 hy ?_
  exact E_iret dX3_joined_103 rfl (hQ)
set_option maxRecDepth 100000 in
set_option maxHeartbeats 2000000 in
theorem x_joined7 {x y : Int32} (hQ : Q (some (.int (rkn 7 x y))) n I J R) : E g mX3_joined d 0 0 0 (ent 3 [.int (nI 60), .int x, .int y]) [] n I J R Q := by
  refine E_iload_n dX3_joined_0 rfl ?_
  refine E_look (tgt := 104) dX3_joined_1 (by decide) rfl (by decide) ?_
  refine E_iload_n dX3_joined_104 rfl ?_
  refine E_iload_n dX3_joined_105 rfl ?_
  refine E_icmp_ge (tgt := 113) dX3_joined_106 (by decide) (fun cw106 => ?_) (fun cw106 => ?_)
  · refine E_ic (nI 0) dX3_joined_113 (by decide) ?_
    exact E_iret dX3_joined_114 rfl (by first | (rw [show rkn 7 x y = 1 from if_pos (Int32.not_le.mp cw106)] at hQ; exact hQ) | (rw [show rkn 7 x y = 0 from if_neg (Int32.not_lt.mpr cw106)] at hQ; exact hQ))
  · refine E_ic (nI 1) dX3_joined_109 (by decide) ?_
    refine E_goto (tgt := 114) dX3_joined_110 (by decide) ?_
    exact E_iret dX3_joined_114 rfl (by first | (rw [show rkn 7 x y = 1 from if_pos (Int32.not_le.mp cw106)] at hQ; exact hQ) | (rw [show rkn 7 x y = 0 from if_neg (Int32.not_lt.mpr cw106)] at hQ; exact hQ))
set_option maxRecDepth 100000 in
set_option maxHeartbeats 2000000 in
theorem x_joined8 {x y : Int32} (hQ : Q (some (.int (rkn 8 x y))) n I J R) : E g mX3_joined d 0 0 0 (ent 3 [.int (nI 62), .int x, .int y]) [] n I J R Q := by
  refine E_iload_n dX3_joined_0 rfl ?_
  refine E_look (tgt := 115) dX3_joined_1 (by decide) rfl (by decide) ?_
  refine E_iload_n dX3_joined_115 rfl ?_
  refine E_iload_n dX3_joined_116 rfl ?_
  refine E_icmp_le (tgt := 124) dX3_joined_117 (by decide) (fun cw117 => ?_) (fun cw117 => ?_)
  · refine E_ic (nI 0) dX3_joined_124 (by decide) ?_
    exact E_iret dX3_joined_125 rfl (by first | (rw [show rkn 8 x y = 1 from if_pos (Int32.not_le.mp cw117)] at hQ; exact hQ) | (rw [show rkn 8 x y = 0 from if_neg (Int32.not_lt.mpr cw117)] at hQ; exact hQ))
  · refine E_ic (nI 1) dX3_joined_120 (by decide) ?_
    refine E_goto (tgt := 125) dX3_joined_121 (by decide) ?_
    exact E_iret dX3_joined_125 rfl (by first | (rw [show rkn 8 x y = 1 from if_pos (Int32.not_le.mp cw117)] at hQ; exact hQ) | (rw [show rkn 8 x y = 0 from if_neg (Int32.not_lt.mpr cw117)] at hQ; exact hQ))
set_option maxRecDepth 100000 in
set_option maxHeartbeats 2000000 in
theorem x_joined9 {x y : Int32} (hQ : Q (some (.int (rkn 9 x y))) n I J R) : E g mX3_joined d 0 0 0 (ent 3 [.int (nI 61), .int x, .int y]) [] n I J R Q := by
  refine E_iload_n dX3_joined_0 rfl ?_
  refine E_look (tgt := 126) dX3_joined_1 (by decide) rfl (by decide) ?_
  refine E_iload_n dX3_joined_126 rfl ?_
  refine E_iload_n dX3_joined_127 rfl ?_
  refine E_icmp_ne (tgt := 135) dX3_joined_128 (by decide) (fun cw128 => ?_) (fun cw128 => ?_)
  · refine E_ic (nI 0) dX3_joined_135 (by decide) ?_
    exact E_iret dX3_joined_136 rfl (by first | (rw [show rkn 9 x y = 1 from if_pos cw128] at hQ; exact hQ) | (rw [show rkn 9 x y = 0 from if_neg cw128] at hQ; exact hQ))
  · refine E_ic (nI 1) dX3_joined_131 (by decide) ?_
    refine E_goto (tgt := 136) dX3_joined_132 (by decide) ?_
    exact E_iret dX3_joined_136 rfl (by first | (rw [show rkn 9 x y = 1 from if_pos cw128] at hQ; exact hQ) | (rw [show rkn 9 x y = 0 from if_neg cw128] at hQ; exact hQ))
set_option maxRecDepth 100000 in
set_option maxHeartbeats 2000000 in
theorem x_rkL {code : CDE} {fa : Nat → Int32} {to fr : Nat} {v : Int32} (hN : 152 ≤ n) (hR : RS R) (hto : to ≤ 240) (hcd : CDok code to) : ∀ (e step pc : Nat) (st : List Int32) (I : IM), step + e = 240 → evL code fa to e pc st = some v → (∀ i, i < to → I 4 i = nI (whc (code i).1 + 256 * (code i).2)) → (∀ j, j < 9 → I 9 j = fa j) → SKv 10 I st → pc ≤ 240 → st.length ≤ 32 → (∀ I2 : IM, (∀ x, x ≠ 10 → I2 x = I x) → Q (some (.int v)) n I2 J R) → E g mX3_reckon (d + 1) 0 0 8 [.ref 3, .int (nI fr), .int (nI to), .int (nI st.length), .int (nI pc), .int (nI step), jk, jk, jk] [] n I J R Q := by
  intro e
  induction e with
  | zero =>
    intro step pc st I hst h hcode hfa hsk hpc hlen hQ
    obtain ⟨h1, rfl⟩ := ev_end0 h
    refine E_iload dX3_reckon_8 rfl ?_
    refine E_sp (nI 240) dX3_reckon_10 (by decide) ?_
    refine E_cN_ge (a := step) (b := 240) (tgt := 316) dX3_reckon_13 (by omega) (by decide) (by decide) (fun cw13 => ?_) (fun cw13 => absurd cw13 (by omega))
    refine E_iload_n dX3_reckon_316 rfl ?_
    refine E_zN_le (a := 1) (tgt := 331) dX3_reckon_317 (by decide) (by decide) (fun cw317 => absurd cw317 (by omega)) (fun cw317 => ?_)
    refine E_aload_n dX3_reckon_320 rfl ?_
    refine E_getR dX3_reckon_321 f_X3_38 rfl (Nat.lt_of_lt_of_le (by decide) hN) rfl (hR _ _ _ rfl) ?_
    refine E_iload_n dX3_reckon_324 rfl ?_
    refine E_ic (nI 1) dX3_reckon_325 (by decide) ?_
    refine E_isub dX3_reckon_326 ?_
    refine E.top (pk_sub (a := 1) (b := 1) (by omega)) ?_
    refine E_ialdN dX3_reckon_327 rfl (Nat.lt_of_lt_of_le (by decide) hN) (by first | assumption | omega) ?_
    refine E.top (hsk.1) ?_
    refine E_goto (tgt := 332) dX3_reckon_328 (by decide) ?_
    exact E_iret dX3_reckon_332 rfl (hQ I (fun _ _ => rfl))
  | succ e ih =>
    intro step pc st I hst h hcode hfa hsk hpc hlen hQ
    by_cases cp : to ≤ pc
    · have h1 := ev_end cp h
      subst h1
      refine E_iload dX3_reckon_8 rfl ?_
      refine E_sp (nI 240) dX3_reckon_10 (by decide) ?_
      refine E_cN_ge (a := step) (b := 240) (tgt := 316) dX3_reckon_13 (by omega) (by decide) (by decide) (fun cw13 => absurd cw13 (by omega)) (fun cw13 => ?_)
      refine E_iload dX3_reckon_16 rfl ?_
      refine E_zN_lt (a := pc) (tgt := 316) dX3_reckon_18 (by omega) (by decide) (fun cw18 => cw18.elim) (fun cw18 => ?_)
      refine E_iload dX3_reckon_21 rfl ?_
      refine E_iload_n dX3_reckon_23 rfl ?_
      refine E_cN_ge (a := pc) (b := to) (tgt := 316) dX3_reckon_24 (by omega) (by omega) (by decide) (fun cw24 => ?_) (fun cw24 => absurd cw24 (by omega))
      refine E_iload_n dX3_reckon_316 rfl ?_
      refine E_zN_le (a := 1) (tgt := 331) dX3_reckon_317 (by decide) (by decide) (fun cw317 => absurd cw317 (by omega)) (fun cw317 => ?_)
      refine E_aload_n dX3_reckon_320 rfl ?_
      refine E_getR dX3_reckon_321 f_X3_38 rfl (Nat.lt_of_lt_of_le (by decide) hN) rfl (hR _ _ _ rfl) ?_
      refine E_iload_n dX3_reckon_324 rfl ?_
      refine E_ic (nI 1) dX3_reckon_325 (by decide) ?_
      refine E_isub dX3_reckon_326 ?_
      refine E.top (pk_sub (a := 1) (b := 1) (by omega)) ?_
      refine E_ialdN dX3_reckon_327 rfl (Nat.lt_of_lt_of_le (by decide) hN) (by first | assumption | omega) ?_
      refine E.top (hsk.1) ?_
      refine E_goto (tgt := 332) dX3_reckon_328 (by decide) ?_
      exact E_iret dX3_reckon_332 rfl (hQ I (fun _ _ => rfl))
    · obtain ⟨hop, hv2⟩ := hcd pc (by omega)
      have hcs : (code pc).1 = 0 ∨ (code pc).1 = 1 ∨ (code pc).1 = 2 ∨ (code pc).1 = 3 ∨ (code pc).1 = 4 ∨ (code pc).1 = 5 ∨ (code pc).1 = 6 ∨ (code pc).1 = 7 ∨ (code pc).1 = 8 ∨ (code pc).1 = 9 ∨ (code pc).1 = 10 ∨ (code pc).1 = 11 ∨ (code pc).1 = 12 := by omega
      rcases hcs with ho | ho | ho | ho | ho | ho | ho | ho | ho | ho | ho | ho | ho
      · -- 0
        obtain ⟨h1, h2⟩ := ev_0 cp ho h
        refine E_iload dX3_reckon_8 rfl ?_
        refine E_sp (nI 240) dX3_reckon_10 (by decide) ?_
        refine E_cN_ge (a := step) (b := 240) (tgt := 316) dX3_reckon_13 (by omega) (by decide) (by decide) (fun cw13 => absurd cw13 (by omega)) (fun cw13 => ?_)
        refine E_iload dX3_reckon_16 rfl ?_
        refine E_zN_lt (a := pc) (tgt := 316) dX3_reckon_18 (by omega) (by decide) (fun cw18 => cw18.elim) (fun cw18 => ?_)
        refine E_iload dX3_reckon_21 rfl ?_
        refine E_iload_n dX3_reckon_23 rfl ?_
        refine E_cN_ge (a := pc) (b := to) (tgt := 316) dX3_reckon_24 (by omega) (by omega) (by decide) (fun cw24 => absurd cw24 (by omega)) (fun cw24 => ?_)
        refine E_iload dX3_reckon_27 rfl ?_
        refine E_sp (nI 240) dX3_reckon_29 (by decide) ?_
        refine E_cN_ge (a := pc) (b := 240) (tgt := 316) dX3_reckon_32 (by omega) (by decide) (by decide) (fun cw32 => absurd cw32 (by omega)) (fun cw32 => ?_)
        refine E_aload_n dX3_reckon_35 rfl ?_
        refine E_getR dX3_reckon_36 f_X3_9 rfl (Nat.lt_of_lt_of_le (by decide) hN) rfl (hR _ _ _ rfl) ?_
        refine E_iload dX3_reckon_39 rfl ?_
        refine E_ialdN dX3_reckon_41 rfl (Nat.lt_of_lt_of_le (by decide) hN) (by omega) ?_
        refine E.top ((hcode pc (by omega)).trans (congrArg (fun z => nI (z + 256 * (code pc).2)) (wh_of (w := 78) ho rfl))) ?_
        refine E_sp (nI 255) dX3_reckon_42 (by decide) ?_
        refine E_iand dX3_reckon_45 ?_
        refine E.top (wd_and (by decide) hv2) ?_
        refine E_istore dX3_reckon_46 (Nat.le_of_ble_eq_true rfl) ?_
        refine E_aload_n dX3_reckon_48 rfl ?_
        refine E_getR dX3_reckon_49 f_X3_9 rfl (Nat.lt_of_lt_of_le (by decide) hN) rfl (hR _ _ _ rfl) ?_
        refine E_iload dX3_reckon_52 rfl ?_
        refine E_ialdN dX3_reckon_54 rfl (Nat.lt_of_lt_of_le (by decide) hN) (by omega) ?_
        refine E.top ((hcode pc (by omega)).trans (congrArg (fun z => nI (z + 256 * (code pc).2)) (wh_of (w := 78) ho rfl))) ?_
        refine E_bp (nI 8) dX3_reckon_55 (by decide) ?_
        refine E_iushr dX3_reckon_57 ?_
        refine E.top (wd_shr (by decide) hv2) ?_
        refine E_istore dX3_reckon_58 (Nat.le_of_ble_eq_true rfl) ?_
        refine E_incN dX3_reckon_60 rfl ?_
        refine E_iload dX3_reckon_63 rfl ?_
        refine E_bp (nI 78) dX3_reckon_65 (by decide) ?_
        refine E_cN_eq (a := 78) (b := 78) (tgt := 77) dX3_reckon_67 (by decide) (by decide) (by decide) (fun cw67 => ?_) (fun cw67 => absurd cw67 (by omega))
        refine E_iload_n dX3_reckon_77 rfl ?_
        refine E_bp (nI 32) dX3_reckon_78 (by decide) ?_
        refine E_cN_ge (a := st.length) (b := 32) (tgt := 100) dX3_reckon_80 (by omega) (by decide) (by decide) (fun cw80 => absurd cw80 (by omega)) (fun cw80 => ?_)
        refine E_iload dX3_reckon_83 rfl ?_
        refine E_bp (nI 75) dX3_reckon_85 (by decide) ?_
        refine E_cN_ne (a := 78) (b := 75) (tgt := 102) dX3_reckon_87 (by decide) (by decide) (by decide) (fun cw87 => ?_) (fun cw87 => absurd cw87 (by omega))
        refine E_aload_n dX3_reckon_102 rfl ?_
        refine E_getR dX3_reckon_103 f_X3_38 rfl (Nat.lt_of_lt_of_le (by decide) hN) rfl (hR _ _ _ rfl) ?_
        refine E_iload_n dX3_reckon_106 rfl ?_
        refine E_iload dX3_reckon_107 rfl ?_
        refine E_bp (nI 78) dX3_reckon_109 (by decide) ?_
        refine E_cN_ne (a := 78) (b := 78) (tgt := 119) dX3_reckon_111 (by decide) (by decide) (by decide) (fun cw111 => absurd cw111 (by omega)) (fun cw111 => ?_)
        refine E_iload dX3_reckon_114 rfl ?_
        refine E_goto (tgt := 126) dX3_reckon_116 (by decide) ?_
        refine E_iastN dX3_reckon_126 rfl (Nat.lt_of_lt_of_le (by decide) hN) (by omega) ?_
        refine E_incN dX3_reckon_127 rfl ?_
        refine E_goto (tgt := 310) dX3_reckon_130 (by decide) ?_
        refine E_incN dX3_reckon_310 rfl ?_
        refine E_goto (tgt := 8) dX3_reckon_313 (by decide) ?_
        refine E.mask [true, true, true, true, true, true, false, false, false] ?_
        exact ih (step + 1) (pc + 1) (nI (code pc).2 :: st) _ (by omega) h2 (fun i hi => (congrFun (up2_o I 10 _ _ 4 (by decide)) i).trans (hcode i hi)) (fun j hj => (congrFun (up2_o I 10 _ _ 9 (by decide)) j).trans (hfa j hj)) (hsk.push _) (by omega) (by rw [List.length_cons]; omega) (fun I2 f2 => hQ I2 (fun x hx => (f2 x hx).trans (up2_o I 10 _ _ x hx)))
      · -- 1
        obtain ⟨h1, h1b, h2⟩ := ev_1 cp ho h
        refine E_iload dX3_reckon_8 rfl ?_
        refine E_sp (nI 240) dX3_reckon_10 (by decide) ?_
        refine E_cN_ge (a := step) (b := 240) (tgt := 316) dX3_reckon_13 (by omega) (by decide) (by decide) (fun cw13 => absurd cw13 (by omega)) (fun cw13 => ?_)
        refine E_iload dX3_reckon_16 rfl ?_
        refine E_zN_lt (a := pc) (tgt := 316) dX3_reckon_18 (by omega) (by decide) (fun cw18 => cw18.elim) (fun cw18 => ?_)
        refine E_iload dX3_reckon_21 rfl ?_
        refine E_iload_n dX3_reckon_23 rfl ?_
        refine E_cN_ge (a := pc) (b := to) (tgt := 316) dX3_reckon_24 (by omega) (by omega) (by decide) (fun cw24 => absurd cw24 (by omega)) (fun cw24 => ?_)
        refine E_iload dX3_reckon_27 rfl ?_
        refine E_sp (nI 240) dX3_reckon_29 (by decide) ?_
        refine E_cN_ge (a := pc) (b := 240) (tgt := 316) dX3_reckon_32 (by omega) (by decide) (by decide) (fun cw32 => absurd cw32 (by omega)) (fun cw32 => ?_)
        refine E_aload_n dX3_reckon_35 rfl ?_
        refine E_getR dX3_reckon_36 f_X3_9 rfl (Nat.lt_of_lt_of_le (by decide) hN) rfl (hR _ _ _ rfl) ?_
        refine E_iload dX3_reckon_39 rfl ?_
        refine E_ialdN dX3_reckon_41 rfl (Nat.lt_of_lt_of_le (by decide) hN) (by omega) ?_
        refine E.top ((hcode pc (by omega)).trans (congrArg (fun z => nI (z + 256 * (code pc).2)) (wh_of (w := 75) ho rfl))) ?_
        refine E_sp (nI 255) dX3_reckon_42 (by decide) ?_
        refine E_iand dX3_reckon_45 ?_
        refine E.top (wd_and (by decide) hv2) ?_
        refine E_istore dX3_reckon_46 (Nat.le_of_ble_eq_true rfl) ?_
        refine E_aload_n dX3_reckon_48 rfl ?_
        refine E_getR dX3_reckon_49 f_X3_9 rfl (Nat.lt_of_lt_of_le (by decide) hN) rfl (hR _ _ _ rfl) ?_
        refine E_iload dX3_reckon_52 rfl ?_
        refine E_ialdN dX3_reckon_54 rfl (Nat.lt_of_lt_of_le (by decide) hN) (by omega) ?_
        refine E.top ((hcode pc (by omega)).trans (congrArg (fun z => nI (z + 256 * (code pc).2)) (wh_of (w := 75) ho rfl))) ?_
        refine E_bp (nI 8) dX3_reckon_55 (by decide) ?_
        refine E_iushr dX3_reckon_57 ?_
        refine E.top (wd_shr (by decide) hv2) ?_
        refine E_istore dX3_reckon_58 (Nat.le_of_ble_eq_true rfl) ?_
        refine E_incN dX3_reckon_60 rfl ?_
        refine E_iload dX3_reckon_63 rfl ?_
        refine E_bp (nI 78) dX3_reckon_65 (by decide) ?_
        refine E_cN_eq (a := 75) (b := 78) (tgt := 77) dX3_reckon_67 (by decide) (by decide) (by decide) (fun cw67 => absurd cw67 (by omega)) (fun cw67 => ?_)
        refine E_iload dX3_reckon_70 rfl ?_
        refine E_bp (nI 75) dX3_reckon_72 (by decide) ?_
        refine E_cN_ne (a := 75) (b := 75) (tgt := 133) dX3_reckon_74 (by decide) (by decide) (by decide) (fun cw74 => absurd cw74 (by omega)) (fun cw74 => ?_)
        refine E_iload_n dX3_reckon_77 rfl ?_
        refine E_bp (nI 32) dX3_reckon_78 (by decide) ?_
        refine E_cN_ge (a := st.length) (b := 32) (tgt := 100) dX3_reckon_80 (by omega) (by decide) (by decide) (fun cw80 => absurd cw80 (by omega)) (fun cw80 => ?_)
        refine E_iload dX3_reckon_83 rfl ?_
        refine E_bp (nI 75) dX3_reckon_85 (by decide) ?_
        refine E_cN_ne (a := 75) (b := 75) (tgt := 102) dX3_reckon_87 (by decide) (by decide) (by decide) (fun cw87 => absurd cw87 (by omega)) (fun cw87 => ?_)
        refine E_iload dX3_reckon_90 rfl ?_
        refine E_aload_n dX3_reckon_92 rfl ?_
        refine E_getR dX3_reckon_93 f_X3_35 rfl (Nat.lt_of_lt_of_le (by decide) hN) rfl (hR _ _ _ rfl) ?_
        refine E_alen dX3_reckon_96 rfl (Nat.lt_of_lt_of_le (by decide) hN) (by decide) (by decide) ?_
        refine E.top (show _ = nI 9 from rfl) ?_
        refine E_cN_lt (a := (code pc).2) (b := 9) (tgt := 102) dX3_reckon_97 (by omega) (by decide) (by decide) (fun cw97 => ?_) (fun cw97 => absurd cw97 (by omega))
        refine E_aload_n dX3_reckon_102 rfl ?_
        refine E_getR dX3_reckon_103 f_X3_38 rfl (Nat.lt_of_lt_of_le (by decide) hN) rfl (hR _ _ _ rfl) ?_
        refine E_iload_n dX3_reckon_106 rfl ?_
        refine E_iload dX3_reckon_107 rfl ?_
        refine E_bp (nI 78) dX3_reckon_109 (by decide) ?_
        refine E_cN_ne (a := 75) (b := 78) (tgt := 119) dX3_reckon_111 (by decide) (by decide) (by decide) (fun cw111 => ?_) (fun cw111 => absurd cw111 (by omega))
        refine E_aload_n dX3_reckon_119 rfl ?_
        refine E_getR dX3_reckon_120 f_X3_35 rfl (Nat.lt_of_lt_of_le (by decide) hN) rfl (hR _ _ _ rfl) ?_
        refine E_iload dX3_reckon_123 rfl ?_
        refine E_ialdN dX3_reckon_125 rfl (Nat.lt_of_lt_of_le (by decide) hN) (by omega) ?_
        refine E.top (hfa _ (by omega)) ?_
        refine E_iastN dX3_reckon_126 rfl (Nat.lt_of_lt_of_le (by decide) hN) (by omega) ?_
        refine E_incN dX3_reckon_127 rfl ?_
        refine E_goto (tgt := 310) dX3_reckon_130 (by decide) ?_
        refine E_incN dX3_reckon_310 rfl ?_
        refine E_goto (tgt := 8) dX3_reckon_313 (by decide) ?_
        refine E.mask [true, true, true, true, true, true, false, false, false] ?_
        exact ih (step + 1) (pc + 1) (fa (code pc).2 :: st) _ (by omega) h2 (fun i hi => (congrFun (up2_o I 10 _ _ 4 (by decide)) i).trans (hcode i hi)) (fun j hj => (congrFun (up2_o I 10 _ _ 9 (by decide)) j).trans (hfa j hj)) (hsk.push _) (by omega) (by rw [List.length_cons]; omega) (fun I2 f2 => hQ I2 (fun x hx => (f2 x hx).trans (up2_o I 10 _ _ x hx)))
      · -- 2
        obtain ⟨y, x, s, rfl, h2⟩ := ev_2 cp ho h
        have hl2 : s.length + 2 ≤ 32 := hlen
        refine E_iload dX3_reckon_8 rfl ?_
        refine E_sp (nI 240) dX3_reckon_10 (by decide) ?_
        refine E_cN_ge (a := step) (b := 240) (tgt := 316) dX3_reckon_13 (by omega) (by decide) (by decide) (fun cw13 => absurd cw13 (by omega)) (fun cw13 => ?_)
        refine E_iload dX3_reckon_16 rfl ?_
        refine E_zN_lt (a := pc) (tgt := 316) dX3_reckon_18 (by omega) (by decide) (fun cw18 => cw18.elim) (fun cw18 => ?_)
        refine E_iload dX3_reckon_21 rfl ?_
        refine E_iload_n dX3_reckon_23 rfl ?_
        refine E_cN_ge (a := pc) (b := to) (tgt := 316) dX3_reckon_24 (by omega) (by omega) (by decide) (fun cw24 => absurd cw24 (by omega)) (fun cw24 => ?_)
        refine E_iload dX3_reckon_27 rfl ?_
        refine E_sp (nI 240) dX3_reckon_29 (by decide) ?_
        refine E_cN_ge (a := pc) (b := 240) (tgt := 316) dX3_reckon_32 (by omega) (by decide) (by decide) (fun cw32 => absurd cw32 (by omega)) (fun cw32 => ?_)
        refine E_aload_n dX3_reckon_35 rfl ?_
        refine E_getR dX3_reckon_36 f_X3_9 rfl (Nat.lt_of_lt_of_le (by decide) hN) rfl (hR _ _ _ rfl) ?_
        refine E_iload dX3_reckon_39 rfl ?_
        refine E_ialdN dX3_reckon_41 rfl (Nat.lt_of_lt_of_le (by decide) hN) (by omega) ?_
        refine E.top ((hcode pc (by omega)).trans (congrArg (fun z => nI (z + 256 * (code pc).2)) (wh_of (w := 43) ho rfl))) ?_
        refine E_sp (nI 255) dX3_reckon_42 (by decide) ?_
        refine E_iand dX3_reckon_45 ?_
        refine E.top (wd_and (by decide) hv2) ?_
        refine E_istore dX3_reckon_46 (Nat.le_of_ble_eq_true rfl) ?_
        refine E_aload_n dX3_reckon_48 rfl ?_
        refine E_getR dX3_reckon_49 f_X3_9 rfl (Nat.lt_of_lt_of_le (by decide) hN) rfl (hR _ _ _ rfl) ?_
        refine E_iload dX3_reckon_52 rfl ?_
        refine E_ialdN dX3_reckon_54 rfl (Nat.lt_of_lt_of_le (by decide) hN) (by omega) ?_
        refine E.top ((hcode pc (by omega)).trans (congrArg (fun z => nI (z + 256 * (code pc).2)) (wh_of (w := 43) ho rfl))) ?_
        refine E_bp (nI 8) dX3_reckon_55 (by decide) ?_
        refine E_iushr dX3_reckon_57 ?_
        refine E.top (wd_shr (by decide) hv2) ?_
        refine E_istore dX3_reckon_58 (Nat.le_of_ble_eq_true rfl) ?_
        refine E_incN dX3_reckon_60 rfl ?_
        refine E_iload dX3_reckon_63 rfl ?_
        refine E_bp (nI 78) dX3_reckon_65 (by decide) ?_
        refine E_cN_eq (a := 43) (b := 78) (tgt := 77) dX3_reckon_67 (by decide) (by decide) (by decide) (fun cw67 => absurd cw67 (by omega)) (fun cw67 => ?_)
        refine E_iload dX3_reckon_70 rfl ?_
        refine E_bp (nI 75) dX3_reckon_72 (by decide) ?_
        refine E_cN_ne (a := 43) (b := 75) (tgt := 133) dX3_reckon_74 (by decide) (by decide) (by decide) (fun cw74 => ?_) (fun cw74 => absurd cw74 (by omega))
        refine E_iload_n dX3_reckon_133 rfl ?_
        refine E_ic (nI 1) dX3_reckon_134 (by decide) ?_
        refine E_cN_ge (a := s.length + 2) (b := 1) (tgt := 140) dX3_reckon_135 (by omega) (by decide) (by decide) (fun cw135 => ?_) (fun cw135 => absurd cw135 (by omega))
        refine E_iload dX3_reckon_140 rfl ?_
        refine E_bp (nI 33) dX3_reckon_142 (by decide) ?_
        refine E_cN_ne (a := 43) (b := 33) (tgt := 174) dX3_reckon_144 (by decide) (by decide) (by decide) (fun cw144 => ?_) (fun cw144 => absurd cw144 (by omega))
        refine E_iload dX3_reckon_174 rfl ?_
        refine E_bp (nI 124) dX3_reckon_176 (by decide) ?_
        refine E_cN_eq (a := 43) (b := 124) (tgt := 188) dX3_reckon_178 (by decide) (by decide) (by decide) (fun cw178 => absurd cw178 (by omega)) (fun cw178 => ?_)
        refine E_iload dX3_reckon_181 rfl ?_
        refine E_bp (nI 38) dX3_reckon_183 (by decide) ?_
        refine E_cN_ne (a := 43) (b := 38) (tgt := 236) dX3_reckon_185 (by decide) (by decide) (by decide) (fun cw185 => ?_) (fun cw185 => absurd cw185 (by omega))
        refine E_iload dX3_reckon_236 rfl ?_
        refine E_bp (nI 47) dX3_reckon_238 (by decide) ?_
        refine E_cN_eq (a := 43) (b := 47) (tgt := 250) dX3_reckon_240 (by decide) (by decide) (by decide) (fun cw240 => absurd cw240 (by omega)) (fun cw240 => ?_)
        refine E_iload dX3_reckon_243 rfl ?_
        refine E_bp (nI 37) dX3_reckon_245 (by decide) ?_
        refine E_cN_ne (a := 43) (b := 37) (tgt := 265) dX3_reckon_247 (by decide) (by decide) (by decide) (fun cw247 => ?_) (fun cw247 => absurd cw247 (by omega))
        refine E_ic (nI 0) dX3_reckon_265 (by decide) ?_
        refine E_istore dX3_reckon_266 (Nat.le_of_ble_eq_true rfl) ?_
        refine E_iload_n dX3_reckon_268 rfl ?_
        refine E_ic (nI 2) dX3_reckon_269 (by decide) ?_
        refine E_cN_lt (a := s.length + 2) (b := 2) (tgt := 278) dX3_reckon_270 (by omega) (by decide) (by decide) (fun cw270 => absurd cw270 (by omega)) (fun cw270 => ?_)
        refine E_iload dX3_reckon_273 rfl ?_
        refine E_zN_eq (a := 0) (tgt := 280) dX3_reckon_275 (by decide) (by decide) (fun cw275 => ?_) (fun cw275 => absurd cw275 (by omega))
        refine E_inc (-1) dX3_reckon_280 rfl (by decide) ?_
        rw [show nI (y :: x :: s).length + (-1) = nI (s.length + 1) from pk_m1 _]
        refine E_aload_n dX3_reckon_283 rfl ?_
        refine E_getR dX3_reckon_284 f_X3_38 rfl (Nat.lt_of_lt_of_le (by decide) hN) rfl (hR _ _ _ rfl) ?_
        refine E_iload_n dX3_reckon_287 rfl ?_
        refine E_ic (nI 1) dX3_reckon_288 (by decide) ?_
        refine E_isub dX3_reckon_289 ?_
        refine E.top (pk_sub (a := s.length + 1) (b := 1) (by omega)) ?_
        refine E.top (congrArg nI (Nat.add_sub_cancel (n := s.length) (m := 1))) ?_
        refine E_iload dX3_reckon_290 rfl ?_
        refine E_aload_n dX3_reckon_292 rfl ?_
        refine E_getR dX3_reckon_293 f_X3_38 rfl (Nat.lt_of_lt_of_le (by decide) hN) rfl (hR _ _ _ rfl) ?_
        refine E_iload_n dX3_reckon_296 rfl ?_
        refine E_ic (nI 1) dX3_reckon_297 (by decide) ?_
        refine E_isub dX3_reckon_298 ?_
        refine E.top (pk_sub (a := s.length + 1) (b := 1) (by omega)) ?_
        refine E.top (congrArg nI (Nat.add_sub_cancel (n := s.length) (m := 1))) ?_
        refine E_ialdN dX3_reckon_299 rfl (Nat.lt_of_lt_of_le (by decide) hN) (by omega) ?_
        refine E.top (hsk.2.1) ?_
        refine E_aload_n dX3_reckon_300 rfl ?_
        refine E_getR dX3_reckon_301 f_X3_38 rfl (Nat.lt_of_lt_of_le (by decide) hN) rfl (hR _ _ _ rfl) ?_
        refine E_iload_n dX3_reckon_304 rfl ?_
        refine E_ialdN dX3_reckon_305 rfl (Nat.lt_of_lt_of_le (by decide) hN) (by omega) ?_
        refine E.top (hsk.1) ?_
        refine E_callS (As := [_, _, _]) (kc' := 0) (ks' := 0) (kc := 0) (ks := 0) dX3_reckon_306 ok_X3_joined w_X3_63 st_X3_joined rfl rfl rfl (Nat.le_of_ble_eq_true rfl) (Nat.le_of_ble_eq_true rfl) (Nat.le_refl _) (x_joined2 ?_)
        refine E_iastN dX3_reckon_309 rfl (Nat.lt_of_lt_of_le (by decide) hN) (by omega) ?_
        refine E_incN dX3_reckon_310 rfl ?_
        refine E_goto (tgt := 8) dX3_reckon_313 (by decide) ?_
        refine E.mask [true, true, true, true, true, true, false, false, false] ?_
        exact ih (step + 1) (pc + 1) (rkn 2 x y :: s) _ (by omega) h2 (fun i hi => (congrFun (up2_o I 10 _ _ 4 (by decide)) i).trans (hcode i hi)) (fun j hj => (congrFun (up2_o I 10 _ _ 9 (by decide)) j).trans (hfa j hj)) (hsk.2.2.push _) (by omega) (by have : s.length + 2 ≤ 32 := hlen; show s.length + 1 ≤ 32; omega) (fun I2 f2 => hQ I2 (fun x hx => (f2 x hx).trans (up2_o I 10 _ _ x hx)))
      · -- 3
        obtain ⟨y, x, s, rfl, h2⟩ := ev_3 cp ho h
        have hl2 : s.length + 2 ≤ 32 := hlen
        refine E_iload dX3_reckon_8 rfl ?_
        refine E_sp (nI 240) dX3_reckon_10 (by decide) ?_
        refine E_cN_ge (a := step) (b := 240) (tgt := 316) dX3_reckon_13 (by omega) (by decide) (by decide) (fun cw13 => absurd cw13 (by omega)) (fun cw13 => ?_)
        refine E_iload dX3_reckon_16 rfl ?_
        refine E_zN_lt (a := pc) (tgt := 316) dX3_reckon_18 (by omega) (by decide) (fun cw18 => cw18.elim) (fun cw18 => ?_)
        refine E_iload dX3_reckon_21 rfl ?_
        refine E_iload_n dX3_reckon_23 rfl ?_
        refine E_cN_ge (a := pc) (b := to) (tgt := 316) dX3_reckon_24 (by omega) (by omega) (by decide) (fun cw24 => absurd cw24 (by omega)) (fun cw24 => ?_)
        refine E_iload dX3_reckon_27 rfl ?_
        refine E_sp (nI 240) dX3_reckon_29 (by decide) ?_
        refine E_cN_ge (a := pc) (b := 240) (tgt := 316) dX3_reckon_32 (by omega) (by decide) (by decide) (fun cw32 => absurd cw32 (by omega)) (fun cw32 => ?_)
        refine E_aload_n dX3_reckon_35 rfl ?_
        refine E_getR dX3_reckon_36 f_X3_9 rfl (Nat.lt_of_lt_of_le (by decide) hN) rfl (hR _ _ _ rfl) ?_
        refine E_iload dX3_reckon_39 rfl ?_
        refine E_ialdN dX3_reckon_41 rfl (Nat.lt_of_lt_of_le (by decide) hN) (by omega) ?_
        refine E.top ((hcode pc (by omega)).trans (congrArg (fun z => nI (z + 256 * (code pc).2)) (wh_of (w := 45) ho rfl))) ?_
        refine E_sp (nI 255) dX3_reckon_42 (by decide) ?_
        refine E_iand dX3_reckon_45 ?_
        refine E.top (wd_and (by decide) hv2) ?_
        refine E_istore dX3_reckon_46 (Nat.le_of_ble_eq_true rfl) ?_
        refine E_aload_n dX3_reckon_48 rfl ?_
        refine E_getR dX3_reckon_49 f_X3_9 rfl (Nat.lt_of_lt_of_le (by decide) hN) rfl (hR _ _ _ rfl) ?_
        refine E_iload dX3_reckon_52 rfl ?_
        refine E_ialdN dX3_reckon_54 rfl (Nat.lt_of_lt_of_le (by decide) hN) (by omega) ?_
        refine E.top ((hcode pc (by omega)).trans (congrArg (fun z => nI (z + 256 * (code pc).2)) (wh_of (w := 45) ho rfl))) ?_
        refine E_bp (nI 8) dX3_reckon_55 (by decide) ?_
        refine E_iushr dX3_reckon_57 ?_
        refine E.top (wd_shr (by decide) hv2) ?_
        refine E_istore dX3_reckon_58 (Nat.le_of_ble_eq_true rfl) ?_
        refine E_incN dX3_reckon_60 rfl ?_
        refine E_iload dX3_reckon_63 rfl ?_
        refine E_bp (nI 78) dX3_reckon_65 (by decide) ?_
        refine E_cN_eq (a := 45) (b := 78) (tgt := 77) dX3_reckon_67 (by decide) (by decide) (by decide) (fun cw67 => absurd cw67 (by omega)) (fun cw67 => ?_)
        refine E_iload dX3_reckon_70 rfl ?_
        refine E_bp (nI 75) dX3_reckon_72 (by decide) ?_
        refine E_cN_ne (a := 45) (b := 75) (tgt := 133) dX3_reckon_74 (by decide) (by decide) (by decide) (fun cw74 => ?_) (fun cw74 => absurd cw74 (by omega))
        refine E_iload_n dX3_reckon_133 rfl ?_
        refine E_ic (nI 1) dX3_reckon_134 (by decide) ?_
        refine E_cN_ge (a := s.length + 2) (b := 1) (tgt := 140) dX3_reckon_135 (by omega) (by decide) (by decide) (fun cw135 => ?_) (fun cw135 => absurd cw135 (by omega))
        refine E_iload dX3_reckon_140 rfl ?_
        refine E_bp (nI 33) dX3_reckon_142 (by decide) ?_
        refine E_cN_ne (a := 45) (b := 33) (tgt := 174) dX3_reckon_144 (by decide) (by decide) (by decide) (fun cw144 => ?_) (fun cw144 => absurd cw144 (by omega))
        refine E_iload dX3_reckon_174 rfl ?_
        refine E_bp (nI 124) dX3_reckon_176 (by decide) ?_
        refine E_cN_eq (a := 45) (b := 124) (tgt := 188) dX3_reckon_178 (by decide) (by decide) (by decide) (fun cw178 => absurd cw178 (by omega)) (fun cw178 => ?_)
        refine E_iload dX3_reckon_181 rfl ?_
        refine E_bp (nI 38) dX3_reckon_183 (by decide) ?_
        refine E_cN_ne (a := 45) (b := 38) (tgt := 236) dX3_reckon_185 (by decide) (by decide) (by decide) (fun cw185 => ?_) (fun cw185 => absurd cw185 (by omega))
        refine E_iload dX3_reckon_236 rfl ?_
        refine E_bp (nI 47) dX3_reckon_238 (by decide) ?_
        refine E_cN_eq (a := 45) (b := 47) (tgt := 250) dX3_reckon_240 (by decide) (by decide) (by decide) (fun cw240 => absurd cw240 (by omega)) (fun cw240 => ?_)
        refine E_iload dX3_reckon_243 rfl ?_
        refine E_bp (nI 37) dX3_reckon_245 (by decide) ?_
        refine E_cN_ne (a := 45) (b := 37) (tgt := 265) dX3_reckon_247 (by decide) (by decide) (by decide) (fun cw247 => ?_) (fun cw247 => absurd cw247 (by omega))
        refine E_ic (nI 0) dX3_reckon_265 (by decide) ?_
        refine E_istore dX3_reckon_266 (Nat.le_of_ble_eq_true rfl) ?_
        refine E_iload_n dX3_reckon_268 rfl ?_
        refine E_ic (nI 2) dX3_reckon_269 (by decide) ?_
        refine E_cN_lt (a := s.length + 2) (b := 2) (tgt := 278) dX3_reckon_270 (by omega) (by decide) (by decide) (fun cw270 => absurd cw270 (by omega)) (fun cw270 => ?_)
        refine E_iload dX3_reckon_273 rfl ?_
        refine E_zN_eq (a := 0) (tgt := 280) dX3_reckon_275 (by decide) (by decide) (fun cw275 => ?_) (fun cw275 => absurd cw275 (by omega))
        refine E_inc (-1) dX3_reckon_280 rfl (by decide) ?_
        rw [show nI (y :: x :: s).length + (-1) = nI (s.length + 1) from pk_m1 _]
        refine E_aload_n dX3_reckon_283 rfl ?_
        refine E_getR dX3_reckon_284 f_X3_38 rfl (Nat.lt_of_lt_of_le (by decide) hN) rfl (hR _ _ _ rfl) ?_
        refine E_iload_n dX3_reckon_287 rfl ?_
        refine E_ic (nI 1) dX3_reckon_288 (by decide) ?_
        refine E_isub dX3_reckon_289 ?_
        refine E.top (pk_sub (a := s.length + 1) (b := 1) (by omega)) ?_
        refine E.top (congrArg nI (Nat.add_sub_cancel (n := s.length) (m := 1))) ?_
        refine E_iload dX3_reckon_290 rfl ?_
        refine E_aload_n dX3_reckon_292 rfl ?_
        refine E_getR dX3_reckon_293 f_X3_38 rfl (Nat.lt_of_lt_of_le (by decide) hN) rfl (hR _ _ _ rfl) ?_
        refine E_iload_n dX3_reckon_296 rfl ?_
        refine E_ic (nI 1) dX3_reckon_297 (by decide) ?_
        refine E_isub dX3_reckon_298 ?_
        refine E.top (pk_sub (a := s.length + 1) (b := 1) (by omega)) ?_
        refine E.top (congrArg nI (Nat.add_sub_cancel (n := s.length) (m := 1))) ?_
        refine E_ialdN dX3_reckon_299 rfl (Nat.lt_of_lt_of_le (by decide) hN) (by omega) ?_
        refine E.top (hsk.2.1) ?_
        refine E_aload_n dX3_reckon_300 rfl ?_
        refine E_getR dX3_reckon_301 f_X3_38 rfl (Nat.lt_of_lt_of_le (by decide) hN) rfl (hR _ _ _ rfl) ?_
        refine E_iload_n dX3_reckon_304 rfl ?_
        refine E_ialdN dX3_reckon_305 rfl (Nat.lt_of_lt_of_le (by decide) hN) (by omega) ?_
        refine E.top (hsk.1) ?_
        refine E_callS (As := [_, _, _]) (kc' := 0) (ks' := 0) (kc := 0) (ks := 0) dX3_reckon_306 ok_X3_joined w_X3_63 st_X3_joined rfl rfl rfl (Nat.le_of_ble_eq_true rfl) (Nat.le_of_ble_eq_true rfl) (Nat.le_refl _) (x_joined3 ?_)
        refine E_iastN dX3_reckon_309 rfl (Nat.lt_of_lt_of_le (by decide) hN) (by omega) ?_
        refine E_incN dX3_reckon_310 rfl ?_
        refine E_goto (tgt := 8) dX3_reckon_313 (by decide) ?_
        refine E.mask [true, true, true, true, true, true, false, false, false] ?_
        exact ih (step + 1) (pc + 1) (rkn 3 x y :: s) _ (by omega) h2 (fun i hi => (congrFun (up2_o I 10 _ _ 4 (by decide)) i).trans (hcode i hi)) (fun j hj => (congrFun (up2_o I 10 _ _ 9 (by decide)) j).trans (hfa j hj)) (hsk.2.2.push _) (by omega) (by have : s.length + 2 ≤ 32 := hlen; show s.length + 1 ≤ 32; omega) (fun I2 f2 => hQ I2 (fun x hx => (f2 x hx).trans (up2_o I 10 _ _ x hx)))
      · -- 4
        obtain ⟨y, x, s, rfl, h2⟩ := ev_4 cp ho h
        have hl2 : s.length + 2 ≤ 32 := hlen
        refine E_iload dX3_reckon_8 rfl ?_
        refine E_sp (nI 240) dX3_reckon_10 (by decide) ?_
        refine E_cN_ge (a := step) (b := 240) (tgt := 316) dX3_reckon_13 (by omega) (by decide) (by decide) (fun cw13 => absurd cw13 (by omega)) (fun cw13 => ?_)
        refine E_iload dX3_reckon_16 rfl ?_
        refine E_zN_lt (a := pc) (tgt := 316) dX3_reckon_18 (by omega) (by decide) (fun cw18 => cw18.elim) (fun cw18 => ?_)
        refine E_iload dX3_reckon_21 rfl ?_
        refine E_iload_n dX3_reckon_23 rfl ?_
        refine E_cN_ge (a := pc) (b := to) (tgt := 316) dX3_reckon_24 (by omega) (by omega) (by decide) (fun cw24 => absurd cw24 (by omega)) (fun cw24 => ?_)
        refine E_iload dX3_reckon_27 rfl ?_
        refine E_sp (nI 240) dX3_reckon_29 (by decide) ?_
        refine E_cN_ge (a := pc) (b := 240) (tgt := 316) dX3_reckon_32 (by omega) (by decide) (by decide) (fun cw32 => absurd cw32 (by omega)) (fun cw32 => ?_)
        refine E_aload_n dX3_reckon_35 rfl ?_
        refine E_getR dX3_reckon_36 f_X3_9 rfl (Nat.lt_of_lt_of_le (by decide) hN) rfl (hR _ _ _ rfl) ?_
        refine E_iload dX3_reckon_39 rfl ?_
        refine E_ialdN dX3_reckon_41 rfl (Nat.lt_of_lt_of_le (by decide) hN) (by omega) ?_
        refine E.top ((hcode pc (by omega)).trans (congrArg (fun z => nI (z + 256 * (code pc).2)) (wh_of (w := 42) ho rfl))) ?_
        refine E_sp (nI 255) dX3_reckon_42 (by decide) ?_
        refine E_iand dX3_reckon_45 ?_
        refine E.top (wd_and (by decide) hv2) ?_
        refine E_istore dX3_reckon_46 (Nat.le_of_ble_eq_true rfl) ?_
        refine E_aload_n dX3_reckon_48 rfl ?_
        refine E_getR dX3_reckon_49 f_X3_9 rfl (Nat.lt_of_lt_of_le (by decide) hN) rfl (hR _ _ _ rfl) ?_
        refine E_iload dX3_reckon_52 rfl ?_
        refine E_ialdN dX3_reckon_54 rfl (Nat.lt_of_lt_of_le (by decide) hN) (by omega) ?_
        refine E.top ((hcode pc (by omega)).trans (congrArg (fun z => nI (z + 256 * (code pc).2)) (wh_of (w := 42) ho rfl))) ?_
        refine E_bp (nI 8) dX3_reckon_55 (by decide) ?_
        refine E_iushr dX3_reckon_57 ?_
        refine E.top (wd_shr (by decide) hv2) ?_
        refine E_istore dX3_reckon_58 (Nat.le_of_ble_eq_true rfl) ?_
        refine E_incN dX3_reckon_60 rfl ?_
        refine E_iload dX3_reckon_63 rfl ?_
        refine E_bp (nI 78) dX3_reckon_65 (by decide) ?_
        refine E_cN_eq (a := 42) (b := 78) (tgt := 77) dX3_reckon_67 (by decide) (by decide) (by decide) (fun cw67 => absurd cw67 (by omega)) (fun cw67 => ?_)
        refine E_iload dX3_reckon_70 rfl ?_
        refine E_bp (nI 75) dX3_reckon_72 (by decide) ?_
        refine E_cN_ne (a := 42) (b := 75) (tgt := 133) dX3_reckon_74 (by decide) (by decide) (by decide) (fun cw74 => ?_) (fun cw74 => absurd cw74 (by omega))
        refine E_iload_n dX3_reckon_133 rfl ?_
        refine E_ic (nI 1) dX3_reckon_134 (by decide) ?_
        refine E_cN_ge (a := s.length + 2) (b := 1) (tgt := 140) dX3_reckon_135 (by omega) (by decide) (by decide) (fun cw135 => ?_) (fun cw135 => absurd cw135 (by omega))
        refine E_iload dX3_reckon_140 rfl ?_
        refine E_bp (nI 33) dX3_reckon_142 (by decide) ?_
        refine E_cN_ne (a := 42) (b := 33) (tgt := 174) dX3_reckon_144 (by decide) (by decide) (by decide) (fun cw144 => ?_) (fun cw144 => absurd cw144 (by omega))
        refine E_iload dX3_reckon_174 rfl ?_
        refine E_bp (nI 124) dX3_reckon_176 (by decide) ?_
        refine E_cN_eq (a := 42) (b := 124) (tgt := 188) dX3_reckon_178 (by decide) (by decide) (by decide) (fun cw178 => absurd cw178 (by omega)) (fun cw178 => ?_)
        refine E_iload dX3_reckon_181 rfl ?_
        refine E_bp (nI 38) dX3_reckon_183 (by decide) ?_
        refine E_cN_ne (a := 42) (b := 38) (tgt := 236) dX3_reckon_185 (by decide) (by decide) (by decide) (fun cw185 => ?_) (fun cw185 => absurd cw185 (by omega))
        refine E_iload dX3_reckon_236 rfl ?_
        refine E_bp (nI 47) dX3_reckon_238 (by decide) ?_
        refine E_cN_eq (a := 42) (b := 47) (tgt := 250) dX3_reckon_240 (by decide) (by decide) (by decide) (fun cw240 => absurd cw240 (by omega)) (fun cw240 => ?_)
        refine E_iload dX3_reckon_243 rfl ?_
        refine E_bp (nI 37) dX3_reckon_245 (by decide) ?_
        refine E_cN_ne (a := 42) (b := 37) (tgt := 265) dX3_reckon_247 (by decide) (by decide) (by decide) (fun cw247 => ?_) (fun cw247 => absurd cw247 (by omega))
        refine E_ic (nI 0) dX3_reckon_265 (by decide) ?_
        refine E_istore dX3_reckon_266 (Nat.le_of_ble_eq_true rfl) ?_
        refine E_iload_n dX3_reckon_268 rfl ?_
        refine E_ic (nI 2) dX3_reckon_269 (by decide) ?_
        refine E_cN_lt (a := s.length + 2) (b := 2) (tgt := 278) dX3_reckon_270 (by omega) (by decide) (by decide) (fun cw270 => absurd cw270 (by omega)) (fun cw270 => ?_)
        refine E_iload dX3_reckon_273 rfl ?_
        refine E_zN_eq (a := 0) (tgt := 280) dX3_reckon_275 (by decide) (by decide) (fun cw275 => ?_) (fun cw275 => absurd cw275 (by omega))
        refine E_inc (-1) dX3_reckon_280 rfl (by decide) ?_
        rw [show nI (y :: x :: s).length + (-1) = nI (s.length + 1) from pk_m1 _]
        refine E_aload_n dX3_reckon_283 rfl ?_
        refine E_getR dX3_reckon_284 f_X3_38 rfl (Nat.lt_of_lt_of_le (by decide) hN) rfl (hR _ _ _ rfl) ?_
        refine E_iload_n dX3_reckon_287 rfl ?_
        refine E_ic (nI 1) dX3_reckon_288 (by decide) ?_
        refine E_isub dX3_reckon_289 ?_
        refine E.top (pk_sub (a := s.length + 1) (b := 1) (by omega)) ?_
        refine E.top (congrArg nI (Nat.add_sub_cancel (n := s.length) (m := 1))) ?_
        refine E_iload dX3_reckon_290 rfl ?_
        refine E_aload_n dX3_reckon_292 rfl ?_
        refine E_getR dX3_reckon_293 f_X3_38 rfl (Nat.lt_of_lt_of_le (by decide) hN) rfl (hR _ _ _ rfl) ?_
        refine E_iload_n dX3_reckon_296 rfl ?_
        refine E_ic (nI 1) dX3_reckon_297 (by decide) ?_
        refine E_isub dX3_reckon_298 ?_
        refine E.top (pk_sub (a := s.length + 1) (b := 1) (by omega)) ?_
        refine E.top (congrArg nI (Nat.add_sub_cancel (n := s.length) (m := 1))) ?_
        refine E_ialdN dX3_reckon_299 rfl (Nat.lt_of_lt_of_le (by decide) hN) (by omega) ?_
        refine E.top (hsk.2.1) ?_
        refine E_aload_n dX3_reckon_300 rfl ?_
        refine E_getR dX3_reckon_301 f_X3_38 rfl (Nat.lt_of_lt_of_le (by decide) hN) rfl (hR _ _ _ rfl) ?_
        refine E_iload_n dX3_reckon_304 rfl ?_
        refine E_ialdN dX3_reckon_305 rfl (Nat.lt_of_lt_of_le (by decide) hN) (by omega) ?_
        refine E.top (hsk.1) ?_
        refine E_callS (As := [_, _, _]) (kc' := 0) (ks' := 0) (kc := 0) (ks := 0) dX3_reckon_306 ok_X3_joined w_X3_63 st_X3_joined rfl rfl rfl (Nat.le_of_ble_eq_true rfl) (Nat.le_of_ble_eq_true rfl) (Nat.le_refl _) (x_joined4 ?_)
        refine E_iastN dX3_reckon_309 rfl (Nat.lt_of_lt_of_le (by decide) hN) (by omega) ?_
        refine E_incN dX3_reckon_310 rfl ?_
        refine E_goto (tgt := 8) dX3_reckon_313 (by decide) ?_
        refine E.mask [true, true, true, true, true, true, false, false, false] ?_
        exact ih (step + 1) (pc + 1) (rkn 4 x y :: s) _ (by omega) h2 (fun i hi => (congrFun (up2_o I 10 _ _ 4 (by decide)) i).trans (hcode i hi)) (fun j hj => (congrFun (up2_o I 10 _ _ 9 (by decide)) j).trans (hfa j hj)) (hsk.2.2.push _) (by omega) (by have : s.length + 2 ≤ 32 := hlen; show s.length + 1 ≤ 32; omega) (fun I2 f2 => hQ I2 (fun x hx => (f2 x hx).trans (up2_o I 10 _ _ x hx)))
      · -- 5
        obtain ⟨y, x, s, rfl, ⟨hy, hv0⟩ | ⟨hy, h2⟩⟩ := ev_5 cp ho h
        · skip
          have hl2 : s.length + 2 ≤ 32 := hlen
          refine E_iload dX3_reckon_8 rfl ?_
          refine E_sp (nI 240) dX3_reckon_10 (by decide) ?_
          refine E_cN_ge (a := step) (b := 240) (tgt := 316) dX3_reckon_13 (by omega) (by decide) (by decide) (fun cw13 => absurd cw13 (by omega)) (fun cw13 => ?_)
          refine E_iload dX3_reckon_16 rfl ?_
          refine E_zN_lt (a := pc) (tgt := 316) dX3_reckon_18 (by omega) (by decide) (fun cw18 => cw18.elim) (fun cw18 => ?_)
          refine E_iload dX3_reckon_21 rfl ?_
          refine E_iload_n dX3_reckon_23 rfl ?_
          refine E_cN_ge (a := pc) (b := to) (tgt := 316) dX3_reckon_24 (by omega) (by omega) (by decide) (fun cw24 => absurd cw24 (by omega)) (fun cw24 => ?_)
          refine E_iload dX3_reckon_27 rfl ?_
          refine E_sp (nI 240) dX3_reckon_29 (by decide) ?_
          refine E_cN_ge (a := pc) (b := 240) (tgt := 316) dX3_reckon_32 (by omega) (by decide) (by decide) (fun cw32 => absurd cw32 (by omega)) (fun cw32 => ?_)
          refine E_aload_n dX3_reckon_35 rfl ?_
          refine E_getR dX3_reckon_36 f_X3_9 rfl (Nat.lt_of_lt_of_le (by decide) hN) rfl (hR _ _ _ rfl) ?_
          refine E_iload dX3_reckon_39 rfl ?_
          refine E_ialdN dX3_reckon_41 rfl (Nat.lt_of_lt_of_le (by decide) hN) (by omega) ?_
          refine E.top ((hcode pc (by omega)).trans (congrArg (fun z => nI (z + 256 * (code pc).2)) (wh_of (w := 47) ho rfl))) ?_
          refine E_sp (nI 255) dX3_reckon_42 (by decide) ?_
          refine E_iand dX3_reckon_45 ?_
          refine E.top (wd_and (by decide) hv2) ?_
          refine E_istore dX3_reckon_46 (Nat.le_of_ble_eq_true rfl) ?_
          refine E_aload_n dX3_reckon_48 rfl ?_
          refine E_getR dX3_reckon_49 f_X3_9 rfl (Nat.lt_of_lt_of_le (by decide) hN) rfl (hR _ _ _ rfl) ?_
          refine E_iload dX3_reckon_52 rfl ?_
          refine E_ialdN dX3_reckon_54 rfl (Nat.lt_of_lt_of_le (by decide) hN) (by omega) ?_
          refine E.top ((hcode pc (by omega)).trans (congrArg (fun z => nI (z + 256 * (code pc).2)) (wh_of (w := 47) ho rfl))) ?_
          refine E_bp (nI 8) dX3_reckon_55 (by decide) ?_
          refine E_iushr dX3_reckon_57 ?_
          refine E.top (wd_shr (by decide) hv2) ?_
          refine E_istore dX3_reckon_58 (Nat.le_of_ble_eq_true rfl) ?_
          refine E_incN dX3_reckon_60 rfl ?_
          refine E_iload dX3_reckon_63 rfl ?_
          refine E_bp (nI 78) dX3_reckon_65 (by decide) ?_
          refine E_cN_eq (a := 47) (b := 78) (tgt := 77) dX3_reckon_67 (by decide) (by decide) (by decide) (fun cw67 => absurd cw67 (by omega)) (fun cw67 => ?_)
          refine E_iload dX3_reckon_70 rfl ?_
          refine E_bp (nI 75) dX3_reckon_72 (by decide) ?_
          refine E_cN_ne (a := 47) (b := 75) (tgt := 133) dX3_reckon_74 (by decide) (by decide) (by decide) (fun cw74 => ?_) (fun cw74 => absurd cw74 (by omega))
          refine E_iload_n dX3_reckon_133 rfl ?_
          refine E_ic (nI 1) dX3_reckon_134 (by decide) ?_
          refine E_cN_ge (a := s.length + 2) (b := 1) (tgt := 140) dX3_reckon_135 (by omega) (by decide) (by decide) (fun cw135 => ?_) (fun cw135 => absurd cw135 (by omega))
          refine E_iload dX3_reckon_140 rfl ?_
          refine E_bp (nI 33) dX3_reckon_142 (by decide) ?_
          refine E_cN_ne (a := 47) (b := 33) (tgt := 174) dX3_reckon_144 (by decide) (by decide) (by decide) (fun cw144 => ?_) (fun cw144 => absurd cw144 (by omega))
          refine E_iload dX3_reckon_174 rfl ?_
          refine E_bp (nI 124) dX3_reckon_176 (by decide) ?_
          refine E_cN_eq (a := 47) (b := 124) (tgt := 188) dX3_reckon_178 (by decide) (by decide) (by decide) (fun cw178 => absurd cw178 (by omega)) (fun cw178 => ?_)
          refine E_iload dX3_reckon_181 rfl ?_
          refine E_bp (nI 38) dX3_reckon_183 (by decide) ?_
          refine E_cN_ne (a := 47) (b := 38) (tgt := 236) dX3_reckon_185 (by decide) (by decide) (by decide) (fun cw185 => ?_) (fun cw185 => absurd cw185 (by omega))
          refine E_iload dX3_reckon_236 rfl ?_
          refine E_bp (nI 47) dX3_reckon_238 (by decide) ?_
          refine E_cN_eq (a := 47) (b := 47) (tgt := 250) dX3_reckon_240 (by decide) (by decide) (by decide) (fun cw240 => ?_) (fun cw240 => absurd cw240 (by omega))
          refine E_aload_n dX3_reckon_250 rfl ?_
          refine E_getR dX3_reckon_251 f_X3_38 rfl (Nat.lt_of_lt_of_le (by decide) hN) rfl (hR _ _ _ rfl) ?_
          refine E_iload_n dX3_reckon_254 rfl ?_
          refine E_ic (nI 1) dX3_reckon_255 (by decide) ?_
          refine E_isub dX3_reckon_256 ?_
          refine E.top (pk_sub (a := s.length + 2) (b := 1) (by omega)) ?_
          refine E.top (congrArg nI (show s.length + 2 - 1 = s.length + 1 by omega)) ?_
          refine E_ialdN dX3_reckon_257 rfl (Nat.lt_of_lt_of_le (by decide) hN) (by omega) ?_
          refine E.top (hsk.1) ?_
          refine E_if_ne (tgt := 265) dX3_reckon_258 (by decide) (fun cw258 => by first | exact absurd cw258 (fun z => z hy) | exact absurd (fun z => z hy) cw258) (fun cw258 => ?_)
          refine E_ic (nI 1) dX3_reckon_261 (by decide) ?_
          refine E_goto (tgt := 266) dX3_reckon_262 (by decide) ?_
          refine E_istore dX3_reckon_266 (Nat.le_of_ble_eq_true rfl) ?_
          refine E_iload_n dX3_reckon_268 rfl ?_
          refine E_ic (nI 2) dX3_reckon_269 (by decide) ?_
          refine E_cN_lt (a := s.length + 2) (b := 2) (tgt := 278) dX3_reckon_270 (by omega) (by decide) (by decide) (fun cw270 => absurd cw270 (by omega)) (fun cw270 => ?_)
          refine E_iload dX3_reckon_273 rfl ?_
          refine E_zN_eq (a := 1) (tgt := 280) dX3_reckon_275 (by decide) (by decide) (fun cw275 => absurd cw275 (by omega)) (fun cw275 => ?_)
          refine E_ic (nI 0) dX3_reckon_278 (by decide) ?_
          exact E_iret dX3_reckon_279 rfl (by rw [hv0] at hQ; exact hQ I (fun _ _ => rfl))
        · skip
          have hl2 : s.length + 2 ≤ 32 := hlen
          refine E_iload dX3_reckon_8 rfl ?_
          refine E_sp (nI 240) dX3_reckon_10 (by decide) ?_
          refine E_cN_ge (a := step) (b := 240) (tgt := 316) dX3_reckon_13 (by omega) (by decide) (by decide) (fun cw13 => absurd cw13 (by omega)) (fun cw13 => ?_)
          refine E_iload dX3_reckon_16 rfl ?_
          refine E_zN_lt (a := pc) (tgt := 316) dX3_reckon_18 (by omega) (by decide) (fun cw18 => cw18.elim) (fun cw18 => ?_)
          refine E_iload dX3_reckon_21 rfl ?_
          refine E_iload_n dX3_reckon_23 rfl ?_
          refine E_cN_ge (a := pc) (b := to) (tgt := 316) dX3_reckon_24 (by omega) (by omega) (by decide) (fun cw24 => absurd cw24 (by omega)) (fun cw24 => ?_)
          refine E_iload dX3_reckon_27 rfl ?_
          refine E_sp (nI 240) dX3_reckon_29 (by decide) ?_
          refine E_cN_ge (a := pc) (b := 240) (tgt := 316) dX3_reckon_32 (by omega) (by decide) (by decide) (fun cw32 => absurd cw32 (by omega)) (fun cw32 => ?_)
          refine E_aload_n dX3_reckon_35 rfl ?_
          refine E_getR dX3_reckon_36 f_X3_9 rfl (Nat.lt_of_lt_of_le (by decide) hN) rfl (hR _ _ _ rfl) ?_
          refine E_iload dX3_reckon_39 rfl ?_
          refine E_ialdN dX3_reckon_41 rfl (Nat.lt_of_lt_of_le (by decide) hN) (by omega) ?_
          refine E.top ((hcode pc (by omega)).trans (congrArg (fun z => nI (z + 256 * (code pc).2)) (wh_of (w := 47) ho rfl))) ?_
          refine E_sp (nI 255) dX3_reckon_42 (by decide) ?_
          refine E_iand dX3_reckon_45 ?_
          refine E.top (wd_and (by decide) hv2) ?_
          refine E_istore dX3_reckon_46 (Nat.le_of_ble_eq_true rfl) ?_
          refine E_aload_n dX3_reckon_48 rfl ?_
          refine E_getR dX3_reckon_49 f_X3_9 rfl (Nat.lt_of_lt_of_le (by decide) hN) rfl (hR _ _ _ rfl) ?_
          refine E_iload dX3_reckon_52 rfl ?_
          refine E_ialdN dX3_reckon_54 rfl (Nat.lt_of_lt_of_le (by decide) hN) (by omega) ?_
          refine E.top ((hcode pc (by omega)).trans (congrArg (fun z => nI (z + 256 * (code pc).2)) (wh_of (w := 47) ho rfl))) ?_
          refine E_bp (nI 8) dX3_reckon_55 (by decide) ?_
          refine E_iushr dX3_reckon_57 ?_
          refine E.top (wd_shr (by decide) hv2) ?_
          refine E_istore dX3_reckon_58 (Nat.le_of_ble_eq_true rfl) ?_
          refine E_incN dX3_reckon_60 rfl ?_
          refine E_iload dX3_reckon_63 rfl ?_
          refine E_bp (nI 78) dX3_reckon_65 (by decide) ?_
          refine E_cN_eq (a := 47) (b := 78) (tgt := 77) dX3_reckon_67 (by decide) (by decide) (by decide) (fun cw67 => absurd cw67 (by omega)) (fun cw67 => ?_)
          refine E_iload dX3_reckon_70 rfl ?_
          refine E_bp (nI 75) dX3_reckon_72 (by decide) ?_
          refine E_cN_ne (a := 47) (b := 75) (tgt := 133) dX3_reckon_74 (by decide) (by decide) (by decide) (fun cw74 => ?_) (fun cw74 => absurd cw74 (by omega))
          refine E_iload_n dX3_reckon_133 rfl ?_
          refine E_ic (nI 1) dX3_reckon_134 (by decide) ?_
          refine E_cN_ge (a := s.length + 2) (b := 1) (tgt := 140) dX3_reckon_135 (by omega) (by decide) (by decide) (fun cw135 => ?_) (fun cw135 => absurd cw135 (by omega))
          refine E_iload dX3_reckon_140 rfl ?_
          refine E_bp (nI 33) dX3_reckon_142 (by decide) ?_
          refine E_cN_ne (a := 47) (b := 33) (tgt := 174) dX3_reckon_144 (by decide) (by decide) (by decide) (fun cw144 => ?_) (fun cw144 => absurd cw144 (by omega))
          refine E_iload dX3_reckon_174 rfl ?_
          refine E_bp (nI 124) dX3_reckon_176 (by decide) ?_
          refine E_cN_eq (a := 47) (b := 124) (tgt := 188) dX3_reckon_178 (by decide) (by decide) (by decide) (fun cw178 => absurd cw178 (by omega)) (fun cw178 => ?_)
          refine E_iload dX3_reckon_181 rfl ?_
          refine E_bp (nI 38) dX3_reckon_183 (by decide) ?_
          refine E_cN_ne (a := 47) (b := 38) (tgt := 236) dX3_reckon_185 (by decide) (by decide) (by decide) (fun cw185 => ?_) (fun cw185 => absurd cw185 (by omega))
          refine E_iload dX3_reckon_236 rfl ?_
          refine E_bp (nI 47) dX3_reckon_238 (by decide) ?_
          refine E_cN_eq (a := 47) (b := 47) (tgt := 250) dX3_reckon_240 (by decide) (by decide) (by decide) (fun cw240 => ?_) (fun cw240 => absurd cw240 (by omega))
          refine E_aload_n dX3_reckon_250 rfl ?_
          refine E_getR dX3_reckon_251 f_X3_38 rfl (Nat.lt_of_lt_of_le (by decide) hN) rfl (hR _ _ _ rfl) ?_
          refine E_iload_n dX3_reckon_254 rfl ?_
          refine E_ic (nI 1) dX3_reckon_255 (by decide) ?_
          refine E_isub dX3_reckon_256 ?_
          refine E.top (pk_sub (a := s.length + 2) (b := 1) (by omega)) ?_
          refine E.top (congrArg nI (show s.length + 2 - 1 = s.length + 1 by omega)) ?_
          refine E_ialdN dX3_reckon_257 rfl (Nat.lt_of_lt_of_le (by decide) hN) (by omega) ?_
          refine E.top (hsk.1) ?_
          refine E_if_ne (tgt := 265) dX3_reckon_258 (by decide) (fun cw258 => ?_) (fun cw258 => by first | exact absurd cw258 (hy) | exact absurd (hy) cw258)
          refine E_ic (nI 0) dX3_reckon_265 (by decide) ?_
          refine E_istore dX3_reckon_266 (Nat.le_of_ble_eq_true rfl) ?_
          refine E_iload_n dX3_reckon_268 rfl ?_
          refine E_ic (nI 2) dX3_reckon_269 (by decide) ?_
          refine E_cN_lt (a := s.length + 2) (b := 2) (tgt := 278) dX3_reckon_270 (by omega) (by decide) (by decide) (fun cw270 => absurd cw270 (by omega)) (fun cw270 => ?_)
          refine E_iload dX3_reckon_273 rfl ?_
          refine E_zN_eq (a := 0) (tgt := 280) dX3_reckon_275 (by decide) (by decide) (fun cw275 => ?_) (fun cw275 => absurd cw275 (by omega))
          refine E_inc (-1) dX3_reckon_280 rfl (by decide) ?_
          rw [show nI (y :: x :: s).length + (-1) = nI (s.length + 1) from pk_m1 _]
          refine E_aload_n dX3_reckon_283 rfl ?_
          refine E_getR dX3_reckon_284 f_X3_38 rfl (Nat.lt_of_lt_of_le (by decide) hN) rfl (hR _ _ _ rfl) ?_
          refine E_iload_n dX3_reckon_287 rfl ?_
          refine E_ic (nI 1) dX3_reckon_288 (by decide) ?_
          refine E_isub dX3_reckon_289 ?_
          refine E.top (pk_sub (a := s.length + 1) (b := 1) (by omega)) ?_
          refine E.top (congrArg nI (Nat.add_sub_cancel (n := s.length) (m := 1))) ?_
          refine E_iload dX3_reckon_290 rfl ?_
          refine E_aload_n dX3_reckon_292 rfl ?_
          refine E_getR dX3_reckon_293 f_X3_38 rfl (Nat.lt_of_lt_of_le (by decide) hN) rfl (hR _ _ _ rfl) ?_
          refine E_iload_n dX3_reckon_296 rfl ?_
          refine E_ic (nI 1) dX3_reckon_297 (by decide) ?_
          refine E_isub dX3_reckon_298 ?_
          refine E.top (pk_sub (a := s.length + 1) (b := 1) (by omega)) ?_
          refine E.top (congrArg nI (Nat.add_sub_cancel (n := s.length) (m := 1))) ?_
          refine E_ialdN dX3_reckon_299 rfl (Nat.lt_of_lt_of_le (by decide) hN) (by omega) ?_
          refine E.top (hsk.2.1) ?_
          refine E_aload_n dX3_reckon_300 rfl ?_
          refine E_getR dX3_reckon_301 f_X3_38 rfl (Nat.lt_of_lt_of_le (by decide) hN) rfl (hR _ _ _ rfl) ?_
          refine E_iload_n dX3_reckon_304 rfl ?_
          refine E_ialdN dX3_reckon_305 rfl (Nat.lt_of_lt_of_le (by decide) hN) (by omega) ?_
          refine E.top (hsk.1) ?_
          refine E_callS (As := [_, _, _]) (kc' := 0) (ks' := 0) (kc := 0) (ks := 0) dX3_reckon_306 ok_X3_joined w_X3_63 st_X3_joined rfl rfl rfl (Nat.le_of_ble_eq_true rfl) (Nat.le_of_ble_eq_true rfl) (Nat.le_refl _) (x_joined5 hy ?_)
          refine E_iastN dX3_reckon_309 rfl (Nat.lt_of_lt_of_le (by decide) hN) (by omega) ?_
          refine E_incN dX3_reckon_310 rfl ?_
          refine E_goto (tgt := 8) dX3_reckon_313 (by decide) ?_
          refine E.mask [true, true, true, true, true, true, false, false, false] ?_
          exact ih (step + 1) (pc + 1) (rkn 5 x y :: s) _ (by omega) h2 (fun i hi => (congrFun (up2_o I 10 _ _ 4 (by decide)) i).trans (hcode i hi)) (fun j hj => (congrFun (up2_o I 10 _ _ 9 (by decide)) j).trans (hfa j hj)) (hsk.2.2.push _) (by omega) (by have : s.length + 2 ≤ 32 := hlen; show s.length + 1 ≤ 32; omega) (fun I2 f2 => hQ I2 (fun x hx => (f2 x hx).trans (up2_o I 10 _ _ x hx)))
      · -- 6
        obtain ⟨y, x, s, rfl, ⟨hy, hv0⟩ | ⟨hy, h2⟩⟩ := ev_6 cp ho h
        · skip
          have hl2 : s.length + 2 ≤ 32 := hlen
          refine E_iload dX3_reckon_8 rfl ?_
          refine E_sp (nI 240) dX3_reckon_10 (by decide) ?_
          refine E_cN_ge (a := step) (b := 240) (tgt := 316) dX3_reckon_13 (by omega) (by decide) (by decide) (fun cw13 => absurd cw13 (by omega)) (fun cw13 => ?_)
          refine E_iload dX3_reckon_16 rfl ?_
          refine E_zN_lt (a := pc) (tgt := 316) dX3_reckon_18 (by omega) (by decide) (fun cw18 => cw18.elim) (fun cw18 => ?_)
          refine E_iload dX3_reckon_21 rfl ?_
          refine E_iload_n dX3_reckon_23 rfl ?_
          refine E_cN_ge (a := pc) (b := to) (tgt := 316) dX3_reckon_24 (by omega) (by omega) (by decide) (fun cw24 => absurd cw24 (by omega)) (fun cw24 => ?_)
          refine E_iload dX3_reckon_27 rfl ?_
          refine E_sp (nI 240) dX3_reckon_29 (by decide) ?_
          refine E_cN_ge (a := pc) (b := 240) (tgt := 316) dX3_reckon_32 (by omega) (by decide) (by decide) (fun cw32 => absurd cw32 (by omega)) (fun cw32 => ?_)
          refine E_aload_n dX3_reckon_35 rfl ?_
          refine E_getR dX3_reckon_36 f_X3_9 rfl (Nat.lt_of_lt_of_le (by decide) hN) rfl (hR _ _ _ rfl) ?_
          refine E_iload dX3_reckon_39 rfl ?_
          refine E_ialdN dX3_reckon_41 rfl (Nat.lt_of_lt_of_le (by decide) hN) (by omega) ?_
          refine E.top ((hcode pc (by omega)).trans (congrArg (fun z => nI (z + 256 * (code pc).2)) (wh_of (w := 37) ho rfl))) ?_
          refine E_sp (nI 255) dX3_reckon_42 (by decide) ?_
          refine E_iand dX3_reckon_45 ?_
          refine E.top (wd_and (by decide) hv2) ?_
          refine E_istore dX3_reckon_46 (Nat.le_of_ble_eq_true rfl) ?_
          refine E_aload_n dX3_reckon_48 rfl ?_
          refine E_getR dX3_reckon_49 f_X3_9 rfl (Nat.lt_of_lt_of_le (by decide) hN) rfl (hR _ _ _ rfl) ?_
          refine E_iload dX3_reckon_52 rfl ?_
          refine E_ialdN dX3_reckon_54 rfl (Nat.lt_of_lt_of_le (by decide) hN) (by omega) ?_
          refine E.top ((hcode pc (by omega)).trans (congrArg (fun z => nI (z + 256 * (code pc).2)) (wh_of (w := 37) ho rfl))) ?_
          refine E_bp (nI 8) dX3_reckon_55 (by decide) ?_
          refine E_iushr dX3_reckon_57 ?_
          refine E.top (wd_shr (by decide) hv2) ?_
          refine E_istore dX3_reckon_58 (Nat.le_of_ble_eq_true rfl) ?_
          refine E_incN dX3_reckon_60 rfl ?_
          refine E_iload dX3_reckon_63 rfl ?_
          refine E_bp (nI 78) dX3_reckon_65 (by decide) ?_
          refine E_cN_eq (a := 37) (b := 78) (tgt := 77) dX3_reckon_67 (by decide) (by decide) (by decide) (fun cw67 => absurd cw67 (by omega)) (fun cw67 => ?_)
          refine E_iload dX3_reckon_70 rfl ?_
          refine E_bp (nI 75) dX3_reckon_72 (by decide) ?_
          refine E_cN_ne (a := 37) (b := 75) (tgt := 133) dX3_reckon_74 (by decide) (by decide) (by decide) (fun cw74 => ?_) (fun cw74 => absurd cw74 (by omega))
          refine E_iload_n dX3_reckon_133 rfl ?_
          refine E_ic (nI 1) dX3_reckon_134 (by decide) ?_
          refine E_cN_ge (a := s.length + 2) (b := 1) (tgt := 140) dX3_reckon_135 (by omega) (by decide) (by decide) (fun cw135 => ?_) (fun cw135 => absurd cw135 (by omega))
          refine E_iload dX3_reckon_140 rfl ?_
          refine E_bp (nI 33) dX3_reckon_142 (by decide) ?_
          refine E_cN_ne (a := 37) (b := 33) (tgt := 174) dX3_reckon_144 (by decide) (by decide) (by decide) (fun cw144 => ?_) (fun cw144 => absurd cw144 (by omega))
          refine E_iload dX3_reckon_174 rfl ?_
          refine E_bp (nI 124) dX3_reckon_176 (by decide) ?_
          refine E_cN_eq (a := 37) (b := 124) (tgt := 188) dX3_reckon_178 (by decide) (by decide) (by decide) (fun cw178 => absurd cw178 (by omega)) (fun cw178 => ?_)
          refine E_iload dX3_reckon_181 rfl ?_
          refine E_bp (nI 38) dX3_reckon_183 (by decide) ?_
          refine E_cN_ne (a := 37) (b := 38) (tgt := 236) dX3_reckon_185 (by decide) (by decide) (by decide) (fun cw185 => ?_) (fun cw185 => absurd cw185 (by omega))
          refine E_iload dX3_reckon_236 rfl ?_
          refine E_bp (nI 47) dX3_reckon_238 (by decide) ?_
          refine E_cN_eq (a := 37) (b := 47) (tgt := 250) dX3_reckon_240 (by decide) (by decide) (by decide) (fun cw240 => absurd cw240 (by omega)) (fun cw240 => ?_)
          refine E_iload dX3_reckon_243 rfl ?_
          refine E_bp (nI 37) dX3_reckon_245 (by decide) ?_
          refine E_cN_ne (a := 37) (b := 37) (tgt := 265) dX3_reckon_247 (by decide) (by decide) (by decide) (fun cw247 => absurd cw247 (by omega)) (fun cw247 => ?_)
          refine E_aload_n dX3_reckon_250 rfl ?_
          refine E_getR dX3_reckon_251 f_X3_38 rfl (Nat.lt_of_lt_of_le (by decide) hN) rfl (hR _ _ _ rfl) ?_
          refine E_iload_n dX3_reckon_254 rfl ?_
          refine E_ic (nI 1) dX3_reckon_255 (by decide) ?_
          refine E_isub dX3_reckon_256 ?_
          refine E.top (pk_sub (a := s.length + 2) (b := 1) (by omega)) ?_
          refine E.top (congrArg nI (show s.length + 2 - 1 = s.length + 1 by omega)) ?_
          refine E_ialdN dX3_reckon_257 rfl (Nat.lt_of_lt_of_le (by decide) hN) (by omega) ?_
          refine E.top (hsk.1) ?_
          refine E_if_ne (tgt := 265) dX3_reckon_258 (by decide) (fun cw258 => by first | exact absurd cw258 (fun z => z hy) | exact absurd (fun z => z hy) cw258) (fun cw258 => ?_)
          refine E_ic (nI 1) dX3_reckon_261 (by decide) ?_
          refine E_goto (tgt := 266) dX3_reckon_262 (by decide) ?_
          refine E_istore dX3_reckon_266 (Nat.le_of_ble_eq_true rfl) ?_
          refine E_iload_n dX3_reckon_268 rfl ?_
          refine E_ic (nI 2) dX3_reckon_269 (by decide) ?_
          refine E_cN_lt (a := s.length + 2) (b := 2) (tgt := 278) dX3_reckon_270 (by omega) (by decide) (by decide) (fun cw270 => absurd cw270 (by omega)) (fun cw270 => ?_)
          refine E_iload dX3_reckon_273 rfl ?_
          refine E_zN_eq (a := 1) (tgt := 280) dX3_reckon_275 (by decide) (by decide) (fun cw275 => absurd cw275 (by omega)) (fun cw275 => ?_)
          refine E_ic (nI 0) dX3_reckon_278 (by decide) ?_
          exact E_iret dX3_reckon_279 rfl (by rw [hv0] at hQ; exact hQ I (fun _ _ => rfl))
        · skip
          have hl2 : s.length + 2 ≤ 32 := hlen
          refine E_iload dX3_reckon_8 rfl ?_
          refine E_sp (nI 240) dX3_reckon_10 (by decide) ?_
          refine E_cN_ge (a := step) (b := 240) (tgt := 316) dX3_reckon_13 (by omega) (by decide) (by decide) (fun cw13 => absurd cw13 (by omega)) (fun cw13 => ?_)
          refine E_iload dX3_reckon_16 rfl ?_
          refine E_zN_lt (a := pc) (tgt := 316) dX3_reckon_18 (by omega) (by decide) (fun cw18 => cw18.elim) (fun cw18 => ?_)
          refine E_iload dX3_reckon_21 rfl ?_
          refine E_iload_n dX3_reckon_23 rfl ?_
          refine E_cN_ge (a := pc) (b := to) (tgt := 316) dX3_reckon_24 (by omega) (by omega) (by decide) (fun cw24 => absurd cw24 (by omega)) (fun cw24 => ?_)
          refine E_iload dX3_reckon_27 rfl ?_
          refine E_sp (nI 240) dX3_reckon_29 (by decide) ?_
          refine E_cN_ge (a := pc) (b := 240) (tgt := 316) dX3_reckon_32 (by omega) (by decide) (by decide) (fun cw32 => absurd cw32 (by omega)) (fun cw32 => ?_)
          refine E_aload_n dX3_reckon_35 rfl ?_
          refine E_getR dX3_reckon_36 f_X3_9 rfl (Nat.lt_of_lt_of_le (by decide) hN) rfl (hR _ _ _ rfl) ?_
          refine E_iload dX3_reckon_39 rfl ?_
          refine E_ialdN dX3_reckon_41 rfl (Nat.lt_of_lt_of_le (by decide) hN) (by omega) ?_
          refine E.top ((hcode pc (by omega)).trans (congrArg (fun z => nI (z + 256 * (code pc).2)) (wh_of (w := 37) ho rfl))) ?_
          refine E_sp (nI 255) dX3_reckon_42 (by decide) ?_
          refine E_iand dX3_reckon_45 ?_
          refine E.top (wd_and (by decide) hv2) ?_
          refine E_istore dX3_reckon_46 (Nat.le_of_ble_eq_true rfl) ?_
          refine E_aload_n dX3_reckon_48 rfl ?_
          refine E_getR dX3_reckon_49 f_X3_9 rfl (Nat.lt_of_lt_of_le (by decide) hN) rfl (hR _ _ _ rfl) ?_
          refine E_iload dX3_reckon_52 rfl ?_
          refine E_ialdN dX3_reckon_54 rfl (Nat.lt_of_lt_of_le (by decide) hN) (by omega) ?_
          refine E.top ((hcode pc (by omega)).trans (congrArg (fun z => nI (z + 256 * (code pc).2)) (wh_of (w := 37) ho rfl))) ?_
          refine E_bp (nI 8) dX3_reckon_55 (by decide) ?_
          refine E_iushr dX3_reckon_57 ?_
          refine E.top (wd_shr (by decide) hv2) ?_
          refine E_istore dX3_reckon_58 (Nat.le_of_ble_eq_true rfl) ?_
          refine E_incN dX3_reckon_60 rfl ?_
          refine E_iload dX3_reckon_63 rfl ?_
          refine E_bp (nI 78) dX3_reckon_65 (by decide) ?_
          refine E_cN_eq (a := 37) (b := 78) (tgt := 77) dX3_reckon_67 (by decide) (by decide) (by decide) (fun cw67 => absurd cw67 (by omega)) (fun cw67 => ?_)
          refine E_iload dX3_reckon_70 rfl ?_
          refine E_bp (nI 75) dX3_reckon_72 (by decide) ?_
          refine E_cN_ne (a := 37) (b := 75) (tgt := 133) dX3_reckon_74 (by decide) (by decide) (by decide) (fun cw74 => ?_) (fun cw74 => absurd cw74 (by omega))
          refine E_iload_n dX3_reckon_133 rfl ?_
          refine E_ic (nI 1) dX3_reckon_134 (by decide) ?_
          refine E_cN_ge (a := s.length + 2) (b := 1) (tgt := 140) dX3_reckon_135 (by omega) (by decide) (by decide) (fun cw135 => ?_) (fun cw135 => absurd cw135 (by omega))
          refine E_iload dX3_reckon_140 rfl ?_
          refine E_bp (nI 33) dX3_reckon_142 (by decide) ?_
          refine E_cN_ne (a := 37) (b := 33) (tgt := 174) dX3_reckon_144 (by decide) (by decide) (by decide) (fun cw144 => ?_) (fun cw144 => absurd cw144 (by omega))
          refine E_iload dX3_reckon_174 rfl ?_
          refine E_bp (nI 124) dX3_reckon_176 (by decide) ?_
          refine E_cN_eq (a := 37) (b := 124) (tgt := 188) dX3_reckon_178 (by decide) (by decide) (by decide) (fun cw178 => absurd cw178 (by omega)) (fun cw178 => ?_)
          refine E_iload dX3_reckon_181 rfl ?_
          refine E_bp (nI 38) dX3_reckon_183 (by decide) ?_
          refine E_cN_ne (a := 37) (b := 38) (tgt := 236) dX3_reckon_185 (by decide) (by decide) (by decide) (fun cw185 => ?_) (fun cw185 => absurd cw185 (by omega))
          refine E_iload dX3_reckon_236 rfl ?_
          refine E_bp (nI 47) dX3_reckon_238 (by decide) ?_
          refine E_cN_eq (a := 37) (b := 47) (tgt := 250) dX3_reckon_240 (by decide) (by decide) (by decide) (fun cw240 => absurd cw240 (by omega)) (fun cw240 => ?_)
          refine E_iload dX3_reckon_243 rfl ?_
          refine E_bp (nI 37) dX3_reckon_245 (by decide) ?_
          refine E_cN_ne (a := 37) (b := 37) (tgt := 265) dX3_reckon_247 (by decide) (by decide) (by decide) (fun cw247 => absurd cw247 (by omega)) (fun cw247 => ?_)
          refine E_aload_n dX3_reckon_250 rfl ?_
          refine E_getR dX3_reckon_251 f_X3_38 rfl (Nat.lt_of_lt_of_le (by decide) hN) rfl (hR _ _ _ rfl) ?_
          refine E_iload_n dX3_reckon_254 rfl ?_
          refine E_ic (nI 1) dX3_reckon_255 (by decide) ?_
          refine E_isub dX3_reckon_256 ?_
          refine E.top (pk_sub (a := s.length + 2) (b := 1) (by omega)) ?_
          refine E.top (congrArg nI (show s.length + 2 - 1 = s.length + 1 by omega)) ?_
          refine E_ialdN dX3_reckon_257 rfl (Nat.lt_of_lt_of_le (by decide) hN) (by omega) ?_
          refine E.top (hsk.1) ?_
          refine E_if_ne (tgt := 265) dX3_reckon_258 (by decide) (fun cw258 => ?_) (fun cw258 => by first | exact absurd cw258 (hy) | exact absurd (hy) cw258)
          refine E_ic (nI 0) dX3_reckon_265 (by decide) ?_
          refine E_istore dX3_reckon_266 (Nat.le_of_ble_eq_true rfl) ?_
          refine E_iload_n dX3_reckon_268 rfl ?_
          refine E_ic (nI 2) dX3_reckon_269 (by decide) ?_
          refine E_cN_lt (a := s.length + 2) (b := 2) (tgt := 278) dX3_reckon_270 (by omega) (by decide) (by decide) (fun cw270 => absurd cw270 (by omega)) (fun cw270 => ?_)
          refine E_iload dX3_reckon_273 rfl ?_
          refine E_zN_eq (a := 0) (tgt := 280) dX3_reckon_275 (by decide) (by decide) (fun cw275 => ?_) (fun cw275 => absurd cw275 (by omega))
          refine E_inc (-1) dX3_reckon_280 rfl (by decide) ?_
          rw [show nI (y :: x :: s).length + (-1) = nI (s.length + 1) from pk_m1 _]
          refine E_aload_n dX3_reckon_283 rfl ?_
          refine E_getR dX3_reckon_284 f_X3_38 rfl (Nat.lt_of_lt_of_le (by decide) hN) rfl (hR _ _ _ rfl) ?_
          refine E_iload_n dX3_reckon_287 rfl ?_
          refine E_ic (nI 1) dX3_reckon_288 (by decide) ?_
          refine E_isub dX3_reckon_289 ?_
          refine E.top (pk_sub (a := s.length + 1) (b := 1) (by omega)) ?_
          refine E.top (congrArg nI (Nat.add_sub_cancel (n := s.length) (m := 1))) ?_
          refine E_iload dX3_reckon_290 rfl ?_
          refine E_aload_n dX3_reckon_292 rfl ?_
          refine E_getR dX3_reckon_293 f_X3_38 rfl (Nat.lt_of_lt_of_le (by decide) hN) rfl (hR _ _ _ rfl) ?_
          refine E_iload_n dX3_reckon_296 rfl ?_
          refine E_ic (nI 1) dX3_reckon_297 (by decide) ?_
          refine E_isub dX3_reckon_298 ?_
          refine E.top (pk_sub (a := s.length + 1) (b := 1) (by omega)) ?_
          refine E.top (congrArg nI (Nat.add_sub_cancel (n := s.length) (m := 1))) ?_
          refine E_ialdN dX3_reckon_299 rfl (Nat.lt_of_lt_of_le (by decide) hN) (by omega) ?_
          refine E.top (hsk.2.1) ?_
          refine E_aload_n dX3_reckon_300 rfl ?_
          refine E_getR dX3_reckon_301 f_X3_38 rfl (Nat.lt_of_lt_of_le (by decide) hN) rfl (hR _ _ _ rfl) ?_
          refine E_iload_n dX3_reckon_304 rfl ?_
          refine E_ialdN dX3_reckon_305 rfl (Nat.lt_of_lt_of_le (by decide) hN) (by omega) ?_
          refine E.top (hsk.1) ?_
          refine E_callS (As := [_, _, _]) (kc' := 0) (ks' := 0) (kc := 0) (ks := 0) dX3_reckon_306 ok_X3_joined w_X3_63 st_X3_joined rfl rfl rfl (Nat.le_of_ble_eq_true rfl) (Nat.le_of_ble_eq_true rfl) (Nat.le_refl _) (x_joined6 hy ?_)
          refine E_iastN dX3_reckon_309 rfl (Nat.lt_of_lt_of_le (by decide) hN) (by omega) ?_
          refine E_incN dX3_reckon_310 rfl ?_
          refine E_goto (tgt := 8) dX3_reckon_313 (by decide) ?_
          refine E.mask [true, true, true, true, true, true, false, false, false] ?_
          exact ih (step + 1) (pc + 1) (rkn 6 x y :: s) _ (by omega) h2 (fun i hi => (congrFun (up2_o I 10 _ _ 4 (by decide)) i).trans (hcode i hi)) (fun j hj => (congrFun (up2_o I 10 _ _ 9 (by decide)) j).trans (hfa j hj)) (hsk.2.2.push _) (by omega) (by have : s.length + 2 ≤ 32 := hlen; show s.length + 1 ≤ 32; omega) (fun I2 f2 => hQ I2 (fun x hx => (f2 x hx).trans (up2_o I 10 _ _ x hx)))
      · -- 7
        obtain ⟨y, x, s, rfl, h2⟩ := ev_7 cp ho h
        have hl2 : s.length + 2 ≤ 32 := hlen
        refine E_iload dX3_reckon_8 rfl ?_
        refine E_sp (nI 240) dX3_reckon_10 (by decide) ?_
        refine E_cN_ge (a := step) (b := 240) (tgt := 316) dX3_reckon_13 (by omega) (by decide) (by decide) (fun cw13 => absurd cw13 (by omega)) (fun cw13 => ?_)
        refine E_iload dX3_reckon_16 rfl ?_
        refine E_zN_lt (a := pc) (tgt := 316) dX3_reckon_18 (by omega) (by decide) (fun cw18 => cw18.elim) (fun cw18 => ?_)
        refine E_iload dX3_reckon_21 rfl ?_
        refine E_iload_n dX3_reckon_23 rfl ?_
        refine E_cN_ge (a := pc) (b := to) (tgt := 316) dX3_reckon_24 (by omega) (by omega) (by decide) (fun cw24 => absurd cw24 (by omega)) (fun cw24 => ?_)
        refine E_iload dX3_reckon_27 rfl ?_
        refine E_sp (nI 240) dX3_reckon_29 (by decide) ?_
        refine E_cN_ge (a := pc) (b := 240) (tgt := 316) dX3_reckon_32 (by omega) (by decide) (by decide) (fun cw32 => absurd cw32 (by omega)) (fun cw32 => ?_)
        refine E_aload_n dX3_reckon_35 rfl ?_
        refine E_getR dX3_reckon_36 f_X3_9 rfl (Nat.lt_of_lt_of_le (by decide) hN) rfl (hR _ _ _ rfl) ?_
        refine E_iload dX3_reckon_39 rfl ?_
        refine E_ialdN dX3_reckon_41 rfl (Nat.lt_of_lt_of_le (by decide) hN) (by omega) ?_
        refine E.top ((hcode pc (by omega)).trans (congrArg (fun z => nI (z + 256 * (code pc).2)) (wh_of (w := 60) ho rfl))) ?_
        refine E_sp (nI 255) dX3_reckon_42 (by decide) ?_
        refine E_iand dX3_reckon_45 ?_
        refine E.top (wd_and (by decide) hv2) ?_
        refine E_istore dX3_reckon_46 (Nat.le_of_ble_eq_true rfl) ?_
        refine E_aload_n dX3_reckon_48 rfl ?_
        refine E_getR dX3_reckon_49 f_X3_9 rfl (Nat.lt_of_lt_of_le (by decide) hN) rfl (hR _ _ _ rfl) ?_
        refine E_iload dX3_reckon_52 rfl ?_
        refine E_ialdN dX3_reckon_54 rfl (Nat.lt_of_lt_of_le (by decide) hN) (by omega) ?_
        refine E.top ((hcode pc (by omega)).trans (congrArg (fun z => nI (z + 256 * (code pc).2)) (wh_of (w := 60) ho rfl))) ?_
        refine E_bp (nI 8) dX3_reckon_55 (by decide) ?_
        refine E_iushr dX3_reckon_57 ?_
        refine E.top (wd_shr (by decide) hv2) ?_
        refine E_istore dX3_reckon_58 (Nat.le_of_ble_eq_true rfl) ?_
        refine E_incN dX3_reckon_60 rfl ?_
        refine E_iload dX3_reckon_63 rfl ?_
        refine E_bp (nI 78) dX3_reckon_65 (by decide) ?_
        refine E_cN_eq (a := 60) (b := 78) (tgt := 77) dX3_reckon_67 (by decide) (by decide) (by decide) (fun cw67 => absurd cw67 (by omega)) (fun cw67 => ?_)
        refine E_iload dX3_reckon_70 rfl ?_
        refine E_bp (nI 75) dX3_reckon_72 (by decide) ?_
        refine E_cN_ne (a := 60) (b := 75) (tgt := 133) dX3_reckon_74 (by decide) (by decide) (by decide) (fun cw74 => ?_) (fun cw74 => absurd cw74 (by omega))
        refine E_iload_n dX3_reckon_133 rfl ?_
        refine E_ic (nI 1) dX3_reckon_134 (by decide) ?_
        refine E_cN_ge (a := s.length + 2) (b := 1) (tgt := 140) dX3_reckon_135 (by omega) (by decide) (by decide) (fun cw135 => ?_) (fun cw135 => absurd cw135 (by omega))
        refine E_iload dX3_reckon_140 rfl ?_
        refine E_bp (nI 33) dX3_reckon_142 (by decide) ?_
        refine E_cN_ne (a := 60) (b := 33) (tgt := 174) dX3_reckon_144 (by decide) (by decide) (by decide) (fun cw144 => ?_) (fun cw144 => absurd cw144 (by omega))
        refine E_iload dX3_reckon_174 rfl ?_
        refine E_bp (nI 124) dX3_reckon_176 (by decide) ?_
        refine E_cN_eq (a := 60) (b := 124) (tgt := 188) dX3_reckon_178 (by decide) (by decide) (by decide) (fun cw178 => absurd cw178 (by omega)) (fun cw178 => ?_)
        refine E_iload dX3_reckon_181 rfl ?_
        refine E_bp (nI 38) dX3_reckon_183 (by decide) ?_
        refine E_cN_ne (a := 60) (b := 38) (tgt := 236) dX3_reckon_185 (by decide) (by decide) (by decide) (fun cw185 => ?_) (fun cw185 => absurd cw185 (by omega))
        refine E_iload dX3_reckon_236 rfl ?_
        refine E_bp (nI 47) dX3_reckon_238 (by decide) ?_
        refine E_cN_eq (a := 60) (b := 47) (tgt := 250) dX3_reckon_240 (by decide) (by decide) (by decide) (fun cw240 => absurd cw240 (by omega)) (fun cw240 => ?_)
        refine E_iload dX3_reckon_243 rfl ?_
        refine E_bp (nI 37) dX3_reckon_245 (by decide) ?_
        refine E_cN_ne (a := 60) (b := 37) (tgt := 265) dX3_reckon_247 (by decide) (by decide) (by decide) (fun cw247 => ?_) (fun cw247 => absurd cw247 (by omega))
        refine E_ic (nI 0) dX3_reckon_265 (by decide) ?_
        refine E_istore dX3_reckon_266 (Nat.le_of_ble_eq_true rfl) ?_
        refine E_iload_n dX3_reckon_268 rfl ?_
        refine E_ic (nI 2) dX3_reckon_269 (by decide) ?_
        refine E_cN_lt (a := s.length + 2) (b := 2) (tgt := 278) dX3_reckon_270 (by omega) (by decide) (by decide) (fun cw270 => absurd cw270 (by omega)) (fun cw270 => ?_)
        refine E_iload dX3_reckon_273 rfl ?_
        refine E_zN_eq (a := 0) (tgt := 280) dX3_reckon_275 (by decide) (by decide) (fun cw275 => ?_) (fun cw275 => absurd cw275 (by omega))
        refine E_inc (-1) dX3_reckon_280 rfl (by decide) ?_
        rw [show nI (y :: x :: s).length + (-1) = nI (s.length + 1) from pk_m1 _]
        refine E_aload_n dX3_reckon_283 rfl ?_
        refine E_getR dX3_reckon_284 f_X3_38 rfl (Nat.lt_of_lt_of_le (by decide) hN) rfl (hR _ _ _ rfl) ?_
        refine E_iload_n dX3_reckon_287 rfl ?_
        refine E_ic (nI 1) dX3_reckon_288 (by decide) ?_
        refine E_isub dX3_reckon_289 ?_
        refine E.top (pk_sub (a := s.length + 1) (b := 1) (by omega)) ?_
        refine E.top (congrArg nI (Nat.add_sub_cancel (n := s.length) (m := 1))) ?_
        refine E_iload dX3_reckon_290 rfl ?_
        refine E_aload_n dX3_reckon_292 rfl ?_
        refine E_getR dX3_reckon_293 f_X3_38 rfl (Nat.lt_of_lt_of_le (by decide) hN) rfl (hR _ _ _ rfl) ?_
        refine E_iload_n dX3_reckon_296 rfl ?_
        refine E_ic (nI 1) dX3_reckon_297 (by decide) ?_
        refine E_isub dX3_reckon_298 ?_
        refine E.top (pk_sub (a := s.length + 1) (b := 1) (by omega)) ?_
        refine E.top (congrArg nI (Nat.add_sub_cancel (n := s.length) (m := 1))) ?_
        refine E_ialdN dX3_reckon_299 rfl (Nat.lt_of_lt_of_le (by decide) hN) (by omega) ?_
        refine E.top (hsk.2.1) ?_
        refine E_aload_n dX3_reckon_300 rfl ?_
        refine E_getR dX3_reckon_301 f_X3_38 rfl (Nat.lt_of_lt_of_le (by decide) hN) rfl (hR _ _ _ rfl) ?_
        refine E_iload_n dX3_reckon_304 rfl ?_
        refine E_ialdN dX3_reckon_305 rfl (Nat.lt_of_lt_of_le (by decide) hN) (by omega) ?_
        refine E.top (hsk.1) ?_
        refine E_callS (As := [_, _, _]) (kc' := 0) (ks' := 0) (kc := 0) (ks := 0) dX3_reckon_306 ok_X3_joined w_X3_63 st_X3_joined rfl rfl rfl (Nat.le_of_ble_eq_true rfl) (Nat.le_of_ble_eq_true rfl) (Nat.le_refl _) (x_joined7 ?_)
        refine E_iastN dX3_reckon_309 rfl (Nat.lt_of_lt_of_le (by decide) hN) (by omega) ?_
        refine E_incN dX3_reckon_310 rfl ?_
        refine E_goto (tgt := 8) dX3_reckon_313 (by decide) ?_
        refine E.mask [true, true, true, true, true, true, false, false, false] ?_
        exact ih (step + 1) (pc + 1) (rkn 7 x y :: s) _ (by omega) h2 (fun i hi => (congrFun (up2_o I 10 _ _ 4 (by decide)) i).trans (hcode i hi)) (fun j hj => (congrFun (up2_o I 10 _ _ 9 (by decide)) j).trans (hfa j hj)) (hsk.2.2.push _) (by omega) (by have : s.length + 2 ≤ 32 := hlen; show s.length + 1 ≤ 32; omega) (fun I2 f2 => hQ I2 (fun x hx => (f2 x hx).trans (up2_o I 10 _ _ x hx)))
      · -- 8
        obtain ⟨y, x, s, rfl, h2⟩ := ev_8 cp ho h
        have hl2 : s.length + 2 ≤ 32 := hlen
        refine E_iload dX3_reckon_8 rfl ?_
        refine E_sp (nI 240) dX3_reckon_10 (by decide) ?_
        refine E_cN_ge (a := step) (b := 240) (tgt := 316) dX3_reckon_13 (by omega) (by decide) (by decide) (fun cw13 => absurd cw13 (by omega)) (fun cw13 => ?_)
        refine E_iload dX3_reckon_16 rfl ?_
        refine E_zN_lt (a := pc) (tgt := 316) dX3_reckon_18 (by omega) (by decide) (fun cw18 => cw18.elim) (fun cw18 => ?_)
        refine E_iload dX3_reckon_21 rfl ?_
        refine E_iload_n dX3_reckon_23 rfl ?_
        refine E_cN_ge (a := pc) (b := to) (tgt := 316) dX3_reckon_24 (by omega) (by omega) (by decide) (fun cw24 => absurd cw24 (by omega)) (fun cw24 => ?_)
        refine E_iload dX3_reckon_27 rfl ?_
        refine E_sp (nI 240) dX3_reckon_29 (by decide) ?_
        refine E_cN_ge (a := pc) (b := 240) (tgt := 316) dX3_reckon_32 (by omega) (by decide) (by decide) (fun cw32 => absurd cw32 (by omega)) (fun cw32 => ?_)
        refine E_aload_n dX3_reckon_35 rfl ?_
        refine E_getR dX3_reckon_36 f_X3_9 rfl (Nat.lt_of_lt_of_le (by decide) hN) rfl (hR _ _ _ rfl) ?_
        refine E_iload dX3_reckon_39 rfl ?_
        refine E_ialdN dX3_reckon_41 rfl (Nat.lt_of_lt_of_le (by decide) hN) (by omega) ?_
        refine E.top ((hcode pc (by omega)).trans (congrArg (fun z => nI (z + 256 * (code pc).2)) (wh_of (w := 62) ho rfl))) ?_
        refine E_sp (nI 255) dX3_reckon_42 (by decide) ?_
        refine E_iand dX3_reckon_45 ?_
        refine E.top (wd_and (by decide) hv2) ?_
        refine E_istore dX3_reckon_46 (Nat.le_of_ble_eq_true rfl) ?_
        refine E_aload_n dX3_reckon_48 rfl ?_
        refine E_getR dX3_reckon_49 f_X3_9 rfl (Nat.lt_of_lt_of_le (by decide) hN) rfl (hR _ _ _ rfl) ?_
        refine E_iload dX3_reckon_52 rfl ?_
        refine E_ialdN dX3_reckon_54 rfl (Nat.lt_of_lt_of_le (by decide) hN) (by omega) ?_
        refine E.top ((hcode pc (by omega)).trans (congrArg (fun z => nI (z + 256 * (code pc).2)) (wh_of (w := 62) ho rfl))) ?_
        refine E_bp (nI 8) dX3_reckon_55 (by decide) ?_
        refine E_iushr dX3_reckon_57 ?_
        refine E.top (wd_shr (by decide) hv2) ?_
        refine E_istore dX3_reckon_58 (Nat.le_of_ble_eq_true rfl) ?_
        refine E_incN dX3_reckon_60 rfl ?_
        refine E_iload dX3_reckon_63 rfl ?_
        refine E_bp (nI 78) dX3_reckon_65 (by decide) ?_
        refine E_cN_eq (a := 62) (b := 78) (tgt := 77) dX3_reckon_67 (by decide) (by decide) (by decide) (fun cw67 => absurd cw67 (by omega)) (fun cw67 => ?_)
        refine E_iload dX3_reckon_70 rfl ?_
        refine E_bp (nI 75) dX3_reckon_72 (by decide) ?_
        refine E_cN_ne (a := 62) (b := 75) (tgt := 133) dX3_reckon_74 (by decide) (by decide) (by decide) (fun cw74 => ?_) (fun cw74 => absurd cw74 (by omega))
        refine E_iload_n dX3_reckon_133 rfl ?_
        refine E_ic (nI 1) dX3_reckon_134 (by decide) ?_
        refine E_cN_ge (a := s.length + 2) (b := 1) (tgt := 140) dX3_reckon_135 (by omega) (by decide) (by decide) (fun cw135 => ?_) (fun cw135 => absurd cw135 (by omega))
        refine E_iload dX3_reckon_140 rfl ?_
        refine E_bp (nI 33) dX3_reckon_142 (by decide) ?_
        refine E_cN_ne (a := 62) (b := 33) (tgt := 174) dX3_reckon_144 (by decide) (by decide) (by decide) (fun cw144 => ?_) (fun cw144 => absurd cw144 (by omega))
        refine E_iload dX3_reckon_174 rfl ?_
        refine E_bp (nI 124) dX3_reckon_176 (by decide) ?_
        refine E_cN_eq (a := 62) (b := 124) (tgt := 188) dX3_reckon_178 (by decide) (by decide) (by decide) (fun cw178 => absurd cw178 (by omega)) (fun cw178 => ?_)
        refine E_iload dX3_reckon_181 rfl ?_
        refine E_bp (nI 38) dX3_reckon_183 (by decide) ?_
        refine E_cN_ne (a := 62) (b := 38) (tgt := 236) dX3_reckon_185 (by decide) (by decide) (by decide) (fun cw185 => ?_) (fun cw185 => absurd cw185 (by omega))
        refine E_iload dX3_reckon_236 rfl ?_
        refine E_bp (nI 47) dX3_reckon_238 (by decide) ?_
        refine E_cN_eq (a := 62) (b := 47) (tgt := 250) dX3_reckon_240 (by decide) (by decide) (by decide) (fun cw240 => absurd cw240 (by omega)) (fun cw240 => ?_)
        refine E_iload dX3_reckon_243 rfl ?_
        refine E_bp (nI 37) dX3_reckon_245 (by decide) ?_
        refine E_cN_ne (a := 62) (b := 37) (tgt := 265) dX3_reckon_247 (by decide) (by decide) (by decide) (fun cw247 => ?_) (fun cw247 => absurd cw247 (by omega))
        refine E_ic (nI 0) dX3_reckon_265 (by decide) ?_
        refine E_istore dX3_reckon_266 (Nat.le_of_ble_eq_true rfl) ?_
        refine E_iload_n dX3_reckon_268 rfl ?_
        refine E_ic (nI 2) dX3_reckon_269 (by decide) ?_
        refine E_cN_lt (a := s.length + 2) (b := 2) (tgt := 278) dX3_reckon_270 (by omega) (by decide) (by decide) (fun cw270 => absurd cw270 (by omega)) (fun cw270 => ?_)
        refine E_iload dX3_reckon_273 rfl ?_
        refine E_zN_eq (a := 0) (tgt := 280) dX3_reckon_275 (by decide) (by decide) (fun cw275 => ?_) (fun cw275 => absurd cw275 (by omega))
        refine E_inc (-1) dX3_reckon_280 rfl (by decide) ?_
        rw [show nI (y :: x :: s).length + (-1) = nI (s.length + 1) from pk_m1 _]
        refine E_aload_n dX3_reckon_283 rfl ?_
        refine E_getR dX3_reckon_284 f_X3_38 rfl (Nat.lt_of_lt_of_le (by decide) hN) rfl (hR _ _ _ rfl) ?_
        refine E_iload_n dX3_reckon_287 rfl ?_
        refine E_ic (nI 1) dX3_reckon_288 (by decide) ?_
        refine E_isub dX3_reckon_289 ?_
        refine E.top (pk_sub (a := s.length + 1) (b := 1) (by omega)) ?_
        refine E.top (congrArg nI (Nat.add_sub_cancel (n := s.length) (m := 1))) ?_
        refine E_iload dX3_reckon_290 rfl ?_
        refine E_aload_n dX3_reckon_292 rfl ?_
        refine E_getR dX3_reckon_293 f_X3_38 rfl (Nat.lt_of_lt_of_le (by decide) hN) rfl (hR _ _ _ rfl) ?_
        refine E_iload_n dX3_reckon_296 rfl ?_
        refine E_ic (nI 1) dX3_reckon_297 (by decide) ?_
        refine E_isub dX3_reckon_298 ?_
        refine E.top (pk_sub (a := s.length + 1) (b := 1) (by omega)) ?_
        refine E.top (congrArg nI (Nat.add_sub_cancel (n := s.length) (m := 1))) ?_
        refine E_ialdN dX3_reckon_299 rfl (Nat.lt_of_lt_of_le (by decide) hN) (by omega) ?_
        refine E.top (hsk.2.1) ?_
        refine E_aload_n dX3_reckon_300 rfl ?_
        refine E_getR dX3_reckon_301 f_X3_38 rfl (Nat.lt_of_lt_of_le (by decide) hN) rfl (hR _ _ _ rfl) ?_
        refine E_iload_n dX3_reckon_304 rfl ?_
        refine E_ialdN dX3_reckon_305 rfl (Nat.lt_of_lt_of_le (by decide) hN) (by omega) ?_
        refine E.top (hsk.1) ?_
        refine E_callS (As := [_, _, _]) (kc' := 0) (ks' := 0) (kc := 0) (ks := 0) dX3_reckon_306 ok_X3_joined w_X3_63 st_X3_joined rfl rfl rfl (Nat.le_of_ble_eq_true rfl) (Nat.le_of_ble_eq_true rfl) (Nat.le_refl _) (x_joined8 ?_)
        refine E_iastN dX3_reckon_309 rfl (Nat.lt_of_lt_of_le (by decide) hN) (by omega) ?_
        refine E_incN dX3_reckon_310 rfl ?_
        refine E_goto (tgt := 8) dX3_reckon_313 (by decide) ?_
        refine E.mask [true, true, true, true, true, true, false, false, false] ?_
        exact ih (step + 1) (pc + 1) (rkn 8 x y :: s) _ (by omega) h2 (fun i hi => (congrFun (up2_o I 10 _ _ 4 (by decide)) i).trans (hcode i hi)) (fun j hj => (congrFun (up2_o I 10 _ _ 9 (by decide)) j).trans (hfa j hj)) (hsk.2.2.push _) (by omega) (by have : s.length + 2 ≤ 32 := hlen; show s.length + 1 ≤ 32; omega) (fun I2 f2 => hQ I2 (fun x hx => (f2 x hx).trans (up2_o I 10 _ _ x hx)))
      · -- 9
        obtain ⟨y, x, s, rfl, h2⟩ := ev_9 cp ho h
        have hl2 : s.length + 2 ≤ 32 := hlen
        refine E_iload dX3_reckon_8 rfl ?_
        refine E_sp (nI 240) dX3_reckon_10 (by decide) ?_
        refine E_cN_ge (a := step) (b := 240) (tgt := 316) dX3_reckon_13 (by omega) (by decide) (by decide) (fun cw13 => absurd cw13 (by omega)) (fun cw13 => ?_)
        refine E_iload dX3_reckon_16 rfl ?_
        refine E_zN_lt (a := pc) (tgt := 316) dX3_reckon_18 (by omega) (by decide) (fun cw18 => cw18.elim) (fun cw18 => ?_)
        refine E_iload dX3_reckon_21 rfl ?_
        refine E_iload_n dX3_reckon_23 rfl ?_
        refine E_cN_ge (a := pc) (b := to) (tgt := 316) dX3_reckon_24 (by omega) (by omega) (by decide) (fun cw24 => absurd cw24 (by omega)) (fun cw24 => ?_)
        refine E_iload dX3_reckon_27 rfl ?_
        refine E_sp (nI 240) dX3_reckon_29 (by decide) ?_
        refine E_cN_ge (a := pc) (b := 240) (tgt := 316) dX3_reckon_32 (by omega) (by decide) (by decide) (fun cw32 => absurd cw32 (by omega)) (fun cw32 => ?_)
        refine E_aload_n dX3_reckon_35 rfl ?_
        refine E_getR dX3_reckon_36 f_X3_9 rfl (Nat.lt_of_lt_of_le (by decide) hN) rfl (hR _ _ _ rfl) ?_
        refine E_iload dX3_reckon_39 rfl ?_
        refine E_ialdN dX3_reckon_41 rfl (Nat.lt_of_lt_of_le (by decide) hN) (by omega) ?_
        refine E.top ((hcode pc (by omega)).trans (congrArg (fun z => nI (z + 256 * (code pc).2)) (wh_of (w := 61) ho rfl))) ?_
        refine E_sp (nI 255) dX3_reckon_42 (by decide) ?_
        refine E_iand dX3_reckon_45 ?_
        refine E.top (wd_and (by decide) hv2) ?_
        refine E_istore dX3_reckon_46 (Nat.le_of_ble_eq_true rfl) ?_
        refine E_aload_n dX3_reckon_48 rfl ?_
        refine E_getR dX3_reckon_49 f_X3_9 rfl (Nat.lt_of_lt_of_le (by decide) hN) rfl (hR _ _ _ rfl) ?_
        refine E_iload dX3_reckon_52 rfl ?_
        refine E_ialdN dX3_reckon_54 rfl (Nat.lt_of_lt_of_le (by decide) hN) (by omega) ?_
        refine E.top ((hcode pc (by omega)).trans (congrArg (fun z => nI (z + 256 * (code pc).2)) (wh_of (w := 61) ho rfl))) ?_
        refine E_bp (nI 8) dX3_reckon_55 (by decide) ?_
        refine E_iushr dX3_reckon_57 ?_
        refine E.top (wd_shr (by decide) hv2) ?_
        refine E_istore dX3_reckon_58 (Nat.le_of_ble_eq_true rfl) ?_
        refine E_incN dX3_reckon_60 rfl ?_
        refine E_iload dX3_reckon_63 rfl ?_
        refine E_bp (nI 78) dX3_reckon_65 (by decide) ?_
        refine E_cN_eq (a := 61) (b := 78) (tgt := 77) dX3_reckon_67 (by decide) (by decide) (by decide) (fun cw67 => absurd cw67 (by omega)) (fun cw67 => ?_)
        refine E_iload dX3_reckon_70 rfl ?_
        refine E_bp (nI 75) dX3_reckon_72 (by decide) ?_
        refine E_cN_ne (a := 61) (b := 75) (tgt := 133) dX3_reckon_74 (by decide) (by decide) (by decide) (fun cw74 => ?_) (fun cw74 => absurd cw74 (by omega))
        refine E_iload_n dX3_reckon_133 rfl ?_
        refine E_ic (nI 1) dX3_reckon_134 (by decide) ?_
        refine E_cN_ge (a := s.length + 2) (b := 1) (tgt := 140) dX3_reckon_135 (by omega) (by decide) (by decide) (fun cw135 => ?_) (fun cw135 => absurd cw135 (by omega))
        refine E_iload dX3_reckon_140 rfl ?_
        refine E_bp (nI 33) dX3_reckon_142 (by decide) ?_
        refine E_cN_ne (a := 61) (b := 33) (tgt := 174) dX3_reckon_144 (by decide) (by decide) (by decide) (fun cw144 => ?_) (fun cw144 => absurd cw144 (by omega))
        refine E_iload dX3_reckon_174 rfl ?_
        refine E_bp (nI 124) dX3_reckon_176 (by decide) ?_
        refine E_cN_eq (a := 61) (b := 124) (tgt := 188) dX3_reckon_178 (by decide) (by decide) (by decide) (fun cw178 => absurd cw178 (by omega)) (fun cw178 => ?_)
        refine E_iload dX3_reckon_181 rfl ?_
        refine E_bp (nI 38) dX3_reckon_183 (by decide) ?_
        refine E_cN_ne (a := 61) (b := 38) (tgt := 236) dX3_reckon_185 (by decide) (by decide) (by decide) (fun cw185 => ?_) (fun cw185 => absurd cw185 (by omega))
        refine E_iload dX3_reckon_236 rfl ?_
        refine E_bp (nI 47) dX3_reckon_238 (by decide) ?_
        refine E_cN_eq (a := 61) (b := 47) (tgt := 250) dX3_reckon_240 (by decide) (by decide) (by decide) (fun cw240 => absurd cw240 (by omega)) (fun cw240 => ?_)
        refine E_iload dX3_reckon_243 rfl ?_
        refine E_bp (nI 37) dX3_reckon_245 (by decide) ?_
        refine E_cN_ne (a := 61) (b := 37) (tgt := 265) dX3_reckon_247 (by decide) (by decide) (by decide) (fun cw247 => ?_) (fun cw247 => absurd cw247 (by omega))
        refine E_ic (nI 0) dX3_reckon_265 (by decide) ?_
        refine E_istore dX3_reckon_266 (Nat.le_of_ble_eq_true rfl) ?_
        refine E_iload_n dX3_reckon_268 rfl ?_
        refine E_ic (nI 2) dX3_reckon_269 (by decide) ?_
        refine E_cN_lt (a := s.length + 2) (b := 2) (tgt := 278) dX3_reckon_270 (by omega) (by decide) (by decide) (fun cw270 => absurd cw270 (by omega)) (fun cw270 => ?_)
        refine E_iload dX3_reckon_273 rfl ?_
        refine E_zN_eq (a := 0) (tgt := 280) dX3_reckon_275 (by decide) (by decide) (fun cw275 => ?_) (fun cw275 => absurd cw275 (by omega))
        refine E_inc (-1) dX3_reckon_280 rfl (by decide) ?_
        rw [show nI (y :: x :: s).length + (-1) = nI (s.length + 1) from pk_m1 _]
        refine E_aload_n dX3_reckon_283 rfl ?_
        refine E_getR dX3_reckon_284 f_X3_38 rfl (Nat.lt_of_lt_of_le (by decide) hN) rfl (hR _ _ _ rfl) ?_
        refine E_iload_n dX3_reckon_287 rfl ?_
        refine E_ic (nI 1) dX3_reckon_288 (by decide) ?_
        refine E_isub dX3_reckon_289 ?_
        refine E.top (pk_sub (a := s.length + 1) (b := 1) (by omega)) ?_
        refine E.top (congrArg nI (Nat.add_sub_cancel (n := s.length) (m := 1))) ?_
        refine E_iload dX3_reckon_290 rfl ?_
        refine E_aload_n dX3_reckon_292 rfl ?_
        refine E_getR dX3_reckon_293 f_X3_38 rfl (Nat.lt_of_lt_of_le (by decide) hN) rfl (hR _ _ _ rfl) ?_
        refine E_iload_n dX3_reckon_296 rfl ?_
        refine E_ic (nI 1) dX3_reckon_297 (by decide) ?_
        refine E_isub dX3_reckon_298 ?_
        refine E.top (pk_sub (a := s.length + 1) (b := 1) (by omega)) ?_
        refine E.top (congrArg nI (Nat.add_sub_cancel (n := s.length) (m := 1))) ?_
        refine E_ialdN dX3_reckon_299 rfl (Nat.lt_of_lt_of_le (by decide) hN) (by omega) ?_
        refine E.top (hsk.2.1) ?_
        refine E_aload_n dX3_reckon_300 rfl ?_
        refine E_getR dX3_reckon_301 f_X3_38 rfl (Nat.lt_of_lt_of_le (by decide) hN) rfl (hR _ _ _ rfl) ?_
        refine E_iload_n dX3_reckon_304 rfl ?_
        refine E_ialdN dX3_reckon_305 rfl (Nat.lt_of_lt_of_le (by decide) hN) (by omega) ?_
        refine E.top (hsk.1) ?_
        refine E_callS (As := [_, _, _]) (kc' := 0) (ks' := 0) (kc := 0) (ks := 0) dX3_reckon_306 ok_X3_joined w_X3_63 st_X3_joined rfl rfl rfl (Nat.le_of_ble_eq_true rfl) (Nat.le_of_ble_eq_true rfl) (Nat.le_refl _) (x_joined9 ?_)
        refine E_iastN dX3_reckon_309 rfl (Nat.lt_of_lt_of_le (by decide) hN) (by omega) ?_
        refine E_incN dX3_reckon_310 rfl ?_
        refine E_goto (tgt := 8) dX3_reckon_313 (by decide) ?_
        refine E.mask [true, true, true, true, true, true, false, false, false] ?_
        exact ih (step + 1) (pc + 1) (rkn 9 x y :: s) _ (by omega) h2 (fun i hi => (congrFun (up2_o I 10 _ _ 4 (by decide)) i).trans (hcode i hi)) (fun j hj => (congrFun (up2_o I 10 _ _ 9 (by decide)) j).trans (hfa j hj)) (hsk.2.2.push _) (by omega) (by have : s.length + 2 ≤ 32 := hlen; show s.length + 1 ≤ 32; omega) (fun I2 f2 => hQ I2 (fun x hx => (f2 x hx).trans (up2_o I 10 _ _ x hx)))
      · -- 10
        obtain ⟨s, ⟨rfl, h2⟩ | ⟨rfl, h2⟩⟩ := ev_10 cp ho h
        · skip
          have hl2 : s.length + 1 ≤ 32 := hlen
          refine E_iload dX3_reckon_8 rfl ?_
          refine E_sp (nI 240) dX3_reckon_10 (by decide) ?_
          refine E_cN_ge (a := step) (b := 240) (tgt := 316) dX3_reckon_13 (by omega) (by decide) (by decide) (fun cw13 => absurd cw13 (by omega)) (fun cw13 => ?_)
          refine E_iload dX3_reckon_16 rfl ?_
          refine E_zN_lt (a := pc) (tgt := 316) dX3_reckon_18 (by omega) (by decide) (fun cw18 => cw18.elim) (fun cw18 => ?_)
          refine E_iload dX3_reckon_21 rfl ?_
          refine E_iload_n dX3_reckon_23 rfl ?_
          refine E_cN_ge (a := pc) (b := to) (tgt := 316) dX3_reckon_24 (by omega) (by omega) (by decide) (fun cw24 => absurd cw24 (by omega)) (fun cw24 => ?_)
          refine E_iload dX3_reckon_27 rfl ?_
          refine E_sp (nI 240) dX3_reckon_29 (by decide) ?_
          refine E_cN_ge (a := pc) (b := 240) (tgt := 316) dX3_reckon_32 (by omega) (by decide) (by decide) (fun cw32 => absurd cw32 (by omega)) (fun cw32 => ?_)
          refine E_aload_n dX3_reckon_35 rfl ?_
          refine E_getR dX3_reckon_36 f_X3_9 rfl (Nat.lt_of_lt_of_le (by decide) hN) rfl (hR _ _ _ rfl) ?_
          refine E_iload dX3_reckon_39 rfl ?_
          refine E_ialdN dX3_reckon_41 rfl (Nat.lt_of_lt_of_le (by decide) hN) (by omega) ?_
          refine E.top ((hcode pc (by omega)).trans (congrArg (fun z => nI (z + 256 * (code pc).2)) (wh_of (w := 33) ho rfl))) ?_
          refine E_sp (nI 255) dX3_reckon_42 (by decide) ?_
          refine E_iand dX3_reckon_45 ?_
          refine E.top (wd_and (by decide) hv2) ?_
          refine E_istore dX3_reckon_46 (Nat.le_of_ble_eq_true rfl) ?_
          refine E_aload_n dX3_reckon_48 rfl ?_
          refine E_getR dX3_reckon_49 f_X3_9 rfl (Nat.lt_of_lt_of_le (by decide) hN) rfl (hR _ _ _ rfl) ?_
          refine E_iload dX3_reckon_52 rfl ?_
          refine E_ialdN dX3_reckon_54 rfl (Nat.lt_of_lt_of_le (by decide) hN) (by omega) ?_
          refine E.top ((hcode pc (by omega)).trans (congrArg (fun z => nI (z + 256 * (code pc).2)) (wh_of (w := 33) ho rfl))) ?_
          refine E_bp (nI 8) dX3_reckon_55 (by decide) ?_
          refine E_iushr dX3_reckon_57 ?_
          refine E.top (wd_shr (by decide) hv2) ?_
          refine E_istore dX3_reckon_58 (Nat.le_of_ble_eq_true rfl) ?_
          refine E_incN dX3_reckon_60 rfl ?_
          refine E_iload dX3_reckon_63 rfl ?_
          refine E_bp (nI 78) dX3_reckon_65 (by decide) ?_
          refine E_cN_eq (a := 33) (b := 78) (tgt := 77) dX3_reckon_67 (by decide) (by decide) (by decide) (fun cw67 => absurd cw67 (by omega)) (fun cw67 => ?_)
          refine E_iload dX3_reckon_70 rfl ?_
          refine E_bp (nI 75) dX3_reckon_72 (by decide) ?_
          refine E_cN_ne (a := 33) (b := 75) (tgt := 133) dX3_reckon_74 (by decide) (by decide) (by decide) (fun cw74 => ?_) (fun cw74 => absurd cw74 (by omega))
          refine E_iload_n dX3_reckon_133 rfl ?_
          refine E_ic (nI 1) dX3_reckon_134 (by decide) ?_
          refine E_cN_ge (a := s.length + 1) (b := 1) (tgt := 140) dX3_reckon_135 (by omega) (by decide) (by decide) (fun cw135 => ?_) (fun cw135 => absurd cw135 (by omega))
          refine E_iload dX3_reckon_140 rfl ?_
          refine E_bp (nI 33) dX3_reckon_142 (by decide) ?_
          refine E_cN_ne (a := 33) (b := 33) (tgt := 174) dX3_reckon_144 (by decide) (by decide) (by decide) (fun cw144 => absurd cw144 (by omega)) (fun cw144 => ?_)
          refine E_aload_n dX3_reckon_147 rfl ?_
          refine E_getR dX3_reckon_148 f_X3_38 rfl (Nat.lt_of_lt_of_le (by decide) hN) rfl (hR _ _ _ rfl) ?_
          refine E_iload_n dX3_reckon_151 rfl ?_
          refine E_ic (nI 1) dX3_reckon_152 (by decide) ?_
          refine E_isub dX3_reckon_153 ?_
          refine E.top (pk_sub (a := s.length + 1) (b := 1) (by omega)) ?_
          refine E.top (congrArg nI (Nat.add_sub_cancel (n := s.length) (m := 1))) ?_
          refine E_aload_n dX3_reckon_154 rfl ?_
          refine E_getR dX3_reckon_155 f_X3_38 rfl (Nat.lt_of_lt_of_le (by decide) hN) rfl (hR _ _ _ rfl) ?_
          refine E_iload_n dX3_reckon_158 rfl ?_
          refine E_ic (nI 1) dX3_reckon_159 (by decide) ?_
          refine E_isub dX3_reckon_160 ?_
          refine E.top (pk_sub (a := s.length + 1) (b := 1) (by omega)) ?_
          refine E.top (congrArg nI (Nat.add_sub_cancel (n := s.length) (m := 1))) ?_
          refine E_ialdN dX3_reckon_161 rfl (Nat.lt_of_lt_of_le (by decide) hN) (by omega) ?_
          refine E.top (hsk.1) ?_
          refine E_zN_ne (a := 0) (tgt := 169) dX3_reckon_162 (by decide) (by decide) (fun cw162 => absurd cw162 (by omega)) (fun cw162 => ?_)
          refine E_ic (nI 1) dX3_reckon_165 (by decide) ?_
          refine E_goto (tgt := 170) dX3_reckon_166 (by decide) ?_
          refine E_iastN dX3_reckon_170 rfl (Nat.lt_of_lt_of_le (by decide) hN) (by omega) ?_
          refine E_goto (tgt := 310) dX3_reckon_171 (by decide) ?_
          refine E_incN dX3_reckon_310 rfl ?_
          refine E_goto (tgt := 8) dX3_reckon_313 (by decide) ?_
          refine E.mask [true, true, true, true, true, true, false, false, false] ?_
          exact ih (step + 1) (pc + 1) (1 :: s) _ (by omega) h2 (fun i hi => (congrFun (up2_o I 10 _ _ 4 (by decide)) i).trans (hcode i hi)) (fun j hj => (congrFun (up2_o I 10 _ _ 9 (by decide)) j).trans (hfa j hj)) (hsk.2.push _) (by omega) hlen (fun I2 f2 => hQ I2 (fun x hx => (f2 x hx).trans (up2_o I 10 _ _ x hx)))
        · skip
          have hl2 : s.length + 1 ≤ 32 := hlen
          refine E_iload dX3_reckon_8 rfl ?_
          refine E_sp (nI 240) dX3_reckon_10 (by decide) ?_
          refine E_cN_ge (a := step) (b := 240) (tgt := 316) dX3_reckon_13 (by omega) (by decide) (by decide) (fun cw13 => absurd cw13 (by omega)) (fun cw13 => ?_)
          refine E_iload dX3_reckon_16 rfl ?_
          refine E_zN_lt (a := pc) (tgt := 316) dX3_reckon_18 (by omega) (by decide) (fun cw18 => cw18.elim) (fun cw18 => ?_)
          refine E_iload dX3_reckon_21 rfl ?_
          refine E_iload_n dX3_reckon_23 rfl ?_
          refine E_cN_ge (a := pc) (b := to) (tgt := 316) dX3_reckon_24 (by omega) (by omega) (by decide) (fun cw24 => absurd cw24 (by omega)) (fun cw24 => ?_)
          refine E_iload dX3_reckon_27 rfl ?_
          refine E_sp (nI 240) dX3_reckon_29 (by decide) ?_
          refine E_cN_ge (a := pc) (b := 240) (tgt := 316) dX3_reckon_32 (by omega) (by decide) (by decide) (fun cw32 => absurd cw32 (by omega)) (fun cw32 => ?_)
          refine E_aload_n dX3_reckon_35 rfl ?_
          refine E_getR dX3_reckon_36 f_X3_9 rfl (Nat.lt_of_lt_of_le (by decide) hN) rfl (hR _ _ _ rfl) ?_
          refine E_iload dX3_reckon_39 rfl ?_
          refine E_ialdN dX3_reckon_41 rfl (Nat.lt_of_lt_of_le (by decide) hN) (by omega) ?_
          refine E.top ((hcode pc (by omega)).trans (congrArg (fun z => nI (z + 256 * (code pc).2)) (wh_of (w := 33) ho rfl))) ?_
          refine E_sp (nI 255) dX3_reckon_42 (by decide) ?_
          refine E_iand dX3_reckon_45 ?_
          refine E.top (wd_and (by decide) hv2) ?_
          refine E_istore dX3_reckon_46 (Nat.le_of_ble_eq_true rfl) ?_
          refine E_aload_n dX3_reckon_48 rfl ?_
          refine E_getR dX3_reckon_49 f_X3_9 rfl (Nat.lt_of_lt_of_le (by decide) hN) rfl (hR _ _ _ rfl) ?_
          refine E_iload dX3_reckon_52 rfl ?_
          refine E_ialdN dX3_reckon_54 rfl (Nat.lt_of_lt_of_le (by decide) hN) (by omega) ?_
          refine E.top ((hcode pc (by omega)).trans (congrArg (fun z => nI (z + 256 * (code pc).2)) (wh_of (w := 33) ho rfl))) ?_
          refine E_bp (nI 8) dX3_reckon_55 (by decide) ?_
          refine E_iushr dX3_reckon_57 ?_
          refine E.top (wd_shr (by decide) hv2) ?_
          refine E_istore dX3_reckon_58 (Nat.le_of_ble_eq_true rfl) ?_
          refine E_incN dX3_reckon_60 rfl ?_
          refine E_iload dX3_reckon_63 rfl ?_
          refine E_bp (nI 78) dX3_reckon_65 (by decide) ?_
          refine E_cN_eq (a := 33) (b := 78) (tgt := 77) dX3_reckon_67 (by decide) (by decide) (by decide) (fun cw67 => absurd cw67 (by omega)) (fun cw67 => ?_)
          refine E_iload dX3_reckon_70 rfl ?_
          refine E_bp (nI 75) dX3_reckon_72 (by decide) ?_
          refine E_cN_ne (a := 33) (b := 75) (tgt := 133) dX3_reckon_74 (by decide) (by decide) (by decide) (fun cw74 => ?_) (fun cw74 => absurd cw74 (by omega))
          refine E_iload_n dX3_reckon_133 rfl ?_
          refine E_ic (nI 1) dX3_reckon_134 (by decide) ?_
          refine E_cN_ge (a := s.length + 1) (b := 1) (tgt := 140) dX3_reckon_135 (by omega) (by decide) (by decide) (fun cw135 => ?_) (fun cw135 => absurd cw135 (by omega))
          refine E_iload dX3_reckon_140 rfl ?_
          refine E_bp (nI 33) dX3_reckon_142 (by decide) ?_
          refine E_cN_ne (a := 33) (b := 33) (tgt := 174) dX3_reckon_144 (by decide) (by decide) (by decide) (fun cw144 => absurd cw144 (by omega)) (fun cw144 => ?_)
          refine E_aload_n dX3_reckon_147 rfl ?_
          refine E_getR dX3_reckon_148 f_X3_38 rfl (Nat.lt_of_lt_of_le (by decide) hN) rfl (hR _ _ _ rfl) ?_
          refine E_iload_n dX3_reckon_151 rfl ?_
          refine E_ic (nI 1) dX3_reckon_152 (by decide) ?_
          refine E_isub dX3_reckon_153 ?_
          refine E.top (pk_sub (a := s.length + 1) (b := 1) (by omega)) ?_
          refine E.top (congrArg nI (Nat.add_sub_cancel (n := s.length) (m := 1))) ?_
          refine E_aload_n dX3_reckon_154 rfl ?_
          refine E_getR dX3_reckon_155 f_X3_38 rfl (Nat.lt_of_lt_of_le (by decide) hN) rfl (hR _ _ _ rfl) ?_
          refine E_iload_n dX3_reckon_158 rfl ?_
          refine E_ic (nI 1) dX3_reckon_159 (by decide) ?_
          refine E_isub dX3_reckon_160 ?_
          refine E.top (pk_sub (a := s.length + 1) (b := 1) (by omega)) ?_
          refine E.top (congrArg nI (Nat.add_sub_cancel (n := s.length) (m := 1))) ?_
          refine E_ialdN dX3_reckon_161 rfl (Nat.lt_of_lt_of_le (by decide) hN) (by omega) ?_
          refine E.top (hsk.1) ?_
          refine E_zN_ne (a := 1) (tgt := 169) dX3_reckon_162 (by decide) (by decide) (fun cw162 => ?_) (fun cw162 => absurd cw162 (by omega))
          refine E_ic (nI 0) dX3_reckon_169 (by decide) ?_
          refine E_iastN dX3_reckon_170 rfl (Nat.lt_of_lt_of_le (by decide) hN) (by omega) ?_
          refine E_goto (tgt := 310) dX3_reckon_171 (by decide) ?_
          refine E_incN dX3_reckon_310 rfl ?_
          refine E_goto (tgt := 8) dX3_reckon_313 (by decide) ?_
          refine E.mask [true, true, true, true, true, true, false, false, false] ?_
          exact ih (step + 1) (pc + 1) (0 :: s) _ (by omega) h2 (fun i hi => (congrFun (up2_o I 10 _ _ 4 (by decide)) i).trans (hcode i hi)) (fun j hj => (congrFun (up2_o I 10 _ _ 9 (by decide)) j).trans (hfa j hj)) (hsk.2.push _) (by omega) hlen (fun I2 f2 => hQ I2 (fun x hx => (f2 x hx).trans (up2_o I 10 _ _ x hx)))
      · -- 11
        obtain ⟨s, ⟨rfl, h3, h3b, h2⟩ | ⟨rfl, h2⟩⟩ := ev_11 cp ho h
        · skip
          have hl2 : s.length + 1 ≤ 32 := hlen
          refine E_iload dX3_reckon_8 rfl ?_
          refine E_sp (nI 240) dX3_reckon_10 (by decide) ?_
          refine E_cN_ge (a := step) (b := 240) (tgt := 316) dX3_reckon_13 (by omega) (by decide) (by decide) (fun cw13 => absurd cw13 (by omega)) (fun cw13 => ?_)
          refine E_iload dX3_reckon_16 rfl ?_
          refine E_zN_lt (a := pc) (tgt := 316) dX3_reckon_18 (by omega) (by decide) (fun cw18 => cw18.elim) (fun cw18 => ?_)
          refine E_iload dX3_reckon_21 rfl ?_
          refine E_iload_n dX3_reckon_23 rfl ?_
          refine E_cN_ge (a := pc) (b := to) (tgt := 316) dX3_reckon_24 (by omega) (by omega) (by decide) (fun cw24 => absurd cw24 (by omega)) (fun cw24 => ?_)
          refine E_iload dX3_reckon_27 rfl ?_
          refine E_sp (nI 240) dX3_reckon_29 (by decide) ?_
          refine E_cN_ge (a := pc) (b := 240) (tgt := 316) dX3_reckon_32 (by omega) (by decide) (by decide) (fun cw32 => absurd cw32 (by omega)) (fun cw32 => ?_)
          refine E_aload_n dX3_reckon_35 rfl ?_
          refine E_getR dX3_reckon_36 f_X3_9 rfl (Nat.lt_of_lt_of_le (by decide) hN) rfl (hR _ _ _ rfl) ?_
          refine E_iload dX3_reckon_39 rfl ?_
          refine E_ialdN dX3_reckon_41 rfl (Nat.lt_of_lt_of_le (by decide) hN) (by omega) ?_
          refine E.top ((hcode pc (by omega)).trans (congrArg (fun z => nI (z + 256 * (code pc).2)) (wh_of (w := 38) ho rfl))) ?_
          refine E_sp (nI 255) dX3_reckon_42 (by decide) ?_
          refine E_iand dX3_reckon_45 ?_
          refine E.top (wd_and (by decide) hv2) ?_
          refine E_istore dX3_reckon_46 (Nat.le_of_ble_eq_true rfl) ?_
          refine E_aload_n dX3_reckon_48 rfl ?_
          refine E_getR dX3_reckon_49 f_X3_9 rfl (Nat.lt_of_lt_of_le (by decide) hN) rfl (hR _ _ _ rfl) ?_
          refine E_iload dX3_reckon_52 rfl ?_
          refine E_ialdN dX3_reckon_54 rfl (Nat.lt_of_lt_of_le (by decide) hN) (by omega) ?_
          refine E.top ((hcode pc (by omega)).trans (congrArg (fun z => nI (z + 256 * (code pc).2)) (wh_of (w := 38) ho rfl))) ?_
          refine E_bp (nI 8) dX3_reckon_55 (by decide) ?_
          refine E_iushr dX3_reckon_57 ?_
          refine E.top (wd_shr (by decide) hv2) ?_
          refine E_istore dX3_reckon_58 (Nat.le_of_ble_eq_true rfl) ?_
          refine E_incN dX3_reckon_60 rfl ?_
          refine E_iload dX3_reckon_63 rfl ?_
          refine E_bp (nI 78) dX3_reckon_65 (by decide) ?_
          refine E_cN_eq (a := 38) (b := 78) (tgt := 77) dX3_reckon_67 (by decide) (by decide) (by decide) (fun cw67 => absurd cw67 (by omega)) (fun cw67 => ?_)
          refine E_iload dX3_reckon_70 rfl ?_
          refine E_bp (nI 75) dX3_reckon_72 (by decide) ?_
          refine E_cN_ne (a := 38) (b := 75) (tgt := 133) dX3_reckon_74 (by decide) (by decide) (by decide) (fun cw74 => ?_) (fun cw74 => absurd cw74 (by omega))
          refine E_iload_n dX3_reckon_133 rfl ?_
          refine E_ic (nI 1) dX3_reckon_134 (by decide) ?_
          refine E_cN_ge (a := s.length + 1) (b := 1) (tgt := 140) dX3_reckon_135 (by omega) (by decide) (by decide) (fun cw135 => ?_) (fun cw135 => absurd cw135 (by omega))
          refine E_iload dX3_reckon_140 rfl ?_
          refine E_bp (nI 33) dX3_reckon_142 (by decide) ?_
          refine E_cN_ne (a := 38) (b := 33) (tgt := 174) dX3_reckon_144 (by decide) (by decide) (by decide) (fun cw144 => ?_) (fun cw144 => absurd cw144 (by omega))
          refine E_iload dX3_reckon_174 rfl ?_
          refine E_bp (nI 124) dX3_reckon_176 (by decide) ?_
          refine E_cN_eq (a := 38) (b := 124) (tgt := 188) dX3_reckon_178 (by decide) (by decide) (by decide) (fun cw178 => absurd cw178 (by omega)) (fun cw178 => ?_)
          refine E_iload dX3_reckon_181 rfl ?_
          refine E_bp (nI 38) dX3_reckon_183 (by decide) ?_
          refine E_cN_ne (a := 38) (b := 38) (tgt := 236) dX3_reckon_185 (by decide) (by decide) (by decide) (fun cw185 => absurd cw185 (by omega)) (fun cw185 => ?_)
          refine E_aload_n dX3_reckon_188 rfl ?_
          refine E_getR dX3_reckon_189 f_X3_38 rfl (Nat.lt_of_lt_of_le (by decide) hN) rfl (hR _ _ _ rfl) ?_
          refine E_iload_n dX3_reckon_192 rfl ?_
          refine E_ic (nI 1) dX3_reckon_193 (by decide) ?_
          refine E_isub dX3_reckon_194 ?_
          refine E.top (pk_sub (a := s.length + 1) (b := 1) (by omega)) ?_
          refine E.top (congrArg nI (Nat.add_sub_cancel (n := s.length) (m := 1))) ?_
          refine E_ialdN dX3_reckon_195 rfl (Nat.lt_of_lt_of_le (by decide) hN) (by omega) ?_
          refine E.top (hsk.1) ?_
          refine E_zN_eq (a := 0) (tgt := 203) dX3_reckon_196 (by decide) (by decide) (fun cw196 => ?_) (fun cw196 => absurd cw196 (by omega))
          refine E_ic (nI 0) dX3_reckon_203 (by decide) ?_
          refine E_istore dX3_reckon_204 (Nat.le_of_ble_eq_true rfl) ?_
          refine E_iload dX3_reckon_206 rfl ?_
          refine E_iload dX3_reckon_208 rfl ?_
          refine E_bp (nI 124) dX3_reckon_210 (by decide) ?_
          refine E_cN_ne (a := 38) (b := 124) (tgt := 219) dX3_reckon_212 (by decide) (by decide) (by decide) (fun cw212 => ?_) (fun cw212 => absurd cw212 (by omega))
          refine E_ic (nI 0) dX3_reckon_219 (by decide) ?_
          refine E_cN_ne (a := 0) (b := 0) (tgt := 230) dX3_reckon_220 (by decide) (by decide) (by decide) (fun cw220 => absurd cw220 (by omega)) (fun cw220 => ?_)
          refine E_iload dX3_reckon_223 rfl ?_
          refine E_istore dX3_reckon_225 (Nat.le_of_ble_eq_true rfl) ?_
          refine E_goto (tgt := 233) dX3_reckon_227 (by decide) ?_
          refine E_goto (tgt := 310) dX3_reckon_233 (by decide) ?_
          refine E_incN dX3_reckon_310 rfl ?_
          refine E_goto (tgt := 8) dX3_reckon_313 (by decide) ?_
          refine E.mask [true, true, true, true, true, true, false, false, false] ?_
          exact ih (step + 1) (code pc).2 (0 :: s) I (by omega) h2 hcode hfa hsk h3b hlen hQ
        · skip
          have hl2 : s.length + 1 ≤ 32 := hlen
          refine E_iload dX3_reckon_8 rfl ?_
          refine E_sp (nI 240) dX3_reckon_10 (by decide) ?_
          refine E_cN_ge (a := step) (b := 240) (tgt := 316) dX3_reckon_13 (by omega) (by decide) (by decide) (fun cw13 => absurd cw13 (by omega)) (fun cw13 => ?_)
          refine E_iload dX3_reckon_16 rfl ?_
          refine E_zN_lt (a := pc) (tgt := 316) dX3_reckon_18 (by omega) (by decide) (fun cw18 => cw18.elim) (fun cw18 => ?_)
          refine E_iload dX3_reckon_21 rfl ?_
          refine E_iload_n dX3_reckon_23 rfl ?_
          refine E_cN_ge (a := pc) (b := to) (tgt := 316) dX3_reckon_24 (by omega) (by omega) (by decide) (fun cw24 => absurd cw24 (by omega)) (fun cw24 => ?_)
          refine E_iload dX3_reckon_27 rfl ?_
          refine E_sp (nI 240) dX3_reckon_29 (by decide) ?_
          refine E_cN_ge (a := pc) (b := 240) (tgt := 316) dX3_reckon_32 (by omega) (by decide) (by decide) (fun cw32 => absurd cw32 (by omega)) (fun cw32 => ?_)
          refine E_aload_n dX3_reckon_35 rfl ?_
          refine E_getR dX3_reckon_36 f_X3_9 rfl (Nat.lt_of_lt_of_le (by decide) hN) rfl (hR _ _ _ rfl) ?_
          refine E_iload dX3_reckon_39 rfl ?_
          refine E_ialdN dX3_reckon_41 rfl (Nat.lt_of_lt_of_le (by decide) hN) (by omega) ?_
          refine E.top ((hcode pc (by omega)).trans (congrArg (fun z => nI (z + 256 * (code pc).2)) (wh_of (w := 38) ho rfl))) ?_
          refine E_sp (nI 255) dX3_reckon_42 (by decide) ?_
          refine E_iand dX3_reckon_45 ?_
          refine E.top (wd_and (by decide) hv2) ?_
          refine E_istore dX3_reckon_46 (Nat.le_of_ble_eq_true rfl) ?_
          refine E_aload_n dX3_reckon_48 rfl ?_
          refine E_getR dX3_reckon_49 f_X3_9 rfl (Nat.lt_of_lt_of_le (by decide) hN) rfl (hR _ _ _ rfl) ?_
          refine E_iload dX3_reckon_52 rfl ?_
          refine E_ialdN dX3_reckon_54 rfl (Nat.lt_of_lt_of_le (by decide) hN) (by omega) ?_
          refine E.top ((hcode pc (by omega)).trans (congrArg (fun z => nI (z + 256 * (code pc).2)) (wh_of (w := 38) ho rfl))) ?_
          refine E_bp (nI 8) dX3_reckon_55 (by decide) ?_
          refine E_iushr dX3_reckon_57 ?_
          refine E.top (wd_shr (by decide) hv2) ?_
          refine E_istore dX3_reckon_58 (Nat.le_of_ble_eq_true rfl) ?_
          refine E_incN dX3_reckon_60 rfl ?_
          refine E_iload dX3_reckon_63 rfl ?_
          refine E_bp (nI 78) dX3_reckon_65 (by decide) ?_
          refine E_cN_eq (a := 38) (b := 78) (tgt := 77) dX3_reckon_67 (by decide) (by decide) (by decide) (fun cw67 => absurd cw67 (by omega)) (fun cw67 => ?_)
          refine E_iload dX3_reckon_70 rfl ?_
          refine E_bp (nI 75) dX3_reckon_72 (by decide) ?_
          refine E_cN_ne (a := 38) (b := 75) (tgt := 133) dX3_reckon_74 (by decide) (by decide) (by decide) (fun cw74 => ?_) (fun cw74 => absurd cw74 (by omega))
          refine E_iload_n dX3_reckon_133 rfl ?_
          refine E_ic (nI 1) dX3_reckon_134 (by decide) ?_
          refine E_cN_ge (a := s.length + 1) (b := 1) (tgt := 140) dX3_reckon_135 (by omega) (by decide) (by decide) (fun cw135 => ?_) (fun cw135 => absurd cw135 (by omega))
          refine E_iload dX3_reckon_140 rfl ?_
          refine E_bp (nI 33) dX3_reckon_142 (by decide) ?_
          refine E_cN_ne (a := 38) (b := 33) (tgt := 174) dX3_reckon_144 (by decide) (by decide) (by decide) (fun cw144 => ?_) (fun cw144 => absurd cw144 (by omega))
          refine E_iload dX3_reckon_174 rfl ?_
          refine E_bp (nI 124) dX3_reckon_176 (by decide) ?_
          refine E_cN_eq (a := 38) (b := 124) (tgt := 188) dX3_reckon_178 (by decide) (by decide) (by decide) (fun cw178 => absurd cw178 (by omega)) (fun cw178 => ?_)
          refine E_iload dX3_reckon_181 rfl ?_
          refine E_bp (nI 38) dX3_reckon_183 (by decide) ?_
          refine E_cN_ne (a := 38) (b := 38) (tgt := 236) dX3_reckon_185 (by decide) (by decide) (by decide) (fun cw185 => absurd cw185 (by omega)) (fun cw185 => ?_)
          refine E_aload_n dX3_reckon_188 rfl ?_
          refine E_getR dX3_reckon_189 f_X3_38 rfl (Nat.lt_of_lt_of_le (by decide) hN) rfl (hR _ _ _ rfl) ?_
          refine E_iload_n dX3_reckon_192 rfl ?_
          refine E_ic (nI 1) dX3_reckon_193 (by decide) ?_
          refine E_isub dX3_reckon_194 ?_
          refine E.top (pk_sub (a := s.length + 1) (b := 1) (by omega)) ?_
          refine E.top (congrArg nI (Nat.add_sub_cancel (n := s.length) (m := 1))) ?_
          refine E_ialdN dX3_reckon_195 rfl (Nat.lt_of_lt_of_le (by decide) hN) (by omega) ?_
          refine E.top (hsk.1) ?_
          refine E_zN_eq (a := 1) (tgt := 203) dX3_reckon_196 (by decide) (by decide) (fun cw196 => absurd cw196 (by omega)) (fun cw196 => ?_)
          refine E_ic (nI 1) dX3_reckon_199 (by decide) ?_
          refine E_goto (tgt := 204) dX3_reckon_200 (by decide) ?_
          refine E_istore dX3_reckon_204 (Nat.le_of_ble_eq_true rfl) ?_
          refine E_iload dX3_reckon_206 rfl ?_
          refine E_iload dX3_reckon_208 rfl ?_
          refine E_bp (nI 124) dX3_reckon_210 (by decide) ?_
          refine E_cN_ne (a := 38) (b := 124) (tgt := 219) dX3_reckon_212 (by decide) (by decide) (by decide) (fun cw212 => ?_) (fun cw212 => absurd cw212 (by omega))
          refine E_ic (nI 0) dX3_reckon_219 (by decide) ?_
          refine E_cN_ne (a := 1) (b := 0) (tgt := 230) dX3_reckon_220 (by decide) (by decide) (by decide) (fun cw220 => ?_) (fun cw220 => absurd cw220 (by omega))
          refine E_decN dX3_reckon_230 rfl ?_
          refine E_goto (tgt := 310) dX3_reckon_233 (by decide) ?_
          refine E_incN dX3_reckon_310 rfl ?_
          refine E_goto (tgt := 8) dX3_reckon_313 (by decide) ?_
          refine E.mask [true, true, true, true, true, true, false, false, false] ?_
          exact ih (step + 1) (pc + 1) s I (by omega) h2 hcode hfa hsk.2 (by omega) (by have : s.length + 1 ≤ 32 := hlen; omega) hQ
      · -- 12
        obtain ⟨s, ⟨rfl, h3, h3b, h2⟩ | ⟨rfl, h2⟩⟩ := ev_12 cp ho h
        · skip
          have hl2 : s.length + 1 ≤ 32 := hlen
          refine E_iload dX3_reckon_8 rfl ?_
          refine E_sp (nI 240) dX3_reckon_10 (by decide) ?_
          refine E_cN_ge (a := step) (b := 240) (tgt := 316) dX3_reckon_13 (by omega) (by decide) (by decide) (fun cw13 => absurd cw13 (by omega)) (fun cw13 => ?_)
          refine E_iload dX3_reckon_16 rfl ?_
          refine E_zN_lt (a := pc) (tgt := 316) dX3_reckon_18 (by omega) (by decide) (fun cw18 => cw18.elim) (fun cw18 => ?_)
          refine E_iload dX3_reckon_21 rfl ?_
          refine E_iload_n dX3_reckon_23 rfl ?_
          refine E_cN_ge (a := pc) (b := to) (tgt := 316) dX3_reckon_24 (by omega) (by omega) (by decide) (fun cw24 => absurd cw24 (by omega)) (fun cw24 => ?_)
          refine E_iload dX3_reckon_27 rfl ?_
          refine E_sp (nI 240) dX3_reckon_29 (by decide) ?_
          refine E_cN_ge (a := pc) (b := 240) (tgt := 316) dX3_reckon_32 (by omega) (by decide) (by decide) (fun cw32 => absurd cw32 (by omega)) (fun cw32 => ?_)
          refine E_aload_n dX3_reckon_35 rfl ?_
          refine E_getR dX3_reckon_36 f_X3_9 rfl (Nat.lt_of_lt_of_le (by decide) hN) rfl (hR _ _ _ rfl) ?_
          refine E_iload dX3_reckon_39 rfl ?_
          refine E_ialdN dX3_reckon_41 rfl (Nat.lt_of_lt_of_le (by decide) hN) (by omega) ?_
          refine E.top ((hcode pc (by omega)).trans (congrArg (fun z => nI (z + 256 * (code pc).2)) (wh_of (w := 124) ho rfl))) ?_
          refine E_sp (nI 255) dX3_reckon_42 (by decide) ?_
          refine E_iand dX3_reckon_45 ?_
          refine E.top (wd_and (by decide) hv2) ?_
          refine E_istore dX3_reckon_46 (Nat.le_of_ble_eq_true rfl) ?_
          refine E_aload_n dX3_reckon_48 rfl ?_
          refine E_getR dX3_reckon_49 f_X3_9 rfl (Nat.lt_of_lt_of_le (by decide) hN) rfl (hR _ _ _ rfl) ?_
          refine E_iload dX3_reckon_52 rfl ?_
          refine E_ialdN dX3_reckon_54 rfl (Nat.lt_of_lt_of_le (by decide) hN) (by omega) ?_
          refine E.top ((hcode pc (by omega)).trans (congrArg (fun z => nI (z + 256 * (code pc).2)) (wh_of (w := 124) ho rfl))) ?_
          refine E_bp (nI 8) dX3_reckon_55 (by decide) ?_
          refine E_iushr dX3_reckon_57 ?_
          refine E.top (wd_shr (by decide) hv2) ?_
          refine E_istore dX3_reckon_58 (Nat.le_of_ble_eq_true rfl) ?_
          refine E_incN dX3_reckon_60 rfl ?_
          refine E_iload dX3_reckon_63 rfl ?_
          refine E_bp (nI 78) dX3_reckon_65 (by decide) ?_
          refine E_cN_eq (a := 124) (b := 78) (tgt := 77) dX3_reckon_67 (by decide) (by decide) (by decide) (fun cw67 => absurd cw67 (by omega)) (fun cw67 => ?_)
          refine E_iload dX3_reckon_70 rfl ?_
          refine E_bp (nI 75) dX3_reckon_72 (by decide) ?_
          refine E_cN_ne (a := 124) (b := 75) (tgt := 133) dX3_reckon_74 (by decide) (by decide) (by decide) (fun cw74 => ?_) (fun cw74 => absurd cw74 (by omega))
          refine E_iload_n dX3_reckon_133 rfl ?_
          refine E_ic (nI 1) dX3_reckon_134 (by decide) ?_
          refine E_cN_ge (a := s.length + 1) (b := 1) (tgt := 140) dX3_reckon_135 (by omega) (by decide) (by decide) (fun cw135 => ?_) (fun cw135 => absurd cw135 (by omega))
          refine E_iload dX3_reckon_140 rfl ?_
          refine E_bp (nI 33) dX3_reckon_142 (by decide) ?_
          refine E_cN_ne (a := 124) (b := 33) (tgt := 174) dX3_reckon_144 (by decide) (by decide) (by decide) (fun cw144 => ?_) (fun cw144 => absurd cw144 (by omega))
          refine E_iload dX3_reckon_174 rfl ?_
          refine E_bp (nI 124) dX3_reckon_176 (by decide) ?_
          refine E_cN_eq (a := 124) (b := 124) (tgt := 188) dX3_reckon_178 (by decide) (by decide) (by decide) (fun cw178 => ?_) (fun cw178 => absurd cw178 (by omega))
          refine E_aload_n dX3_reckon_188 rfl ?_
          refine E_getR dX3_reckon_189 f_X3_38 rfl (Nat.lt_of_lt_of_le (by decide) hN) rfl (hR _ _ _ rfl) ?_
          refine E_iload_n dX3_reckon_192 rfl ?_
          refine E_ic (nI 1) dX3_reckon_193 (by decide) ?_
          refine E_isub dX3_reckon_194 ?_
          refine E.top (pk_sub (a := s.length + 1) (b := 1) (by omega)) ?_
          refine E.top (congrArg nI (Nat.add_sub_cancel (n := s.length) (m := 1))) ?_
          refine E_ialdN dX3_reckon_195 rfl (Nat.lt_of_lt_of_le (by decide) hN) (by omega) ?_
          refine E.top (hsk.1) ?_
          refine E_zN_eq (a := 1) (tgt := 203) dX3_reckon_196 (by decide) (by decide) (fun cw196 => absurd cw196 (by omega)) (fun cw196 => ?_)
          refine E_ic (nI 1) dX3_reckon_199 (by decide) ?_
          refine E_goto (tgt := 204) dX3_reckon_200 (by decide) ?_
          refine E_istore dX3_reckon_204 (Nat.le_of_ble_eq_true rfl) ?_
          refine E_iload dX3_reckon_206 rfl ?_
          refine E_iload dX3_reckon_208 rfl ?_
          refine E_bp (nI 124) dX3_reckon_210 (by decide) ?_
          refine E_cN_ne (a := 124) (b := 124) (tgt := 219) dX3_reckon_212 (by decide) (by decide) (by decide) (fun cw212 => absurd cw212 (by omega)) (fun cw212 => ?_)
          refine E_ic (nI 1) dX3_reckon_215 (by decide) ?_
          refine E_goto (tgt := 220) dX3_reckon_216 (by decide) ?_
          refine E_cN_ne (a := 1) (b := 1) (tgt := 230) dX3_reckon_220 (by decide) (by decide) (by decide) (fun cw220 => absurd cw220 (by omega)) (fun cw220 => ?_)
          refine E_iload dX3_reckon_223 rfl ?_
          refine E_istore dX3_reckon_225 (Nat.le_of_ble_eq_true rfl) ?_
          refine E_goto (tgt := 233) dX3_reckon_227 (by decide) ?_
          refine E_goto (tgt := 310) dX3_reckon_233 (by decide) ?_
          refine E_incN dX3_reckon_310 rfl ?_
          refine E_goto (tgt := 8) dX3_reckon_313 (by decide) ?_
          refine E.mask [true, true, true, true, true, true, false, false, false] ?_
          exact ih (step + 1) (code pc).2 (1 :: s) I (by omega) h2 hcode hfa hsk h3b hlen hQ
        · skip
          have hl2 : s.length + 1 ≤ 32 := hlen
          refine E_iload dX3_reckon_8 rfl ?_
          refine E_sp (nI 240) dX3_reckon_10 (by decide) ?_
          refine E_cN_ge (a := step) (b := 240) (tgt := 316) dX3_reckon_13 (by omega) (by decide) (by decide) (fun cw13 => absurd cw13 (by omega)) (fun cw13 => ?_)
          refine E_iload dX3_reckon_16 rfl ?_
          refine E_zN_lt (a := pc) (tgt := 316) dX3_reckon_18 (by omega) (by decide) (fun cw18 => cw18.elim) (fun cw18 => ?_)
          refine E_iload dX3_reckon_21 rfl ?_
          refine E_iload_n dX3_reckon_23 rfl ?_
          refine E_cN_ge (a := pc) (b := to) (tgt := 316) dX3_reckon_24 (by omega) (by omega) (by decide) (fun cw24 => absurd cw24 (by omega)) (fun cw24 => ?_)
          refine E_iload dX3_reckon_27 rfl ?_
          refine E_sp (nI 240) dX3_reckon_29 (by decide) ?_
          refine E_cN_ge (a := pc) (b := 240) (tgt := 316) dX3_reckon_32 (by omega) (by decide) (by decide) (fun cw32 => absurd cw32 (by omega)) (fun cw32 => ?_)
          refine E_aload_n dX3_reckon_35 rfl ?_
          refine E_getR dX3_reckon_36 f_X3_9 rfl (Nat.lt_of_lt_of_le (by decide) hN) rfl (hR _ _ _ rfl) ?_
          refine E_iload dX3_reckon_39 rfl ?_
          refine E_ialdN dX3_reckon_41 rfl (Nat.lt_of_lt_of_le (by decide) hN) (by omega) ?_
          refine E.top ((hcode pc (by omega)).trans (congrArg (fun z => nI (z + 256 * (code pc).2)) (wh_of (w := 124) ho rfl))) ?_
          refine E_sp (nI 255) dX3_reckon_42 (by decide) ?_
          refine E_iand dX3_reckon_45 ?_
          refine E.top (wd_and (by decide) hv2) ?_
          refine E_istore dX3_reckon_46 (Nat.le_of_ble_eq_true rfl) ?_
          refine E_aload_n dX3_reckon_48 rfl ?_
          refine E_getR dX3_reckon_49 f_X3_9 rfl (Nat.lt_of_lt_of_le (by decide) hN) rfl (hR _ _ _ rfl) ?_
          refine E_iload dX3_reckon_52 rfl ?_
          refine E_ialdN dX3_reckon_54 rfl (Nat.lt_of_lt_of_le (by decide) hN) (by omega) ?_
          refine E.top ((hcode pc (by omega)).trans (congrArg (fun z => nI (z + 256 * (code pc).2)) (wh_of (w := 124) ho rfl))) ?_
          refine E_bp (nI 8) dX3_reckon_55 (by decide) ?_
          refine E_iushr dX3_reckon_57 ?_
          refine E.top (wd_shr (by decide) hv2) ?_
          refine E_istore dX3_reckon_58 (Nat.le_of_ble_eq_true rfl) ?_
          refine E_incN dX3_reckon_60 rfl ?_
          refine E_iload dX3_reckon_63 rfl ?_
          refine E_bp (nI 78) dX3_reckon_65 (by decide) ?_
          refine E_cN_eq (a := 124) (b := 78) (tgt := 77) dX3_reckon_67 (by decide) (by decide) (by decide) (fun cw67 => absurd cw67 (by omega)) (fun cw67 => ?_)
          refine E_iload dX3_reckon_70 rfl ?_
          refine E_bp (nI 75) dX3_reckon_72 (by decide) ?_
          refine E_cN_ne (a := 124) (b := 75) (tgt := 133) dX3_reckon_74 (by decide) (by decide) (by decide) (fun cw74 => ?_) (fun cw74 => absurd cw74 (by omega))
          refine E_iload_n dX3_reckon_133 rfl ?_
          refine E_ic (nI 1) dX3_reckon_134 (by decide) ?_
          refine E_cN_ge (a := s.length + 1) (b := 1) (tgt := 140) dX3_reckon_135 (by omega) (by decide) (by decide) (fun cw135 => ?_) (fun cw135 => absurd cw135 (by omega))
          refine E_iload dX3_reckon_140 rfl ?_
          refine E_bp (nI 33) dX3_reckon_142 (by decide) ?_
          refine E_cN_ne (a := 124) (b := 33) (tgt := 174) dX3_reckon_144 (by decide) (by decide) (by decide) (fun cw144 => ?_) (fun cw144 => absurd cw144 (by omega))
          refine E_iload dX3_reckon_174 rfl ?_
          refine E_bp (nI 124) dX3_reckon_176 (by decide) ?_
          refine E_cN_eq (a := 124) (b := 124) (tgt := 188) dX3_reckon_178 (by decide) (by decide) (by decide) (fun cw178 => ?_) (fun cw178 => absurd cw178 (by omega))
          refine E_aload_n dX3_reckon_188 rfl ?_
          refine E_getR dX3_reckon_189 f_X3_38 rfl (Nat.lt_of_lt_of_le (by decide) hN) rfl (hR _ _ _ rfl) ?_
          refine E_iload_n dX3_reckon_192 rfl ?_
          refine E_ic (nI 1) dX3_reckon_193 (by decide) ?_
          refine E_isub dX3_reckon_194 ?_
          refine E.top (pk_sub (a := s.length + 1) (b := 1) (by omega)) ?_
          refine E.top (congrArg nI (Nat.add_sub_cancel (n := s.length) (m := 1))) ?_
          refine E_ialdN dX3_reckon_195 rfl (Nat.lt_of_lt_of_le (by decide) hN) (by omega) ?_
          refine E.top (hsk.1) ?_
          refine E_zN_eq (a := 0) (tgt := 203) dX3_reckon_196 (by decide) (by decide) (fun cw196 => ?_) (fun cw196 => absurd cw196 (by omega))
          refine E_ic (nI 0) dX3_reckon_203 (by decide) ?_
          refine E_istore dX3_reckon_204 (Nat.le_of_ble_eq_true rfl) ?_
          refine E_iload dX3_reckon_206 rfl ?_
          refine E_iload dX3_reckon_208 rfl ?_
          refine E_bp (nI 124) dX3_reckon_210 (by decide) ?_
          refine E_cN_ne (a := 124) (b := 124) (tgt := 219) dX3_reckon_212 (by decide) (by decide) (by decide) (fun cw212 => absurd cw212 (by omega)) (fun cw212 => ?_)
          refine E_ic (nI 1) dX3_reckon_215 (by decide) ?_
          refine E_goto (tgt := 220) dX3_reckon_216 (by decide) ?_
          refine E_cN_ne (a := 0) (b := 1) (tgt := 230) dX3_reckon_220 (by decide) (by decide) (by decide) (fun cw220 => ?_) (fun cw220 => absurd cw220 (by omega))
          refine E_decN dX3_reckon_230 rfl ?_
          refine E_goto (tgt := 310) dX3_reckon_233 (by decide) ?_
          refine E_incN dX3_reckon_310 rfl ?_
          refine E_goto (tgt := 8) dX3_reckon_313 (by decide) ?_
          refine E.mask [true, true, true, true, true, true, false, false, false] ?_
          exact ih (step + 1) (pc + 1) s I (by omega) h2 hcode hfa hsk.2 (by omega) (by have : s.length + 1 ≤ 32 := hlen; omega) hQ
set_option maxRecDepth 100000 in
set_option maxHeartbeats 2000000 in
theorem x_reckon {code : CDE} {fa : Nat → Int32} {to fr : Nat} {v : Int32} (hN : 152 ≤ n) (hR : RS R) (hto : to ≤ 240) (hfr : fr ≤ 240) (hcd : CDok code to) (h : evL code fa to 240 fr [] = some v) (hcode : ∀ i, i < to → I 4 i = nI (whc (code i).1 + 256 * (code i).2)) (hfa : ∀ j, j < 9 → I 9 j = fa j) (hQ : ∀ I2 : IM, (∀ x, x ≠ 10 → I2 x = I x) → Q (some (.int v)) n I2 J R) : E g mX3_reckon (d + 1) 0 0 0 (ent 9 [.ref 3, .int (nI fr), .int (nI to)]) [] n I J R Q := by
  refine E_ic (nI 0) dX3_reckon_0 (by decide) ?_
  refine E_istore_n dX3_reckon_1 (Nat.le_of_ble_eq_true rfl) ?_
  refine E_iload_n dX3_reckon_2 rfl ?_
  refine E_istore dX3_reckon_3 (Nat.le_of_ble_eq_true rfl) ?_
  refine E_ic (nI 0) dX3_reckon_5 (by decide) ?_
  refine E_istore dX3_reckon_6 (Nat.le_of_ble_eq_true rfl) ?_
  exact x_rkL hN hR hto hcd 240 0 fr [] I rfl h hcode hfa trivial hfr (by decide) hQ
end PReckon
