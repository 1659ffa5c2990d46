/-! ===== the law's sums: a stack comes to the same ===== -/
/-- what waits, the last first: sign, place -/
abbrev WK : Type := List (Nat × Nat)
def oP (FL : Int32 → Prop) (K : TS → Prop) : PR → Prop
  | .inl x => FL x
  | .inr r => K r
theorem oP_b {FL : Int32 → Prop} {K : TS → Prop} {x : PR} {f : TS → PR} (h : oP FL K (bnd x f)) : oP FL (fun r => oP FL K (f r)) x := by
  match x, h with
  | .inl e, h => exact h
  | .inr q, h => exact h
theorem oP_m {FL : Int32 → Prop} {K K2 : TS → Prop} {x : PR} (h : oP FL K x) (m : ∀ r, x = .inr r → K r → K2 r) : oP FL K2 x := by
  match x, h, m with
  | .inl e, h, _ => exact h
  | .inr q, h, m => exact m q rfl h
/-- signs that wait are laid: of terms, or all -/
def csR (al : Bool) : WK → Nat × CDE → WK × Nat × CDE
  | [], x => ([], x)
  | e :: st, x => if (4 ≤ e.1 ∧ e.1 ≤ 6) ∨ (al = true ∧ (e.1 = 2 ∨ e.1 = 3)) then csR al st (x.1 + 1, cdU x.2 x.1 (e.1, 0)) else (e :: st, x)
def fcR (c : Nat → Nat) : Nat → WK → TS → Int32 ⊕ (Nat × WK × TS)
  | k, st, q => if c q.1 = 91 then (match k with
    | 0 => .inl (flt 5 q.1)
    | k + 1 => fcR c k ((14, 0) :: st) (q.1 + 1, q.2)) else match atL c q with
    | .inl x => .inl x
    | .inr r => .inr (k, st, r)
def oF (FL : Int32 → Prop) (HD : Nat → WK → TS → Prop) : Int32 ⊕ (Nat × WK × TS) → Prop
  | .inl x => FL x
  | .inr r => HD r.1 r.2.1 r.2.2
def hdB (L b : Nat) (st : WK) (q : TS) : Prop := q.1 ≤ L ∧ q.2.1 + st.length ≤ q.1 ∧ st.length + b ≤ q.1
def no14 (st : WK) : Prop := ∀ e, e ∈ st → ¬ e.1 = 14
abbrev okW (st : WK) : Prop := ∀ e, e ∈ st → ((2 ≤ e.1 ∧ e.1 ≤ 6) ∨ e.1 = 14) ∧ e.2 = 0
/-- what the head of the reference's loop owes -/
def HDC (c : Nat → Nat) (L b : Nat) (FL : Int32 → Prop) (OK : TS → Prop) (HD : Nat → WK → TS → Prop) : Prop :=
  (∀ k st q, hdB L b st q → okW st → ¬ sgL (c q.1) = 0 → oF FL HD (fcR c k ((sgL (c q.1), 0) :: (csR (decide (sgL (c q.1) ≤ 3)) st q.2).1) (q.1 + 1, (csR (decide (sgL (c q.1) ≤ 3)) st q.2).2)) → HD k st q) ∧
  (∀ k st q st' x, hdB L b st q → okW st → sgL (c q.1) = 0 → c q.1 = 93 → csR true st q.2 = ((14, 0) :: st', x) → HD (k + 1) st' (q.1 + 1, x) → HD k st q) ∧
  (∀ k st q, hdB L b st q → okW st → sgL (c q.1) = 0 → ¬ c q.1 = 93 → ¬ no14 st → FL (flt 1 q.1) → HD k st q) ∧
  ∀ k st q x, hdB L b st q → okW st → sgL (c q.1) = 0 → no14 st → csR true st q.2 = ([], x) → OK (q.1, x) → HD k st q
def lev (t w : Nat) (rest : WK) : WK := if t = 0 then (if w = 0 then rest else (w, 0) :: rest) else (t, 0) :: (if w = 0 then rest else (w, 0) :: rest)
def stopW (rest : WK) : Prop := rest = [] ∨ ∃ st, rest = (14, 0) :: st
theorem cs_stop {al : Bool} {rest : WK} {x : Nat × CDE} (h : stopW rest) : csR al rest x = (rest, x) := by
  rcases h with rfl | ⟨st, rfl⟩
  · rfl
  · unfold csR
    exact if_neg (fun z => z.elim (fun y => absurd y.2 (by decide : ¬ (14 : Nat) ≤ 6)) (fun y => y.2.elim (fun y => absurd y (by decide : ¬ (14 : Nat) = 2)) (fun y => absurd y (by decide : ¬ (14 : Nat) = 3))))
theorem cs_all {t w : Nat} {rest : WK} {q : TS} (h : stopW rest) (ht : t = 0 ∨ (4 ≤ t ∧ t ≤ 6)) (hw : w = 0 ∨ w = 2 ∨ w = 3) : csR true (lev t w rest) q.2 = (rest, (emL w (emL t q)).2) := by
  have one : ∀ x : Nat × CDE, ∀ p : Nat, csR true (if w = 0 then rest else (w, 0) :: rest) x = (rest, (emL w (p, x)).2) := fun x p => by
    by_cases e : w = 0
    · rw [if_pos e, e, cs_stop h]
      rfl
    · rw [if_neg e, emL_n e]
      show (if (4 ≤ w ∧ w ≤ 6) ∨ (true = true ∧ (w = 2 ∨ w = 3)) then csR true rest (x.1 + 1, cdU x.2 x.1 (w, 0)) else _) = _
      rw [if_pos (Or.inr ⟨rfl, by omega⟩), cs_stop h]
  unfold lev
  by_cases e : t = 0
  · rw [if_pos e, e, emL_z]
    exact one q.2 q.1
  · rw [if_neg e, emL_n e]
    show (if (4 ≤ t ∧ t ≤ 6) ∨ (true = true ∧ (t = 2 ∨ t = 3)) then csR true (if w = 0 then rest else (w, 0) :: rest) (q.2.1 + 1, cdU q.2.2 q.2.1 (t, 0)) else _) = _
    rw [if_pos (Or.inl (by omega))]
    exact one _ q.1
theorem cs_term {t w : Nat} {rest : WK} {q : TS} (h : stopW rest) (ht : t = 0 ∨ (4 ≤ t ∧ t ≤ 6)) (hw : w = 0 ∨ w = 2 ∨ w = 3) : csR false (lev t w rest) q.2 = (lev 0 w rest, (emL t q).2) := by
  have one : ∀ x : Nat × CDE, csR false (if w = 0 then rest else (w, 0) :: rest) x = (if w = 0 then rest else (w, 0) :: rest, x) := fun x => by
    by_cases e : w = 0
    · rw [if_pos e, cs_stop h]
    · rw [if_neg e]
      show (if (4 ≤ w ∧ w ≤ 6) ∨ (false = true ∧ (w = 2 ∨ w = 3)) then csR false rest (x.1 + 1, cdU x.2 x.1 (w, 0)) else _) = _
      rw [if_neg (by intro z; rcases z with z | ⟨z, _⟩; omega; exact absurd z (by decide))]
  have e0 : lev 0 w rest = if w = 0 then rest else (w, 0) :: rest := if_pos rfl
  rw [e0]
  unfold lev
  by_cases e : t = 0
  · rw [if_pos e, e, emL_z]
    exact one q.2
  · rw [if_neg e, emL_n e]
    show (if (4 ≤ t ∧ t ≤ 6) ∨ (false = true ∧ (t = 2 ∨ t = 3)) then csR false (if w = 0 then rest else (w, 0) :: rest) (q.2.1 + 1, cdU q.2.2 q.2.1 (t, 0)) else _) = _
    rw [if_pos (Or.inl (by omega))]
    exact one _
theorem lev_len (t w : Nat) (rest : WK) : (lev t w rest).length = wz t + wz w + rest.length := by
  unfold lev wz
  by_cases e : t = 0 <;> by_cases f : w = 0
  · rw [if_pos e, if_pos f, if_pos e, if_pos f]; omega
  · rw [if_pos e, if_neg f, if_pos e, if_neg f]; show rest.length + 1 = _; omega
  · rw [if_neg e, if_pos f, if_neg e, if_pos f]; show rest.length + 1 = _; omega
  · rw [if_neg e, if_neg f, if_neg e, if_neg f]; show rest.length + 1 + 1 = _; omega
theorem lev_ok {t w : Nat} {rest : WK} (h : okW rest) (ht : t = 0 ∨ (4 ≤ t ∧ t ≤ 6)) (hw : w = 0 ∨ w = 2 ∨ w = 3) : okW (lev t w rest) := by
  have one : okW (if w = 0 then rest else (w, 0) :: rest) := by
    by_cases f : w = 0
    · rw [if_pos f]; exact h
    · rw [if_neg f]
      intro e he
      rcases List.mem_cons.mp he with rfl | he
      · exact ⟨Or.inl (by show 2 ≤ w ∧ w ≤ 6; omega), rfl⟩
      · exact h e he
  unfold lev
  by_cases f : t = 0
  · rw [if_pos f]; exact one
  · rw [if_neg f]
    intro e he
    rcases List.mem_cons.mp he with rfl | he
    · exact ⟨Or.inl (by show 2 ≤ t ∧ t ≤ 6; omega), rfl⟩
    · exact one e he
theorem lev_14 {t w : Nat} {rest : WK} (h : ¬ no14 rest) : ¬ no14 (lev t w rest) := by
  intro z
  apply h
  intro e he
  apply z
  unfold lev
  by_cases f : t = 0 <;> by_cases g : w = 0
  · rw [if_pos f, if_pos g]; exact he
  · rw [if_pos f, if_neg g]; exact List.mem_cons_of_mem _ he
  · rw [if_neg f, if_pos g]; exact List.mem_cons_of_mem _ he
  · rw [if_neg f, if_neg g]; exact List.mem_cons_of_mem _ (List.mem_cons_of_mem _ he)
theorem lev_no {t w : Nat} (ht : t = 0 ∨ (4 ≤ t ∧ t ≤ 6)) (hw : w = 0 ∨ w = 2 ∨ w = 3) : no14 (lev t w []) := by
  intro e he
  have : ∀ x ∈ (if w = 0 then ([] : WK) else [(w, 0)]), ¬ x.1 = 14 := by
    intro x hx
    by_cases g : w = 0
    · rw [if_pos g] at hx; cases hx
    · rw [if_neg g] at hx
      rcases List.mem_cons.mp hx with rfl | hx
      · show ¬ w = 14; omega
      · cases hx
  unfold lev at he
  by_cases f : t = 0
  · rw [if_pos f] at he; exact this e he
  · rw [if_neg f] at he
    rcases List.mem_cons.mp he with rfl | he
    · show ¬ t = 14; omega
    · exact this e he
theorem fk_ok {t c : Nat → Nat} {L : Nat} (hc : okc t L c) : ∀ k, OKP L (2 * k + 1) VT (fkL c k)
  | 0 => fc_ok (sub := fun _ => .inl 0) hc (fun z => absurd rfl z)
  | k + 1 => fc_ok (sub := smL c k) hc (fun _ => sm_ok hc k)
section PSumR
variable {t c : Nat → Nat} {L b : Nat} {FL : Int32 → Prop} {OK : TS → Prop} {HD : Nat → WK → TS → Prop}
theorem sl_R (hc : okc t L c) (H : HDC c L b FL OK HD) {k : Nat} {rest : WK} {EN : TS → Prop} (hr : stopW rest) (ho : okW rest) (A : ∀ st q, hdB L b st q → okW st → oP FL (fun r => HD k st r) (fkL c k q) → oF FL HD (fcR c k st q)) (hE : ∀ q u w, (u = 0 ∨ (4 ≤ u ∧ u ≤ 6)) → (w = 0 ∨ w = 2 ∨ w = 3) → hdB L b (lev u w rest) q → sgL (c q.1) = 0 → EN (emL w (emL u q)) → HD k (lev u w rest) q) : ∀ (e w u : Nat) (q : TS), (u = 0 ∨ (4 ≤ u ∧ u ≤ 6)) → (w = 0 ∨ w = 2 ∨ w = 3) → hdB L b (lev u w rest) q → L ≤ e + q.1 → oP FL EN (slL c (fkL c k) e w (emL u q)) → HD k (lev u w rest) q
  | 0, w, u, q, hu, hw, hb, hf, h => by
    refine hE q u w hu hw hb ?_ h
    rcases hc.at q.1 with z | z
    · omega
    · rw [z.2]; rfl
  | e + 1, w, u, q, hu, hw, hb, hf, h => by
    unfold slL at h
    rw [emL_p] at h
    by_cases c1 : sgL (c q.1) = 0
    · rw [if_pos c1] at h
      exact hE q u w hu hw hb c1 h
    · rw [if_neg c1] at h
      obtain ⟨s1, s2, s3⟩ := sg_lt c1
      have hp := hc.lt s1
      have hb0 := id hb
      obtain ⟨b1, b2, b3⟩ := hb0
      rw [lev_len] at b2 b3
      have eu : (emL u q).2.1 = q.2.1 + wz u := by unfold emL wz; split <;> rfl
      have ew : (emL w (emL u q)).2.1 = q.2.1 + wz u + wz w := by rw [← eu]; show (emL w (emL u q)).2.1 = (emL u q).2.1 + wz w; unfold emL wz; split <;> rfl
      have z1 : wz (sgL (c q.1)) = 1 := if_neg c1
      by_cases c2 : sgL (c q.1) ≤ 3
      · rw [if_pos c2] at h
        refine H.1 k _ q hb (lev_ok ho hu hw) c1 ?_
        rw [decide_eq_true c2, cs_all hr hu hw]
        have elv : (sgL (c q.1), 0) :: rest = lev 0 (sgL (c q.1)) rest := ((if_pos rfl).trans (if_neg c1)).symm
        have hb2 : hdB L b ((sgL (c q.1), 0) :: rest) (q.1 + 1, (emL w (emL u q)).2) := ⟨hp, by show (emL w (emL u q)).2.1 + (rest.length + 1) ≤ q.1 + 1; omega, by show rest.length + 1 + b ≤ q.1 + 1; omega⟩
        refine A _ _ hb2 (by rw [elv]; exact lev_ok ho (Or.inl rfl) (by omega)) ?_
        refine oP_m (oP_b h) (fun r hr2 h2 => ?_)
        obtain ⟨g1, g2, g3, _⟩ := fk_ok hc k (q.1 + 1, (emL w (emL u q)).2) r hp (by show (emL w (emL u q)).2.1 ≤ q.1 + 1; omega) hr2
        have g2 : q.1 + 1 < r.1 := g2
        have g4 : r.2.1 + (q.1 + 1) + 0 ≤ r.1 + (emL w (emL u q)).2.1 + 0 := g1.2.2.2.1
        show HD k ((sgL (c q.1), 0) :: rest) r
        rw [elv]
        exact sl_R hc H hr ho A hE e (sgL (c q.1)) 0 r (Or.inl rfl) (by omega) ⟨g1.2.1, by rw [lev_len, z1, show wz 0 = 0 from rfl]; omega, by rw [lev_len, z1, show wz 0 = 0 from rfl]; omega⟩ (by omega) h2
      · rw [if_neg c2] at h
        refine H.1 k _ q hb (lev_ok ho hu hw) c1 ?_
        rw [decide_eq_false c2, cs_term hr hu hw]
        have elv : (sgL (c q.1), 0) :: lev 0 w rest = lev (sgL (c q.1)) w rest := by
          unfold lev
          rw [if_pos rfl, if_neg c1]
        have hl0 : (lev 0 w rest).length = wz w + rest.length := by rw [lev_len]; show 0 + wz w + rest.length = _; omega
        have hb2 : hdB L b ((sgL (c q.1), 0) :: lev 0 w rest) (q.1 + 1, (emL u q).2) := ⟨hp, by show (emL u q).2.1 + ((lev 0 w rest).length + 1) ≤ q.1 + 1; omega, by show (lev 0 w rest).length + 1 + b ≤ q.1 + 1; omega⟩
        refine A _ _ hb2 (by rw [elv]; exact lev_ok ho (by omega) hw) ?_
        refine oP_m (oP_b h) (fun r hr2 h2 => ?_)
        obtain ⟨g1, g2, g3, _⟩ := fk_ok hc k (q.1 + 1, (emL u q).2) r hp (by show (emL u q).2.1 ≤ q.1 + 1; omega) hr2
        have g2 : q.1 + 1 < r.1 := g2
        have g4 : r.2.1 + (q.1 + 1) + 0 ≤ r.1 + (emL u q).2.1 + 0 := g1.2.2.2.1
        show HD k ((sgL (c q.1), 0) :: lev 0 w rest) r
        rw [elv]
        exact sl_R hc H hr ho A hE e w (sgL (c q.1)) r (by omega) hw ⟨g1.2.1, by rw [lev_len, z1]; omega, by rw [lev_len, z1]; omega⟩ (by omega) h2
theorem fc_R (hc : okc t L c) (hL : L ≤ 240) (H : HDC c L b FL OK HD) : ∀ (k : Nat) (st : WK) (q : TS), hdB L b st q → okW st → oP FL (fun r => HD k st r) (fkL c k q) → oF FL HD (fcR c k st q)
  | 0, st, q, hb, ho, h => by
    unfold fcR
    have h : oP FL (fun r => HD 0 st r) (if c q.1 = 91 then (if 0 = 0 then .inl (flt 5 q.1) else bnd (.inl 0) (psL c 93)) else atL c q) := h
    by_cases c1 : c q.1 = 91
    · rw [if_pos c1, if_pos rfl] at h
      rw [if_pos c1]
      exact h
    · rw [if_neg c1] at h ⊢
      cases ha : atL c q with
      | inl x => rw [ha] at h; exact h
      | inr r => rw [ha] at h; exact h
  | k + 1, st, q, hb, ho, h => by
    unfold fcR
    have h : oP FL (fun r => HD (k + 1) st r) (if c q.1 = 91 then (if k + 1 = 0 then .inl (flt 5 q.1) else bnd (smL c k (q.1 + 1, q.2)) (psL c 93)) else atL c q) := h
    by_cases c1 : c q.1 = 91
    · rw [if_pos c1, if_neg (Nat.succ_ne_zero k)] at h
      rw [if_pos c1]
      show oF FL HD (fcR c k ((14, 0) :: st) (q.1 + 1, q.2))
      obtain ⟨b1, b2, b3⟩ := hb
      have hp := hc.lt (p := q.1) (by omega)
      have ho2 : okW ((14, 0) :: st) := fun e he => by
        rcases List.mem_cons.mp he with rfl | he
        · exact ⟨Or.inr rfl, rfl⟩
        · exact ho e he
      have hb2 : hdB L b ((14, 0) :: st) (q.1 + 1, q.2) := ⟨hp, by show q.2.1 + (st.length + 1) ≤ q.1 + 1; omega, by show st.length + 1 + b ≤ q.1 + 1; omega⟩
      refine fc_R hc hL H k _ _ hb2 ho2 ?_
      rw [smL_e] at h
      have h2 := oP_b (oP_b h)
      refine oP_m h2 (fun r hr2 h3 => ?_)
      obtain ⟨g1, g2, g3, _⟩ := fk_ok hc k (q.1 + 1, q.2) r hp (by show q.2.1 ≤ q.1 + 1; omega) hr2
      have g2 : q.1 + 1 < r.1 := g2
      have g4 : r.2.1 + (q.1 + 1) + 0 ≤ r.1 + q.2.1 + 0 := g1.2.2.2.1
      refine sl_R hc H (k := k) (rest := (14, 0) :: st) (EN := fun r => oP FL (fun r => HD (k + 1) st r) (psL c 93 r)) (Or.inr ⟨st, rfl⟩) ho2 (fun st q => fc_R hc hL H k st q) (fun q2 u w hu hw hb3 hs hen => ?_) 240 0 0 r (Or.inl rfl) (Or.inl rfl) ⟨g1.2.1, by show r.2.1 + (st.length + 1) ≤ r.1; omega, by show st.length + 1 + b ≤ r.1; omega⟩ (by omega) h3
      have hst : stopW ((14, 0) :: st) := Or.inr ⟨st, rfl⟩
      by_cases c2 : c q2.1 = 93
      · refine H.2.1 k _ q2 st (emL w (emL u q2)).2 hb3 (lev_ok ho2 hu hw) hs c2 (cs_all hst hu hw) ?_
        have e1 : psL c 93 (emL w (emL u q2)) = .inr (q2.1 + 1, (emL w (emL u q2)).2) := by
          unfold psL
          rw [emL_p, emL_p, if_pos c2]
        have hen : oP FL (fun r => HD (k + 1) st r) (psL c 93 (emL w (emL u q2))) := hen
        rw [e1] at hen
        exact hen
      · refine H.2.2.1 k _ q2 hb3 (lev_ok ho2 hu hw) hs c2 (lev_14 (fun z => z (14, 0) List.mem_cons_self rfl)) ?_
        have e1 : psL c 93 (emL w (emL u q2)) = .inl (flt 1 q2.1) := by
          unfold psL
          rw [emL_p, emL_p, if_neg c2]
        have hen : oP FL (fun r => HD (k + 1) st r) (psL c 93 (emL w (emL u q2))) := hen
        rw [e1] at hen
        exact hen
    · rw [if_neg c1] at h ⊢
      cases ha : atL c q with
      | inl x => rw [ha] at h; exact h
      | inr r => rw [ha] at h; exact h
/-- a whole sum -/
theorem sm_R (hc : okc t L c) (hL : L ≤ 240) (H : HDC c L b FL OK HD) {k : Nat} {q : TS} (hq : q.1 ≤ L) (hs : q.2.1 ≤ q.1) (hb : b ≤ q.1) (h : oP FL OK (smL c k q)) : oF FL HD (fcR c k [] q) := by
  refine fc_R hc hL H k [] q ⟨hq, hs, by show 0 + b ≤ q.1; omega⟩ (fun e he => nomatch he) ?_
  rw [smL_e] at h
  refine oP_m (oP_b h) (fun r hr2 h3 => ?_)
  obtain ⟨g1, g2, g3, _⟩ := fk_ok hc k _ r hq hs hr2
  have g4 := g1.2.2.2.1
  exact sl_R hc H (k := k) (rest := []) (EN := OK) (Or.inl rfl) (fun e he => nomatch he) (fun st q => fc_R hc hL H k st q) (fun q2 u w hu hw hb3 hs2 hen => H.2.2.2 k _ q2 (emL w (emL u q2)).2 hb3 (lev_ok (fun e he => nomatch he) hu hw) hs2 (lev_no hu hw) (cs_all (Or.inl rfl) hu hw) (by rw [show (q2.1, (emL w (emL u q2)).2) = emL w (emL u q2) from Prod.ext (by show q2.1 = (emL w (emL u q2)).1; rw [emL_p, emL_p]) rfl]; exact hen)) 240 0 0 r (Or.inl rfl) (Or.inl rfl) ⟨g1.2.1, by show r.2.1 + 0 ≤ r.1; omega, by show 0 + b ≤ r.1; omega⟩ (by omega) h3
end PSumR
