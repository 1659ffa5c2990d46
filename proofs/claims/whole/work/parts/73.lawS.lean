/-! ===== the law's text: what is read can be reckoned ===== -/
/-- from one place and stack to another, or refused -/
def Gz (cd : CDE) (fa : Nat → Int32) (to pc : Nat) (st : List Int32) (pc' : Nat) (st' : List Int32) : Prop := ∀ F, to - pc ≤ F → evL cd fa to F pc st = some 0 ∨ ∃ F', to - pc' ≤ F' ∧ evL cd fa to F pc st = evL cd fa to F' pc' st'
section PGz
variable {cd : CDE} {fa : Nat → Int32} {to pc pc1 pc2 : Nat} {st st1 st2 : List Int32}
theorem Gz.refl : Gz cd fa to pc st pc st := fun F hF => Or.inr ⟨F, hF, rfl⟩
theorem Gz.trans (h : Gz cd fa to pc st pc1 st1) (h2 : Gz cd fa to pc1 st1 pc2 st2) : Gz cd fa to pc st pc2 st2 := by
  intro F hF
  rcases h F hF with z | ⟨F1, f1, e1⟩
  · exact Or.inl z
  · rcases h2 F1 f1 with z | ⟨F2, f2, e2⟩
    · exact Or.inl (e1.trans z)
    · exact Or.inr ⟨F2, f2, e1.trans e2⟩
theorem ev_nxt {F : Nat} (h : pc < to) (hF : to - pc ≤ F) : ∃ F1, F = F1 + 1 ∧ to - (pc + 1) ≤ F1 := ⟨F - 1, by omega, by omega⟩
theorem Gz_num {v : Nat} (h : pc < to) (e : cd pc = (0, v)) (hl : st.length < 32) : Gz cd fa to pc st (pc + 1) (nI v :: st) := by
  intro F hF
  obtain ⟨F1, rfl, f1⟩ := ev_nxt h hF
  refine Or.inr ⟨F1, f1, ?_⟩
  conv => lhs; unfold evL
  rw [if_neg (by omega), e, if_pos rfl, if_pos hl]
theorem Gz_let {v : Nat} (h : pc < to) (e : cd pc = (1, v)) (hl : st.length < 32) (hv : v < 9) : Gz cd fa to pc st (pc + 1) (fa v :: st) := by
  intro F hF
  obtain ⟨F1, rfl, f1⟩ := ev_nxt h hF
  refine Or.inr ⟨F1, f1, ?_⟩
  conv => lhs; unfold evL
  rw [if_neg (by omega), e, if_neg (show ¬ (1, v).1 = 0 from (by decide : ¬ (1 : Nat) = 0)), if_pos rfl, if_pos ⟨hl, hv⟩]
theorem Gz_op {op z : Nat} {x y : Int32} (h : pc < to) (e : cd pc = (op, z)) (h2 : 2 ≤ op) (h9 : op ≤ 9) : Gz cd fa to pc (y :: x :: st) (pc + 1) (rkn op x y :: st) := by
  intro F hF
  obtain ⟨F1, rfl, f1⟩ := ev_nxt h hF
  have key : evL cd fa to (F1 + 1) pc (y :: x :: st) = if (op = 5 ∨ op = 6) ∧ y = 0 then some 0 else evL cd fa to F1 (pc + 1) (rkn op x y :: st) := by
    conv => lhs; unfold evL
    rw [if_neg (by omega), e]
    show (if op = 0 then _ else if op = 1 then _ else if op = 10 then _ else if op = 11 then _ else if op = 12 then _ else _) = _
    rw [if_neg (by omega), if_neg (by omega), if_neg (by omega), if_neg (by omega), if_neg (by omega)]
    show (if (op = 5 ∨ op = 6) ∧ y = 0 then some 0 else if 9 < op then none else evL cd fa to F1 (pc + 1) (rkn op x y :: st)) = _
    rw [if_neg (show ¬ 9 < op by omega)]
  rw [key]
  by_cases q : (op = 5 ∨ op = 6) ∧ y = 0
  · rw [if_pos q]
    exact Or.inl rfl
  · rw [if_neg q]
    exact Or.inr ⟨F1, f1, rfl⟩
abbrev V01 (v : Int32) : Prop := v = 0 ∨ v = 1
theorem Gz_not {z : Nat} {v : Int32} (h : pc < to) (e : cd pc = (10, z)) (hv : V01 v) : ∃ w, V01 w ∧ Gz cd fa to pc (v :: st) (pc + 1) (w :: st) := by
  rcases hv with rfl | rfl
  · refine ⟨1, Or.inr rfl, fun F hF => ?_⟩
    obtain ⟨F1, rfl, f1⟩ := ev_nxt h hF
    refine Or.inr ⟨F1, f1, ?_⟩
    conv => lhs; unfold evL
    rw [if_neg (by omega), e, if_neg (show ¬ (10, z).1 = 0 from (by decide : ¬ (10 : Nat) = 0)), if_neg (show ¬ (10, z).1 = 1 from (by decide : ¬ (10 : Nat) = 1)), if_pos rfl]
    exact if_pos rfl
  · refine ⟨0, Or.inl rfl, fun F hF => ?_⟩
    obtain ⟨F1, rfl, f1⟩ := ev_nxt h hF
    refine Or.inr ⟨F1, f1, ?_⟩
    conv => lhs; unfold evL
    rw [if_neg (by omega), e, if_neg (show ¬ (10, z).1 = 0 from (by decide : ¬ (10 : Nat) = 0)), if_neg (show ¬ (10, z).1 = 1 from (by decide : ¬ (10 : Nat) = 1)), if_pos rfl]
    exact (if_neg (by decide)).trans (if_pos rfl)
theorem Gz_and0 {tg : Nat} (h : pc < to) (e : cd pc = (11, tg)) (h1 : pc < tg) (h2 : tg ≤ 240) : Gz cd fa to pc (0 :: st) tg (0 :: st) := by
  intro F hF
  obtain ⟨F1, rfl, f1⟩ := ev_nxt h hF
  refine Or.inr ⟨F1, by omega, ?_⟩
  conv => lhs; unfold evL
  rw [if_neg (by omega), e, if_neg (show ¬ (11, tg).1 = 0 from (by decide : ¬ (11 : Nat) = 0)), if_neg (show ¬ (11, tg).1 = 1 from (by decide : ¬ (11 : Nat) = 1)), if_neg (show ¬ (11, tg).1 = 10 from (by decide : ¬ (11 : Nat) = 10)), if_pos rfl]
  exact (if_pos rfl).trans (if_pos ⟨h1, h2⟩)
theorem Gz_and1 {tg : Nat} (h : pc < to) (e : cd pc = (11, tg)) : Gz cd fa to pc (1 :: st) (pc + 1) st := by
  intro F hF
  obtain ⟨F1, rfl, f1⟩ := ev_nxt h hF
  refine Or.inr ⟨F1, by omega, ?_⟩
  conv => lhs; unfold evL
  rw [if_neg (by omega), e, if_neg (show ¬ (11, tg).1 = 0 from (by decide : ¬ (11 : Nat) = 0)), if_neg (show ¬ (11, tg).1 = 1 from (by decide : ¬ (11 : Nat) = 1)), if_neg (show ¬ (11, tg).1 = 10 from (by decide : ¬ (11 : Nat) = 10)), if_pos rfl]
  exact (if_neg (by decide)).trans (if_pos rfl)
theorem Gz_or1 {tg : Nat} (h : pc < to) (e : cd pc = (12, tg)) (h1 : pc < tg) (h2 : tg ≤ 240) : Gz cd fa to pc (1 :: st) tg (1 :: st) := by
  intro F hF
  obtain ⟨F1, rfl, f1⟩ := ev_nxt h hF
  refine Or.inr ⟨F1, by omega, ?_⟩
  conv => lhs; unfold evL
  rw [if_neg (by omega), e, if_neg (show ¬ (12, tg).1 = 0 from (by decide : ¬ (12 : Nat) = 0)), if_neg (show ¬ (12, tg).1 = 1 from (by decide : ¬ (12 : Nat) = 1)), if_neg (show ¬ (12, tg).1 = 10 from (by decide : ¬ (12 : Nat) = 10)), if_neg (show ¬ (12, tg).1 = 11 from (by decide : ¬ (12 : Nat) = 11)), if_pos rfl]
  exact (if_pos rfl).trans (if_pos ⟨h1, h2⟩)
theorem Gz_or0 {tg : Nat} (h : pc < to) (e : cd pc = (12, tg)) : Gz cd fa to pc (0 :: st) (pc + 1) st := by
  intro F hF
  obtain ⟨F1, rfl, f1⟩ := ev_nxt h hF
  refine Or.inr ⟨F1, by omega, ?_⟩
  conv => lhs; unfold evL
  rw [if_neg (by omega), e, if_neg (show ¬ (12, tg).1 = 0 from (by decide : ¬ (12 : Nat) = 0)), if_neg (show ¬ (12, tg).1 = 1 from (by decide : ¬ (12 : Nat) = 1)), if_neg (show ¬ (12, tg).1 = 10 from (by decide : ¬ (12 : Nat) = 10)), if_neg (show ¬ (12, tg).1 = 11 from (by decide : ¬ (12 : Nat) = 11)), if_pos rfl]
  exact (if_neg (by decide)).trans (if_pos rfl)
end PGz
theorem rk_01 {op : Nat} {x y : Int32} (h : 7 ≤ op) : V01 (rkn op x y) := by
  have three : ∀ (c : Prop) [Decidable c], V01 (if c then (1 : Int32) else 0) := fun c _ => by
    by_cases h : c
    · rw [if_pos h]; exact Or.inr rfl
    · rw [if_neg h]; exact Or.inl rfl
  match op, h with
  | 7, _ => exact three _
  | 8, _ => exact three _
  | n + 9, _ => exact three _
/-- its signs, wherever they stand, put one number on the stack -/
def SV (h : Nat) (V : Int32 → Prop) (q r : TS) : Prop := ∀ (fa : Nat → Int32) (to : Nat) (st : List Int32) (cd : CDE), (∀ i, q.2.1 ≤ i → i < r.2.1 → cd i = r.2.2 i) → r.2.1 ≤ to → st.length + h ≤ 32 → ∃ v, V v ∧ Gz cd fa to q.2.1 st r.2.1 (v :: st)
abbrev VT (_ : Int32) : Prop := True
/-- grown, with at least one sign, and can be reckoned -/
def OKP (L h : Nat) (V : Int32 → Prop) (f : TS → PR) : Prop := ∀ q r : TS, q.1 ≤ L → q.2.1 ≤ q.1 → f q = .inr r → GW L 0 0 q r ∧ q.1 < r.1 ∧ q.2.1 < r.2.1 ∧ SV h V q r
section PSem
variable {t c : Nat → Nat} {L : Nat}
theorem OKP.s {h : Nat} {V : Int32 → Prop} {q r : TS} (g : GW L 0 0 q r) (hq : q.2.1 ≤ q.1) : r.2.1 ≤ r.1 := by have := g.2.2.2.1; omega
theorem fc_ok {k : Nat} {sub : TS → PR} (hc : okc t L c) (hs : ¬ k = 0 → OKP L (2 * k + 1) VT sub) : OKP L (2 * k + 1) VT (fcL c sub k) := by
  intro q r hq hsp h
  unfold fcL at h
  by_cases c1 : c q.1 = 91
  · have hp := hc.lt (p := q.1) (by omega)
    rw [if_pos c1] at h
    by_cases c2 : k = 0
    · rw [if_pos c2] at h
      cases h
    · rw [if_neg c2] at h
      obtain ⟨a, a1, a2⟩ := bnd_i h
      obtain ⟨g1, g2, g3, g4⟩ := hs c2 (q.1 + 1, q.2) a hp (Nat.le_succ_of_le hsp) a1
      obtain ⟨b1, rfl⟩ := ps_i a2
      have ha := hc.lt (p := a.1) (by omega)
      have g2 : q.1 + 1 < a.1 := g2
      have g3 : q.2.1 < a.2.1 := g3
      refine ⟨(((GW.adv hp).trans g1).trans (GW.adv ha)).w (by decide), by show q.1 < a.1 + 1; omega, g3, ?_⟩
      exact g4
  · rw [if_neg c1] at h
    unfold atL at h
    by_cases c2 : knL (c q.1) < 9
    · rw [if_pos c2] at h
      have hp := hc.lt (kn_lt c2)
      have e := (Sum.inr.inj h).symm
      subst e
      refine ⟨((GW.adv hp).trans (GW.sgn (q := (q.1 + 1, q.2)) hp (show 1 ≤ 12 by decide) (show knL (c q.1) < 1048576 by omega))).w (by decide), Nat.lt_succ_self _, Nat.lt_succ_self _, fun fa to st cd ha hto hl => ⟨fa (knL (c q.1)), trivial, ?_⟩⟩
      have e1 : cd q.2.1 = (1, knL (c q.1)) := (ha q.2.1 (Nat.le_refl _) (Nat.lt_succ_self _)).trans (cdU_s _ _ _)
      have hto : q.2.1 + 1 ≤ to := hto
      exact Gz_let (by omega) e1 (by omega) c2
    · rw [if_neg c2] at h
      by_cases c3 : 48 ≤ c q.1 ∧ c q.1 ≤ 57
      · rw [if_pos c3] at h
        have hp := hc.lt (p := q.1) (by omega)
        unfold nbL at h
        by_cases c4 : 48 ≤ c (dgL c 5 q.1 0).1 ∧ c (dgL c 5 q.1 0).1 ≤ 57
        · rw [if_pos c4] at h
          cases h
        · rw [if_neg c4] at h
          obtain ⟨d1, d2, d3, _, d4⟩ := dg_ok hc 5 q.1 0 hq
          have d5 := dg_1 hc (e := 4) (v := 0) c3
          have d6 : (dgL c 5 q.1 0).2 < 1 * 10 ^ 5 := d4 1 (by decide)
          have e := (Sum.inr.inj h).symm
          revert d1 d2 d3 d4 d5 d6 e
          generalize dgL c 5 q.1 0 = z
          obtain ⟨z1, z2⟩ := z
          intro d1 d2 d3 d4 d5 d6 e
          have d2 : z1 ≤ L := d2
          have d5 : q.1 + 1 ≤ z1 := d5
          have d6 : z2 < 1 * 10 ^ 5 := d6
          subst e
          have gs := GW.sgn (L := L) (q := q) hq (show 0 ≤ 12 by decide) (show z2 < 1048576 by omega)
          refine ⟨⟨by show q.1 ≤ z1; omega, d2, Nat.le_succ _, by show q.2.1 + 1 + q.1 + 0 ≤ z1 + q.2.1 + 0; omega, gs.2.2.2.2.1, gs.2.2.2.2.2⟩, by show q.1 < z1; omega, Nat.lt_succ_self _, fun fa to st cd ha hto hl => ⟨nI z2, trivial, ?_⟩⟩
          have e1 : cd q.2.1 = (0, z2) := (ha q.2.1 (Nat.le_refl _) (Nat.lt_succ_self _)).trans (cdU_s _ _ _)
          have hto : q.2.1 + 1 ≤ to := hto
          exact Gz_num (by omega) e1 (by omega)
      · rw [if_neg c3] at h
        cases h
abbrev wz (w : Nat) : Nat := if w = 0 then 0 else 1
/-- the stack of a sum: what waits, and the term -/
def skW (w : Nat) (a : Int32) (st : List Int32) : List Int32 := if w = 0 then st else a :: st
theorem skW_l (w : Nat) (a : Int32) (st : List Int32) : (skW w a st).length ≤ st.length + 1 := by
  unfold skW
  split
  · exact Nat.le_succ _
  · exact Nat.le_refl _
/-- a sign that waited is reckoned -/
theorem em_z {w : Nat} {q r : TS} (hw : w = 0 ∨ (2 ≤ w ∧ w ≤ 9)) {fa : Nat → Int32} {to : Nat} {st : List Int32} {cd : CDE} (hk : (emL w q).2.1 ≤ r.2.1) (hr : ∀ i, i < (emL w q).2.1 → r.2.2 i = (emL w q).2.2 i) (ha : ∀ i, q.2.1 ≤ i → i < r.2.1 → cd i = r.2.2 i) (hto : r.2.1 ≤ to) (y x : Int32) : ∃ v, Gz cd fa to q.2.1 (y :: skW w x st) (emL w q).2.1 (v :: st) := by
  by_cases e : w = 0
  · subst e
    exact ⟨y, Gz.refl⟩
  · rw [emL_n e] at hk hr ⊢
    have hk : q.2.1 + 1 ≤ r.2.1 := hk
    have e1 : cd q.2.1 = (w, 0) := (ha q.2.1 (Nat.le_refl _) (by omega)).trans ((hr q.2.1 (Nat.lt_succ_self _)).trans (cdU_s _ _ _))
    refine ⟨rkn w x y, ?_⟩
    rw [show skW w x st = x :: st from if_neg e]
    exact Gz_op (by omega) e1 (by omega) (by omega)
theorem sl_ok {h : Nat} {fac : TS → PR} (hc : okc t L c) (hf : OKP L h VT fac) : ∀ (e w : Nat) (q r : TS), (w = 0 ∨ w = 2 ∨ w = 3) → q.1 ≤ L → q.2.1 + wz w ≤ q.1 → slL c fac e w q = .inr r → GW L 0 (wz w) q r ∧ ∀ (fa : Nat → Int32) (to : Nat) (st : List Int32) (cd : CDE), (∀ i, q.2.1 ≤ i → i < r.2.1 → cd i = r.2.2 i) → r.2.1 ≤ to → st.length + (h + 2) ≤ 32 → ∀ y x : Int32, ∃ v, Gz cd fa to q.2.1 (y :: skW w x st) r.2.1 (v :: st)
  | 0, w, q, r, hw, hq, hs, hh => by
    have e := (Sum.inr.inj hh).symm
    subst e
    exact ⟨GW.em hq (by omega), fun fa to st cd ha hto hl y x => em_z (w := w) (by omega) (Nat.le_refl _) (fun _ _ => rfl) ha hto y x⟩
  | e + 1, w, q, r, hw, hq, hs, hh => by
    unfold slL at hh
    by_cases c1 : sgL (c q.1) = 0
    · rw [if_pos c1] at hh
      have e := (Sum.inr.inj hh).symm
      subst e
      exact ⟨GW.em hq (by omega), fun fa to st cd ha hto hl y x => em_z (w := w) (by omega) (Nat.le_refl _) (fun _ _ => rfl) ha hto y x⟩
    · rw [if_neg c1] at hh
      obtain ⟨s1, s2, s3⟩ := sg_lt c1
      have hp := hc.lt s1
      by_cases c2 : sgL (c q.1) ≤ 3
      · rw [if_pos c2] at hh
        obtain ⟨a, a1, a2⟩ := bnd_i hh
        have ge : GW L 0 (wz w) q (emL w q) := GW.em (L := L) (w := w) (q := q) hq (by omega)
        have es : (emL w q).2.1 = q.2.1 + wz w := by
          unfold emL wz
          split <;> rfl
        have ep := emL_p w q
        obtain ⟨g1, g2, g3, g4⟩ := hf (q.1 + 1, (emL w q).2) a hp (by show (emL w q).2.1 ≤ q.1 + 1; omega) a1
        have gt := ge.trans (GW.adv (L := L) (q := emL w q) (by omega))
        rw [ep] at gt
        have g3 : (emL w q).2.1 < a.2.1 := g3
        have g2 : q.1 + 1 < a.1 := g2
        have g14 : a.2.1 + (q.1 + 1) + 0 ≤ a.1 + (emL w q).2.1 + 0 := g1.2.2.2.1
        have z1 : wz (sgL (c q.1)) = 1 := if_neg c1
        obtain ⟨i1, i2⟩ := sl_ok hc hf e (sgL (c q.1)) a r (by omega) g1.2.1 (by omega) a2
        rw [z1] at i1
        refine ⟨((gt.trans g1).trans i1).w (by omega), fun fa to st cd ha hto hl y x => ?_⟩
        have k4 := i1.2.2.1
        have g15 : ∀ i, i < (emL w q).2.1 → a.2.2 i = (emL w q).2.2 i := g1.2.2.2.2.1
        obtain ⟨v1, w1⟩ := em_z (w := w) (q := q) (r := r) (fa := fa) (st := st) (by omega) (by omega) (fun i hi => (i1.2.2.2.2.1 i (by omega)).trans (g15 i hi)) ha hto y x
        obtain ⟨v2, _, w2⟩ := g4 fa to (v1 :: st) cd (fun i j1 j2 => (ha i (by have : (emL w q).2.1 ≤ i := j1; omega) (by omega)).trans (i1.2.2.2.2.1 i j2)) (by omega) (by show st.length + 1 + h ≤ 32; omega)
        obtain ⟨v3, w3⟩ := i2 fa to st cd (fun i j1 j2 => ha i (by omega) j2) hto hl v2 v1
        rw [show skW (sgL (c q.1)) v1 st = v1 :: st from if_neg c1] at w3
        exact ⟨v3, (w1.trans w2).trans w3⟩
      · rw [if_neg c2] at hh
        obtain ⟨a, a1, a2⟩ := bnd_i hh
        obtain ⟨g1, g2, g3, g4⟩ := hf (q.1 + 1, q.2) a hp (by show q.2.1 ≤ q.1 + 1; omega) a1
        have ge := GW.em (L := L) (w := sgL (c q.1)) (q := a) g1.2.1 (by omega)
        rw [if_neg c1] at ge
        have g3 : q.2.1 < a.2.1 := g3
        have g2 : q.1 + 1 < a.1 := g2
        have g14 : a.2.1 + (q.1 + 1) + 0 ≤ a.1 + q.2.1 + 0 := g1.2.2.2.1
        have es : (emL (sgL (c q.1)) a).2.1 = a.2.1 + 1 := by rw [emL_n c1]
        have ep := emL_p (sgL (c q.1)) a
        obtain ⟨i1, i2⟩ := sl_ok hc hf e w (emL (sgL (c q.1)) a) r hw (by rw [ep]; exact g1.2.1) (by rw [es, ep]; omega) a2
        refine ⟨((((GW.adv (L := L) hp).trans g1).trans ge).trans i1).w (by omega), fun fa to st cd ha hto hl y x => ?_⟩
        have k4 := i1.2.2.1
        have hk := skW_l w x st
        obtain ⟨v2, _, w2⟩ := g4 fa to (y :: skW w x st) cd (fun i j1 j2 => (ha i j1 (by omega)).trans ((i1.2.2.2.2.1 i (by omega)).trans (ge.2.2.2.2.1 i j2))) (by omega) (by show (skW w x st).length + 1 + h ≤ 32; omega)
        have e1 : cd a.2.1 = (sgL (c q.1), 0) := (ha a.2.1 (by omega) (by omega)).trans ((i1.2.2.2.2.1 a.2.1 (by omega)).trans (by rw [emL_n c1]; exact cdU_s _ _ _))
        have w3 := Gz_op (fa := fa) (to := to) (x := y) (y := v2) (st := skW w x st) (by omega) e1 s3 (by omega)
        obtain ⟨v4, w4⟩ := i2 fa to st cd (fun i j1 j2 => ha i (by omega) j2) hto hl (rkn (sgL (c q.1)) y v2) x
        rw [es] at w4
        exact ⟨v4, (w2.trans w3).trans w4⟩
theorem sm_ok1 {h : Nat} {fac : TS → PR} (hc : okc t L c) (hf : OKP L h VT fac) : OKP L (h + 2) VT (smO c fac) := by
  intro q r hq hsp hh
  obtain ⟨a, a1, a2⟩ := bnd_i hh
  obtain ⟨g1, g2, g3, g4⟩ := hf q a hq hsp a1
  obtain ⟨i1, i2⟩ := sl_ok hc hf 240 0 a r (Or.inl rfl) g1.2.1 (OKP.s (h := h) (V := VT) g1 hsp) a2
  have k1 := i1.1
  have k4 := i1.2.2.1
  refine ⟨(g1.trans i1).w (by decide), by omega, by omega, fun fa to st cd ha hto hl => ?_⟩
  obtain ⟨v1, _, w1⟩ := g4 fa to st cd (fun i j1 j2 => (ha i j1 (by omega)).trans (i1.2.2.2.2.1 i j2)) (by omega) (by omega)
  obtain ⟨v2, w2⟩ := i2 fa to st cd (fun i j1 j2 => ha i (by omega) j2) hto hl v1 0
  exact ⟨v2, trivial, w1.trans w2⟩
theorem sm_ok (hc : okc t L c) : ∀ k, OKP L (2 * k + 3) VT (smL c k)
  | 0 => sm_ok1 hc (fc_ok hc (fun z => absurd rfl z))
  | k + 1 => sm_ok1 hc (fc_ok hc (fun _ => sm_ok hc k))
theorem OKP.h {h h2 : Nat} {V : Int32 → Prop} {f : TS → PR} (g : OKP L h V f) (e : h ≤ h2) : OKP L h2 V f := fun q r a b d => by
  obtain ⟨g1, g2, g3, g4⟩ := g q r a b d
  exact ⟨g1, g2, g3, fun fa to st cd ha hto hl => g4 fa to st cd ha hto (by omega)⟩
end PSem
