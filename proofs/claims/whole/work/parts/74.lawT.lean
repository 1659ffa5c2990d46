/-! ===== the law's text: conditions and rules can be reckoned ===== -/
theorem ldL_n {w s i : Nat} {cd : CDE} (h : i + 1 ≠ w) : ldL w s cd i = cd i := by
  unfold ldL
  by_cases e : w = 0
  · rw [if_pos e]
  · rw [if_neg e]
    exact cdU_n (by omega)
theorem ldL_s {w s : Nat} {cd : CDE} (h : ¬ w = 0) : ldL w s cd (w - 1) = ((cd (w - 1)).1, s) := by
  unfold ldL
  rw [if_neg h]
  exact cdU_s _ _ _
/-- a C from behind its first test -/
def CW (L w : Nat) (q r : TS) : Prop := (q.1 ≤ r.1 ∧ r.1 ≤ L ∧ q.2.1 ≤ r.2.1 ∧ r.2.1 + q.1 ≤ r.1 + q.2.1) ∧ (∀ i, i < q.2.1 → i + 1 ≠ w → r.2.2 i = q.2.2 i) ∧ (∀ i, q.2.1 ≤ i → i < r.2.1 → (r.2.2 i).1 ≤ 12 ∧ (r.2.2 i).2 < 1048576) ∧ (¬ w = 0 → ∃ tg, r.2.2 (w - 1) = (12, tg) ∧ q.2.1 ≤ tg ∧ tg ≤ r.2.1 ∧ ∀ (fa : Nat → Int32) (to : Nat) (st : List Int32) (cd : CDE), (∀ i, q.2.1 ≤ i → i < r.2.1 → cd i = r.2.2 i) → r.2.1 ≤ to → st.length + 20 ≤ 32 → ∃ v, V01 v ∧ Gz cd fa to tg (1 :: st) r.2.1 (v :: st)) ∧ ∀ (fa : Nat → Int32) (to : Nat) (st : List Int32) (cd : CDE), (∀ i, q.2.1 ≤ i → i < r.2.1 → cd i = r.2.2 i) → r.2.1 ≤ to → st.length + 20 ≤ 32 → ∀ v0, V01 v0 → ∃ v, V01 v ∧ Gz cd fa to q.2.1 (v0 :: st) r.2.1 (v :: st)
section PSem2
variable {t c : Nat → Nat} {L : Nat}
theorem cw_end {w : Nat} {q : TS} (hq : q.1 ≤ L) (hw : w = 0 ∨ (w ≤ q.2.1 ∧ (q.2.2 (w - 1)).1 = 12)) : CW L w q (q.1, q.2.1, ldL w q.2.1 q.2.2) := by
  refine ⟨⟨Nat.le_refl _, hq, Nat.le_refl _, Nat.le_of_eq (Nat.add_comm _ _)⟩, fun i hi e => ldL_n e, fun i a b => absurd (show i < q.2.1 from b) (by omega), fun e => ⟨q.2.1, ?_, Nat.le_refl _, Nat.le_refl _, fun fa to st cd _ _ _ => ⟨1, Or.inr rfl, Gz.refl⟩⟩, fun fa to st cd _ _ _ v0 h0 => ⟨v0, h0, Gz.refl⟩⟩
  show ldL w q.2.1 q.2.2 (w - 1) = (12, q.2.1)
  rw [ldL_s e]
  rcases hw with z | z
  · exact absurd z e
  · rw [z.2]
theorem cl_ok {tst : TS → PR} (hc : okc t L c) (hL : L ≤ 240) (hf : OKP L 20 V01 tst) : ∀ (e w : Nat) (q r : TS), q.1 ≤ L → q.2.1 ≤ q.1 → (w = 0 ∨ (w ≤ q.2.1 ∧ (q.2.2 (w - 1)).1 = 12)) → clL c tst e w q = .inr r → CW L w q r
  | 0, w, q, r, hq, hs, hw, hh => by
    have e := (Sum.inr.inj hh).symm
    subst e
    exact cw_end hq hw
  | e + 1, w, q, r, hq, hs, hw, hh => by
    unfold clL at hh
    by_cases c1 : c q.1 = 124
    · rw [if_pos c1] at hh
      have hp := hc.lt (p := q.1) (by omega)
      obtain ⟨a, a1, a2⟩ := bnd_i hh
      obtain ⟨g1, g2, g3, g4⟩ := hf (q.1 + 1, q.2.1 + 1, cdU (ldL w q.2.1 q.2.2) q.2.1 (12, 0)) a hp (Nat.succ_le_succ hs) a1
      have hsa := OKP.s (h := 20) (V := V01) g1 (Nat.succ_le_succ hs)
      obtain ⟨k1, k2, k3, k4, k5, k6⟩ := g1
      have k1 : q.1 + 1 ≤ a.1 := k1
      have k4 : a.2.1 + (q.1 + 1) + 0 ≤ a.1 + (q.2.1 + 1) + 0 := k4
      have g3 : q.2.1 + 1 < a.2.1 := g3
      have k5 : ∀ i, i < q.2.1 + 1 → a.2.2 i = cdU (ldL w q.2.1 q.2.2) q.2.1 (12, 0) i := k5
      have k6 : ∀ i, q.2.1 + 1 ≤ i → i < a.2.1 → (a.2.2 i).1 ≤ 12 ∧ (a.2.2 i).2 < 1048576 := k6
      have a12 : a.2.2 q.2.1 = (12, 0) := (k5 q.2.1 (Nat.lt_succ_self _)).trans (cdU_s _ _ _)
      obtain ⟨⟨b1, b2, b3, b4⟩, j1, j2, j3, j4⟩ := cl_ok hc hL hf e (q.2.1 + 1) a r k2 hsa (Or.inr ⟨by omega, by rw [Nat.add_sub_cancel, a12]⟩) a2
      obtain ⟨tg, t1, t2, t3, t4⟩ := j3 (Nat.succ_ne_zero _)
      rw [Nat.add_sub_cancel] at t1
      have sub : ∀ cd : CDE, (∀ i, q.2.1 ≤ i → i < r.2.1 → cd i = r.2.2 i) → ∀ i, a.2.1 ≤ i → i < r.2.1 → cd i = r.2.2 i := fun cd ha i x y => ha i (by omega) y
      have one : ∀ (fa : Nat → Int32) (to : Nat) (st : List Int32) (cd : CDE), (∀ i, q.2.1 ≤ i → i < r.2.1 → cd i = r.2.2 i) → r.2.1 ≤ to → st.length + 20 ≤ 32 → ∃ v, V01 v ∧ Gz cd fa to q.2.1 (1 :: st) r.2.1 (v :: st) := fun fa to st cd ha hto hl => by
        have e1 : cd q.2.1 = (12, tg) := (ha q.2.1 (Nat.le_refl _) (by omega)).trans t1
        obtain ⟨v, v1, v2⟩ := t4 fa to st cd (sub cd ha) hto hl
        exact ⟨v, v1, (Gz_or1 (by omega) e1 (by omega) (by omega)).trans v2⟩
      refine ⟨⟨by omega, b2, by omega, by omega⟩, fun i i1 i2 => ?_, fun i i1 i2 => ?_, fun hz => ⟨q.2.1, ?_, Nat.le_refl _, by omega, one⟩, fun fa to st cd ha hto hl v0 h0 => ?_⟩
      · rw [j1 i (by omega) (by omega), k5 i (by omega), cdU_n (by omega), ldL_n i2]
      · rcases Nat.lt_or_eq_of_le i1 with z | z
        · by_cases y : i < a.2.1
          · rw [j1 i y (by omega)]
            exact k6 i z y
          · exact j2 i (by omega) i2
        · rw [← z, t1]
          exact ⟨Nat.le_refl 12, by show tg < 1048576; omega⟩
      · rcases hw with z | ⟨z, z2⟩
        · exact absurd z hz
        · rw [j1 (w - 1) (by omega) (by omega), k5 (w - 1) (by omega), cdU_n (by omega), ldL_s hz, z2]
      · rcases h0 with rfl | rfl
        · have e1 : cd q.2.1 = (12, tg) := (ha q.2.1 (Nat.le_refl _) (by omega)).trans t1
          obtain ⟨v1, v2, v3⟩ := g4 fa to st cd (fun i (i1 : q.2.1 + 1 ≤ i) i2 => (ha i (by omega) (by omega)).trans (j1 i i2 (by omega))) (by omega) hl
          obtain ⟨v4, v5, v6⟩ := j4 fa to st cd (sub cd ha) hto hl v1 v2
          exact ⟨v4, v5, ((Gz_or0 (by omega) e1).trans v3).trans v6⟩
        · exact one fa to st cd ha hto hl
    · rw [if_neg c1] at hh
      by_cases c2 : c q.1 = 38
      · rw [if_pos c2] at hh
        have hp := hc.lt (p := q.1) (by omega)
        obtain ⟨a, a1, a2⟩ := bnd_i hh
        obtain ⟨g1, g2, g3, g4⟩ := hf (q.1 + 1, q.2.1 + 1, cdU q.2.2 q.2.1 (11, 0)) a hp (Nat.succ_le_succ hs) a1
        have hsa := OKP.s (h := 20) (V := V01) g1 (Nat.succ_le_succ hs)
        obtain ⟨k1, k2, k3, k4, k5, k6⟩ := g1
        have k1 : q.1 + 1 ≤ a.1 := k1
        have k4 : a.2.1 + (q.1 + 1) + 0 ≤ a.1 + (q.2.1 + 1) + 0 := k4
        have g3 : q.2.1 + 1 < a.2.1 := g3
        have k5 : ∀ i, i < q.2.1 + 1 → a.2.2 i = cdU q.2.2 q.2.1 (11, 0) i := k5
        have k6 : ∀ i, q.2.1 + 1 ≤ i → i < a.2.1 → (a.2.2 i).1 ≤ 12 ∧ (a.2.2 i).2 < 1048576 := k6
        have a11 : a.2.2 q.2.1 = (11, 0) := (k5 q.2.1 (Nat.lt_succ_self _)).trans (cdU_s _ _ _)
        have l11 : ldL (q.2.1 + 1) a.2.1 a.2.2 q.2.1 = (11, a.2.1) := by
          have := ldL_s (w := q.2.1 + 1) (s := a.2.1) (cd := a.2.2) (Nat.succ_ne_zero _)
          rw [Nat.add_sub_cancel, a11] at this
          exact this
        have hw2 : w = 0 ∨ (w ≤ a.2.1 ∧ (ldL (q.2.1 + 1) a.2.1 a.2.2 (w - 1)).1 = 12) := by
          rcases hw with z | ⟨z, z2⟩
          · exact Or.inl z
          · by_cases w0 : w = 0
            · exact Or.inl w0
            · refine Or.inr ⟨by omega, ?_⟩
              rw [ldL_n (by omega), k5 (w - 1) (by omega), cdU_n (by omega)]
              exact z2
        obtain ⟨⟨b1, b2, b3, b4⟩, j1, j2, j3, j4⟩ := cl_ok hc hL hf e w (a.1, a.2.1, ldL (q.2.1 + 1) a.2.1 a.2.2) r k2 hsa hw2 a2
        have b1 : a.1 ≤ r.1 := b1
        have b3 : a.2.1 ≤ r.2.1 := b3
        have b4 : r.2.1 + a.1 ≤ r.1 + a.2.1 := b4
        have j1 : ∀ i, i < a.2.1 → i + 1 ≠ w → r.2.2 i = ldL (q.2.1 + 1) a.2.1 a.2.2 i := j1
        have j2 : ∀ i, a.2.1 ≤ i → i < r.2.1 → (r.2.2 i).1 ≤ 12 ∧ (r.2.2 i).2 < 1048576 := j2
        have wq : w ≤ q.2.1 := by rcases hw with z | z <;> omega
        have r11 : r.2.2 q.2.1 = (11, a.2.1) := (j1 q.2.1 (by omega) (by omega)).trans l11
        have sub : ∀ cd : CDE, (∀ i, q.2.1 ≤ i → i < r.2.1 → cd i = r.2.2 i) → ∀ i, a.2.1 ≤ i → i < r.2.1 → cd i = r.2.2 i := fun cd ha i x y => ha i (by omega) y
        refine ⟨⟨by omega, b2, by omega, by omega⟩, fun i i1 i2 => ?_, fun i i1 i2 => ?_, fun hz => ?_, fun fa to st cd ha hto hl v0 h0 => ?_⟩
        · rw [j1 i (by omega) i2, ldL_n (by omega), k5 i (by omega), cdU_n (by omega)]
        · rcases Nat.lt_or_eq_of_le i1 with z | z
          · by_cases y : i < a.2.1
            · rw [j1 i y (by omega), ldL_n (by omega)]
              exact k6 i z y
            · exact j2 i (by omega) i2
          · rw [← z, r11]
            exact ⟨(by decide : (11 : Nat) ≤ 12), by show a.2.1 < 1048576; omega⟩
        · obtain ⟨tg, t1, t2, t3, t4⟩ := j3 hz
          have t2 : a.2.1 ≤ tg := t2
          exact ⟨tg, t1, by omega, t3, fun fa to st cd ha hto hl => t4 fa to st cd (sub cd ha) hto hl⟩
        · have e1 : cd q.2.1 = (11, a.2.1) := (ha q.2.1 (Nat.le_refl _) (by omega)).trans r11
          rcases h0 with rfl | rfl
          · obtain ⟨v4, v5, v6⟩ := j4 fa to st cd (sub cd ha) hto hl 0 (Or.inl rfl)
            exact ⟨v4, v5, (Gz_and0 (by omega) e1 (by omega) (by omega)).trans v6⟩
          · obtain ⟨v1, v2, v3⟩ := g4 fa to st cd (fun i (i1 : q.2.1 + 1 ≤ i) i2 => (ha i (by omega) (by omega)).trans ((j1 i i2 (by omega)).trans (ldL_n (by omega)))) (by omega) hl
            obtain ⟨v4, v5, v6⟩ := j4 fa to st cd (sub cd ha) hto hl v1 v2
            exact ⟨v4, v5, ((Gz_and1 (by omega) e1).trans v3).trans v6⟩
      · rw [if_neg c2] at hh
        have e := (Sum.inr.inj hh).symm
        subst e
        exact cw_end hq hw
theorem cho_ok {tst : TS → PR} (hc : okc t L c) (hL : L ≤ 240) (hf : OKP L 20 V01 tst) : OKP L 20 V01 (chO c tst) := by
  intro q r hq hsp hh
  obtain ⟨a, a1, a2⟩ := bnd_i hh
  obtain ⟨g1, g2, g3, g4⟩ := hf q a hq hsp a1
  have hsa := OKP.s (h := 20) (V := V01) g1 hsp
  obtain ⟨⟨b1, b2, b3, b4⟩, j1, j2, _, j4⟩ := cl_ok hc hL hf 240 0 a r g1.2.1 hsa (Or.inl rfl) a2
  have k4 := g1.2.2.2.1
  refine ⟨⟨by omega, b2, by omega, by omega, fun i hi => (j1 i (by omega) (by omega)).trans (g1.2.2.2.2.1 i hi), fun i i1 i2 => ?_⟩, by omega, by omega, fun fa to st cd ha hto hl => ?_⟩
  · by_cases y : i < a.2.1
    · rw [j1 i y (by omega)]
      exact g1.2.2.2.2.2 i i1 y
    · exact j2 i (by omega) i2
  · obtain ⟨v1, v2, v3⟩ := g4 fa to st cd (fun i i1 i2 => (ha i i1 (by omega)).trans (j1 i i2 (by omega))) (by omega) hl
    obtain ⟨v4, v5, v6⟩ := j4 fa to st cd (fun i i1 i2 => ha i (by omega) i2) hto hl v1 v2
    exact ⟨v4, v5, v3.trans v6⟩
theorem ts_ok {k : Nat} {sm sch sts : TS → PR} (hc : okc t L c) (hm : OKP L 15 VT sm) (h1 : ¬ k = 0 → OKP L 20 V01 sch) (h2 : ¬ k = 0 → OKP L 20 V01 sts) : OKP L 20 V01 (tsL c sm sch sts k) := by
  intro q r hq hsp h
  unfold tsL at h
  by_cases c1 : c q.1 = 33
  · have hp := hc.lt (p := q.1) (by omega)
    rw [if_pos c1] at h
    by_cases c2 : k = 0
    · rw [if_pos c2] at h
      cases h
    · rw [if_neg c2] at h
      obtain ⟨a, a1, a2⟩ := bnd_i h
      obtain ⟨g1, g2, g3, g4⟩ := h2 c2 (q.1 + 1, q.2) a hp (Nat.le_succ_of_le hsp) a1
      have e := (Sum.inr.inj a2).symm
      rw [emL_n (by decide)] at e
      subst e
      have g2 : q.1 + 1 < a.1 := g2
      have g3 : q.2.1 < a.2.1 := g3
      refine ⟨(((GW.adv hp).trans g1).trans (GW.sgn g1.2.1 (show 10 ≤ 12 by decide) (show 0 < 1048576 by decide))).w (by decide), by show q.1 < a.1; omega, by show q.2.1 < a.2.1 + 1; omega, fun fa to st cd ha hto hl => ?_⟩
      have ha : ∀ i, q.2.1 ≤ i → i < a.2.1 + 1 → cd i = cdU a.2.2 a.2.1 (10, 0) i := ha
      have hto : a.2.1 + 1 ≤ to := hto
      obtain ⟨v1, v2, v3⟩ := g4 fa to st cd (fun i i1 i2 => (ha i i1 (by omega)).trans (cdU_n (by omega))) (by omega) hl
      obtain ⟨v4, v5, v6⟩ := Gz_not (fa := fa) (to := to) (st := st) (v := v1) (by omega) ((ha a.2.1 (by omega) (by omega)).trans (cdU_s _ _ _)) v2
      exact ⟨v4, v5, v3.trans v6⟩
  · rw [if_neg c1] at h
    by_cases c3 : c q.1 = 40
    · have hp := hc.lt (p := q.1) (by omega)
      rw [if_pos c3] at h
      by_cases c2 : k = 0
      · rw [if_pos c2] at h
        cases h
      · rw [if_neg c2] at h
        obtain ⟨a, a1, a2⟩ := bnd_i h
        obtain ⟨g1, g2, g3, g4⟩ := h1 c2 (q.1 + 1, q.2) a hp (Nat.le_succ_of_le hsp) a1
        obtain ⟨b1, rfl⟩ := ps_i a2
        have ha := hc.lt (p := a.1) (by omega)
        have g2 : q.1 + 1 < a.1 := g2
        have g3 : q.2.1 < a.2.1 := g3
        exact ⟨(((GW.adv hp).trans g1).trans (GW.adv ha)).w (by decide), by show q.1 < a.1 + 1; omega, g3, g4⟩
    · rw [if_neg c3] at h
      obtain ⟨a, a1, a2⟩ := bnd_i h
      obtain ⟨g1, g2, g3, g4⟩ := hm q a hq hsp a1
      have hsa := OKP.s (h := 20) (V := V01) g1 hsp
      by_cases c4 : cmL (c a.1) = 0
      · rw [if_pos c4] at a2
        cases a2
      · rw [if_neg c4] at a2
        obtain ⟨m1, m2, m3⟩ := cm_lt c4
        have hp := hc.lt m1
        obtain ⟨b, b1, b2⟩ := bnd_i a2
        obtain ⟨k1, k2, k3, k4⟩ := hm (a.1 + 1, a.2) b hp (Nat.le_succ_of_le hsa) b1
        have e := (Sum.inr.inj b2).symm
        rw [emL_n c4] at e
        subst e
        have k2 : a.1 + 1 < b.1 := k2
        have k3 : a.2.1 < b.2.1 := k3
        have k5 : ∀ i, i < a.2.1 → b.2.2 i = a.2.2 i := k1.2.2.2.2.1
        refine ⟨(((g1.trans (GW.adv hp)).trans k1).trans (GW.sgn k1.2.1 (show cmL (c a.1) ≤ 12 by omega) (show 0 < 1048576 by decide))).w (by decide), by show q.1 < b.1; omega, by show q.2.1 < b.2.1 + 1; omega, fun fa to st cd ha hto hl => ?_⟩
        have ha : ∀ i, q.2.1 ≤ i → i < b.2.1 + 1 → cd i = cdU b.2.2 b.2.1 (cmL (c a.1), 0) i := ha
        have hto : b.2.1 + 1 ≤ to := hto
        obtain ⟨v1, _, v3⟩ := g4 fa to st cd (fun i i1 i2 => (ha i i1 (by omega)).trans ((cdU_n (by omega)).trans (k5 i i2))) (by omega) (by omega)
        obtain ⟨v4, _, v6⟩ := k4 fa to (v1 :: st) cd (fun i (i1 : a.2.1 ≤ i) i2 => (ha i (by omega) (by omega)).trans (cdU_n (by omega))) (by omega) (by show st.length + 1 + 15 ≤ 32; omega)
        exact ⟨rkn (cmL (c a.1)) v1 v4, rk_01 m3, (v3.trans v6).trans (Gz_op (by omega) ((ha b.2.1 (by omega) (by omega)).trans (cdU_s _ _ _)) (by omega) m2)⟩
theorem tk_ok (hc : okc t L c) (hL : L ≤ 240) : ∀ k, k ≤ 6 → OKP L 20 V01 (tkL c k)
  | 0, _ => ts_ok hc ((sm_ok hc 0).h (by decide)) (fun z => absurd rfl z) (fun z => absurd rfl z)
  | k + 1, hk => ts_ok hc ((sm_ok hc (k + 1)).h (by omega)) (fun _ => cho_ok hc hL (tk_ok hc hL k (by omega))) (fun _ => tk_ok hc hL k (by omega))
theorem ev_fin {cd : CDE} {fa : Nat → Int32} {to pc F : Nat} {v : Int32} (h : to ≤ pc) : evL cd fa to F pc [v] = some v := by
  cases F with
  | zero =>
    unfold evL
    exact if_pos h
  | succ F =>
    unfold evL
    exact if_pos h
theorem SV.ev {h : Nat} {V : Int32 → Prop} {q r : TS} (g : SV h V q r) (hh : h ≤ 32) (h2 : r.2.1 ≤ 240) (fa : Nat → Int32) (cd : CDE) (ha : (∀ i, q.2.1 ≤ i → i < r.2.1 → cd i = r.2.2 i)) : ∃ v, (V v ∨ v = 0) ∧ evL cd fa r.2.1 240 q.2.1 [] = some v := by
  obtain ⟨v, v1, v2⟩ := g fa r.2.1 [] cd ha (Nat.le_refl _) (by show 0 + h ≤ 32; omega)
  rcases v2 240 (by omega) with z | ⟨F, _, z⟩
  · exact ⟨0, Or.inr rfl, z⟩
  · exact ⟨v, Or.inl v1, z.trans (ev_fin (Nat.le_refl _))⟩
/-- rules so far -/
def LWG (w : LWD) (p : Nat) : Prop := w.1 ≤ 16 ∧ wS w ≤ p ∧ CDok (wC w) (wS w) ∧ ∀ r, r < w.1 → w.2.1 r < 256 ∧ w.2.2.1 r ≤ w.2.2.2.1 r ∧ w.2.2.2.1 r ≤ w.2.2.2.2.1 r ∧ w.2.2.2.2.1 r ≤ wS w ∧ (w.2.1 r ≠ 120 → ∀ (fa : Nat → Int32) (cd : CDE), (∀ i, i < wS w → cd i = wC w i) → ∃ v, evL cd fa (w.2.2.2.1 r) 240 (w.2.2.1 r) [] = some v) ∧ ∀ (fa : Nat → Int32) (cd : CDE), (∀ i, i < wS w → cd i = wC w i) → evL cd fa (w.2.2.2.2.1 r) 240 (w.2.2.2.1 r) [] = some 0 ∨ evL cd fa (w.2.2.2.2.1 r) 240 (w.2.2.2.1 r) [] = some 1
theorem LWG.f {w : LWD} {p : Nat} (h : LWG w p) (hp : p ≤ 240) : LWF w := by
  obtain ⟨h1, h2, h3, h4⟩ := h
  refine ⟨h1, Nat.le_trans h2 hp, h3, fun r hr => ?_⟩
  obtain ⟨a1, a2, a3, a4, a5, a6⟩ := h4 r hr
  exact ⟨a1, a2, a3, a4, fun z fa => a5 z fa _ (fun _ _ => rfl), fun fa => a6 fa _ (fun _ _ => rfl)⟩
theorem rl_lt {x : Nat} (h : ¬ rlP x = 5) : x < 256 := by
  apply Decidable.byContradiction
  intro z
  apply h
  unfold rlP
  rw [if_neg (by omega), if_neg (by omega), if_neg (by omega), if_neg (by omega), if_neg (by omega)]
theorem rc_ok (hc : okc t L c) (hL : L ≤ 240) {q r : TS} (hq : q.1 ≤ L) (hsp : q.2.1 ≤ q.1) (h : rcL c q = .inr r) : GW L 0 0 q r ∧ q.1 < r.1 ∧ SV 20 V01 q r := by
  obtain ⟨a, a1, a2⟩ := bnd_i h
  obtain ⟨b1, rfl⟩ := ps_i a1
  obtain ⟨d, d1, d2⟩ := bnd_i a2
  obtain ⟨e1, rfl⟩ := ps_i d2
  have hp := hc.lt (p := q.1) (by omega)
  have hd := hc.lt (p := d.1) (by omega)
  obtain ⟨g1, g2, g3, g4⟩ := cho_ok hc hL (tk_ok hc hL 5 (by decide)) (q.1 + 1, q.2) d hp (Nat.le_succ_of_le hsp) d1
  have g2 : q.1 + 1 < d.1 := g2
  exact ⟨(((GW.adv hp).trans g1).trans (GW.adv hd)).w (by decide), by show q.1 < d.1 + 1; omega, g4⟩
theorem re_ok (hc : okc t L c) {q r : TS} (hq : q.1 < L) (hsp : q.2.1 ≤ q.1) (h : reL c q = .inr r) : GW L 0 0 q r ∧ q.1 < r.1 ∧ (c q.1 ≠ 120 → SV 15 VT q r) := by
  unfold reL at h
  by_cases e : c q.1 = 120
  · rw [if_pos e] at h
    have e2 := (Sum.inr.inj h).symm
    subst e2
    exact ⟨(GW.adv hq).w (by decide), Nat.lt_succ_self _, fun z => absurd e z⟩
  · rw [if_neg e] at h
    obtain ⟨g1, g2, g3, g4⟩ := sm_ok hc 6 (q.1 + 1, q.2) r hq (Nat.le_succ_of_le hsp) h
    have g2 : q.1 + 1 < r.1 := g2
    exact ⟨((GW.adv hq).trans g1).w (by decide), by omega, fun _ => g4⟩
theorem ru_ok (hc : okc t L c) (hL : L ≤ 240) {p : Nat} {w : LWD} {r : Nat × LWD} (hw : LWG w p) (h : ruL c p w = .inr r) : LWG r.2 r.1 ∧ r.1 ≤ L ∧ p < r.1 ∧ p < L := by
  unfold ruL at h
  by_cases c1 : rlP (c p) = 5
  · rw [if_pos c1] at h
    cases h
  · rw [if_neg c1] at h
    have hp := hc.lt (rl_lt c1)
    by_cases c2 : w.1 = 16
    · rw [if_pos c2] at h
      cases h
    · rw [if_neg c2] at h
      obtain ⟨w1, w2, w3, w4⟩ := hw
      cases ha : reL c (p, wS w, wC w) with
      | inl x =>
        rw [ha] at h
        cases h
      | inr a =>
        rw [ha] at h
        have h : (match rcL c a with | .inl x => (.inl x : Int32 ⊕ (Nat × LWD)) | .inr r => .inr (r.1, adL w (c p) a.2.1 r)) = .inr r := h
        obtain ⟨g1, g2, g3⟩ := re_ok hc (q := (p, wS w, wC w)) hp w2 ha
        have hsa := OKP.s (h := 20) (V := V01) g1 w2
        cases hb : rcL c a with
        | inl x =>
          rw [hb] at h
          cases h
        | inr b =>
          rw [hb] at h
          have e := (Sum.inr.inj h).symm
          subst e
          obtain ⟨k1, k2, k3⟩ := rc_ok hc hL g1.2.1 hsa hb
          have hsb := OKP.s (h := 20) (V := V01) k1 hsa
          have gg := g1.trans k1
          have g2 : p < a.1 := g2
          have m1 : wS w ≤ a.2.1 := g1.2.2.1
          have m2 := k1.2.2.1
          have m3 := k1.2.1
          have kp : ∀ i, i < wS w → b.2.2 i = wC w i := gg.2.2.2.2.1
          refine ⟨⟨by show w.1 + 1 ≤ 16; omega, hsb, fun i hi => ?_, fun r hr => ?_⟩, m3, by show p < b.1; omega, hp⟩
          · by_cases y : i < wS w
            · show (b.2.2 i).1 ≤ 12 ∧ (b.2.2 i).2 < 1048576
              rw [kp i y]
              exact w3 i y
            · exact gg.2.2.2.2.2 i (Nat.le_of_not_lt y) hi
          · show up1 w.2.1 w.1 (c p) r < 256 ∧ up1 w.2.2.1 w.1 (wS w) r ≤ up1 w.2.2.2.1 w.1 a.2.1 r ∧ up1 w.2.2.2.1 w.1 a.2.1 r ≤ up1 w.2.2.2.2.1 w.1 b.2.1 r ∧ up1 w.2.2.2.2.1 w.1 b.2.1 r ≤ b.2.1 ∧ (up1 w.2.1 w.1 (c p) r ≠ 120 → ∀ (fa : Nat → Int32) (cd : CDE), (∀ i, i < b.2.1 → cd i = b.2.2 i) → ∃ v, evL cd fa (up1 w.2.2.2.1 w.1 a.2.1 r) 240 (up1 w.2.2.1 w.1 (wS w) r) [] = some v) ∧ ∀ (fa : Nat → Int32) (cd : CDE), (∀ i, i < b.2.1 → cd i = b.2.2 i) → evL cd fa (up1 w.2.2.2.2.1 w.1 b.2.1 r) 240 (up1 w.2.2.2.1 w.1 a.2.1 r) [] = some 0 ∨ evL cd fa (up1 w.2.2.2.2.1 w.1 b.2.1 r) 240 (up1 w.2.2.2.1 w.1 a.2.1 r) [] = some 1
            have hr : r < w.1 + 1 := hr
            by_cases y : r = w.1
            · subst y
              rw [up1_s, up1_s, up1_s, up1_s]
              refine ⟨rl_lt c1, m1, m2, Nat.le_refl _, fun z fa cd ha2 => ?_, fun fa cd ha2 => ?_⟩
              · obtain ⟨v, _, v2⟩ := (g3 z).ev (by decide) (by omega) fa cd (fun i i1 i2 => (ha2 i (by omega)).trans (k1.2.2.2.2.1 i i2))
                exact ⟨v, v2⟩
              · obtain ⟨v, v1, v2⟩ := k3.ev (by decide) (by omega) fa cd (fun i i1 i2 => ha2 i i2)
                rcases v1 with (rfl | rfl) | rfl
                · exact Or.inl v2
                · exact Or.inr v2
                · exact Or.inl v2
            · rw [up1_n y, up1_n y, up1_n y, up1_n y]
              obtain ⟨a1, a2, a3, a4, a5, a6⟩ := w4 r (by omega)
              exact ⟨a1, a2, a3, by omega, fun z fa cd ha2 => a5 z fa cd (fun i hi => (ha2 i (by omega)).trans (kp i hi)), fun fa cd ha2 => a6 fa cd (fun i hi => (ha2 i (by omega)).trans (kp i hi))⟩
theorem lw_ok (hc : okc t L c) (hL : L ≤ 240) : ∀ (e p : Nat) (w r : LWD), LWG w p → lwL c e p w = .inr r → LWF r
  | 0, p, w, r, hw, h => by cases h
  | e + 1, p, w, r, hw, h => by
    unfold lwL at h
    cases ha : ruL c p w with
    | inl x =>
      rw [ha] at h
      cases h
    | inr a =>
      rw [ha] at h
      obtain ⟨g1, g2, g3, g4⟩ := ru_ok hc hL hw ha
      have h : (if 256 ≤ c a.1 then (.inr a.2 : Int32 ⊕ LWD) else if c a.1 = 59 then lwL c e (a.1 + 1) a.2 else .inl (flt 1 a.1)) = .inr r := h
      by_cases c1 : 256 ≤ c a.1
      · rw [if_pos c1] at h
        rw [← Sum.inr.inj h]
        exact g1.f (by omega)
      · rw [if_neg c1] at h
        by_cases c2 : c a.1 = 59
        · rw [if_pos c2] at h
          exact lw_ok hc hL e (a.1 + 1) a.2 r ⟨g1.1, Nat.le_succ_of_le g1.2.1, g1.2.2⟩ h
        · rw [if_neg c2] at h
          cases h
theorem la_ok (hc : okc t L c) (hL : L ≤ 240) {r : LWD} (h : laL c = .inr r) : LWF r := lw_ok hc hL 17 0 lw0 r ⟨Nat.zero_le _, Nat.le_refl _, fun i hi => absurd hi (Nat.not_lt_zero i), fun r hr => absurd hr (Nat.not_lt_zero r)⟩ h
end PSem2
