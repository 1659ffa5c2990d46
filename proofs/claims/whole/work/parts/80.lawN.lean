/-! ===== the law's text: a fault is below 0 ===== -/
def NGP (L : Nat) (f : TS → PR) : Prop := ∀ (q : TS) (x : Int32), q.1 ≤ L → q.2.1 ≤ q.1 → f q = .inl x → x < 0
theorem bnd_il {x : PR} {f : TS → PR} {e : Int32} (h : bnd x f = .inl e) : x = .inl e ∨ ∃ q, x = .inr q ∧ f q = .inl e := by
  match x, h with
  | .inl _, h => exact Or.inl h
  | .inr q, h => exact Or.inr ⟨q, rfl, h⟩
section PNeg
variable {t c : Nat → Nat} {L : Nat}
theorem fl_neg {k p : Nat} {x : Int32} (hL : L ≤ 240) (hp : p ≤ L) (h1 : 1 ≤ k) (h2 : k ≤ 6) (h : (Sum.inl (flt k p) : PR) = .inl x) : x < 0 := by
  rw [← Sum.inl.inj h]
  exact flt_neg h1 h2 (by omega)
theorem ps_neg {z : Nat} {q : TS} {x : Int32} (hL : L ≤ 240) (hq : q.1 ≤ L) (h : psL c z q = .inl x) : x < 0 := by
  unfold psL at h
  by_cases e : c q.1 = z
  · rw [if_pos e] at h
    cases h
  · rw [if_neg e] at h
    exact fl_neg hL hq (by decide) (by decide) h
theorem fc_neg {k : Nat} {sub : TS → PR} (hc : okc t L c) (hL : L ≤ 240) (h1 : ¬ k = 0 → NGP L sub) (h2 : ¬ k = 0 → OKP L (2 * k + 1) VT sub) : NGP L (fcL c sub k) := by
  intro q x hq hs h
  unfold fcL at h
  by_cases c1 : c q.1 = 91
  · have hp := hc.lt (p := q.1) (by omega)
    rw [if_pos c1] at h
    by_cases c2 : k = 0
    · rw [if_pos c2] at h
      exact fl_neg hL hq (by decide) (by decide) h
    · rw [if_neg c2] at h
      rcases bnd_il h with z | ⟨r, r1, r2⟩
      · exact h1 c2 (q.1 + 1, q.2) x hp (Nat.le_succ_of_le hs) z
      · exact ps_neg hL (h2 c2 (q.1 + 1, q.2) r hp (Nat.le_succ_of_le hs) r1).1.2.1 r2
  · rw [if_neg c1] at h
    unfold atL at h
    by_cases c2 : knL (c q.1) < 9
    · rw [if_pos c2] at h
      cases h
    · rw [if_neg c2] at h
      by_cases c3 : 48 ≤ c q.1 ∧ c q.1 ≤ 57
      · rw [if_pos c3] at h
        unfold nbL at h
        by_cases c4 : 48 ≤ c (dgL c 5 q.1 0).1 ∧ c (dgL c 5 q.1 0).1 ≤ 57
        · rw [if_pos c4] at h
          exact fl_neg hL (dg_ok hc 5 q.1 0 hq).2.1 (by decide) (by decide) h
        · rw [if_neg c4] at h
          cases h
      · rw [if_neg c3] at h
        exact fl_neg hL hq (by decide) (by decide) h
theorem sl_neg {h : Nat} {fac : TS → PR} (hc : okc t L c) (hf : OKP L h VT fac) (hn : NGP L fac) : ∀ (e w : Nat) (q : TS) (x : Int32), (w = 0 ∨ w = 2 ∨ w = 3) → q.1 ≤ L → q.2.1 + wz w ≤ q.1 → slL c fac e w q = .inl x → x < 0
  | 0, w, q, x, hw, hq, hs, hh => by cases hh
  | e + 1, w, q, x, hw, hq, hs, hh => by
    unfold slL at hh
    by_cases c1 : sgL (c q.1) = 0
    · rw [if_pos c1] at hh
      cases hh
    · rw [if_neg c1] at hh
      obtain ⟨s1, s2, s3⟩ := sg_lt c1
      have hp := hc.lt s1
      have z1 : wz (sgL (c q.1)) = 1 := if_neg c1
      by_cases c2 : sgL (c q.1) ≤ 3
      · rw [if_pos c2] at hh
        have es : (emL w q).2.1 = q.2.1 + wz w := by
          unfold emL wz
          split <;> rfl
        rcases bnd_il hh with z | ⟨a, a1, a2⟩
        · exact hn (q.1 + 1, (emL w q).2) x hp (by show (emL w q).2.1 ≤ q.1 + 1; omega) z
        · obtain ⟨g1, g2, g3, _⟩ := hf (q.1 + 1, (emL w q).2) a hp (by show (emL w q).2.1 ≤ q.1 + 1; omega) a1
          have g14 : a.2.1 + (q.1 + 1) + 0 ≤ a.1 + (emL w q).2.1 + 0 := g1.2.2.2.1
          exact sl_neg hc hf hn e (sgL (c q.1)) a x (by omega) g1.2.1 (by omega) a2
      · rw [if_neg c2] at hh
        rcases bnd_il hh with z | ⟨a, a1, a2⟩
        · exact hn (q.1 + 1, q.2) x hp (by show q.2.1 ≤ q.1 + 1; omega) z
        · obtain ⟨g1, g2, g3, _⟩ := hf (q.1 + 1, q.2) a hp (by show q.2.1 ≤ q.1 + 1; omega) a1
          have g14 : a.2.1 + (q.1 + 1) + 0 ≤ a.1 + q.2.1 + 0 := g1.2.2.2.1
          have es : (emL (sgL (c q.1)) a).2.1 = a.2.1 + 1 := by rw [emL_n c1]
          have ep := emL_p (sgL (c q.1)) a
          exact sl_neg hc hf hn e w (emL (sgL (c q.1)) a) x hw (by rw [ep]; exact g1.2.1) (by rw [es, ep]; omega) a2
theorem sm_neg1 {h : Nat} {fac : TS → PR} (hc : okc t L c) (hf : OKP L h VT fac) (hn : NGP L fac) : NGP L (smO c fac) := by
  intro q x hq hs hh
  rcases bnd_il hh with z | ⟨a, a1, a2⟩
  · exact hn q x hq hs z
  · obtain ⟨g1, _, _, _⟩ := hf q a hq hs a1
    exact sl_neg hc hf hn 240 0 a x (Or.inl rfl) g1.2.1 (OKP.s (h := h) (V := VT) g1 hs) a2
theorem sm_neg (hc : okc t L c) (hL : L ≤ 240) : ∀ k, NGP L (smL c k)
  | 0 => sm_neg1 hc (fk_ok hc 0) (fc_neg (sub := fun _ => .inl 0) (k := 0) hc hL (fun z => absurd rfl z) (fun z => absurd rfl z))
  | k + 1 => sm_neg1 hc (fk_ok hc (k + 1)) (fc_neg (sub := smL c k) (k := k + 1) hc hL (fun _ => sm_neg hc hL k) (fun _ => sm_ok hc k))
theorem cl_neg {tst : TS → PR} (hc : okc t L c) (hf : OKP L 20 V01 tst) (hn : NGP L tst) : ∀ (e w : Nat) (q : TS) (x : Int32), q.1 ≤ L → q.2.1 ≤ q.1 → clL c tst e w q = .inl x → x < 0
  | 0, w, q, x, hq, hs, hh => by cases hh
  | e + 1, w, q, x, hq, hs, hh => by
    unfold clL at hh
    by_cases c1 : c q.1 = 124
    · rw [if_pos c1] at hh
      have hp := hc.lt (p := q.1) (by omega)
      rcases bnd_il hh with z | ⟨a, a1, a2⟩
      · exact hn (q.1 + 1, q.2.1 + 1, cdU (ldL w q.2.1 q.2.2) q.2.1 (12, 0)) x hp (Nat.succ_le_succ hs) z
      · obtain ⟨g1, _, _, _⟩ := hf (q.1 + 1, q.2.1 + 1, cdU (ldL w q.2.1 q.2.2) q.2.1 (12, 0)) a hp (Nat.succ_le_succ hs) a1
        exact cl_neg hc hf hn e _ a x g1.2.1 (OKP.s (h := 20) (V := V01) g1 (Nat.succ_le_succ hs)) a2
    · rw [if_neg c1] at hh
      by_cases c2 : c q.1 = 38
      · rw [if_pos c2] at hh
        have hp := hc.lt (p := q.1) (by omega)
        rcases bnd_il hh with z | ⟨a, a1, a2⟩
        · exact hn (q.1 + 1, q.2.1 + 1, cdU q.2.2 q.2.1 (11, 0)) x hp (Nat.succ_le_succ hs) z
        · obtain ⟨g1, _, _, _⟩ := hf (q.1 + 1, q.2.1 + 1, cdU q.2.2 q.2.1 (11, 0)) a hp (Nat.succ_le_succ hs) a1
          have hsa := OKP.s (h := 20) (V := V01) g1 (Nat.succ_le_succ hs)
          exact cl_neg hc hf hn e w (a.1, a.2.1, ldL (q.2.1 + 1) a.2.1 a.2.2) x g1.2.1 hsa a2
      · rw [if_neg c2] at hh
        cases hh
theorem ch_neg {tst : TS → PR} (hc : okc t L c) (hf : OKP L 20 V01 tst) (hn : NGP L tst) : NGP L (chO c tst) := by
  intro q x hq hs hh
  rcases bnd_il hh with z | ⟨a, a1, a2⟩
  · exact hn q x hq hs z
  · obtain ⟨g1, _, _, _⟩ := hf q a hq hs a1
    exact cl_neg hc hf hn 240 0 a x g1.2.1 (OKP.s (h := 20) (V := V01) g1 hs) a2
theorem ts_neg {k : Nat} {sm sch sts : TS → PR} (hc : okc t L c) (hL : L ≤ 240) (hm : OKP L 15 VT sm) (hm2 : NGP L sm) (h1 : ¬ k = 0 → OKP L 20 V01 sch) (h2 : ¬ k = 0 → NGP L sch) (h3 : ¬ k = 0 → NGP L sts) : NGP L (tsL c sm sch sts k) := by
  intro q x hq hs h
  unfold tsL at h
  by_cases c1 : c q.1 = 33
  · have hp := hc.lt (p := q.1) (by omega)
    rw [if_pos c1] at h
    by_cases c2 : k = 0
    · rw [if_pos c2] at h
      exact fl_neg hL hq (by decide) (by decide) h
    · rw [if_neg c2] at h
      rcases bnd_il h with z | ⟨a, a1, a2⟩
      · exact h3 c2 (q.1 + 1, q.2) x hp (Nat.le_succ_of_le hs) z
      · cases a2
  · rw [if_neg c1] at h
    by_cases c3 : c q.1 = 40
    · have hp := hc.lt (p := q.1) (by omega)
      rw [if_pos c3] at h
      by_cases c2 : k = 0
      · rw [if_pos c2] at h
        exact fl_neg hL hq (by decide) (by decide) h
      · rw [if_neg c2] at h
        rcases bnd_il h with z | ⟨a, a1, a2⟩
        · exact h2 c2 (q.1 + 1, q.2) x hp (Nat.le_succ_of_le hs) z
        · exact ps_neg hL (h1 c2 (q.1 + 1, q.2) a hp (Nat.le_succ_of_le hs) a1).1.2.1 a2
    · rw [if_neg c3] at h
      rcases bnd_il h with z | ⟨a, a1, a2⟩
      · exact hm2 q x hq hs z
      · obtain ⟨g1, _, _, _⟩ := hm q a hq hs a1
        by_cases c4 : cmL (c a.1) = 0
        · rw [if_pos c4] at a2
          exact fl_neg hL g1.2.1 (by decide) (by decide) a2
        · rw [if_neg c4] at a2
          have hp := hc.lt (cm_lt c4).1
          rcases bnd_il a2 with z | ⟨b, b1, b2⟩
          · exact hm2 (a.1 + 1, a.2) x hp (Nat.le_succ_of_le (OKP.s (h := 20) (V := V01) g1 hs)) z
          · cases b2
theorem tk_neg (hc : okc t L c) (hL : L ≤ 240) : ∀ k, k ≤ 6 → NGP L (tkL c k)
  | 0, _ => ts_neg hc hL ((sm_ok hc 0).h (by decide)) (sm_neg hc hL 0) (fun z => absurd rfl z) (fun z => absurd rfl z) (fun z => absurd rfl z)
  | k + 1, hk => ts_neg hc hL ((sm_ok hc (k + 1)).h (by omega)) (sm_neg hc hL (k + 1)) (fun _ => cho_ok hc hL (tk_ok hc hL k (by omega))) (fun _ => ch_neg hc (tk_ok hc hL k (by omega)) (tk_neg hc hL k (by omega))) (fun _ => tk_neg hc hL k (by omega))
theorem rc_neg (hc : okc t L c) (hL : L ≤ 240) : NGP L (rcL c) := by
  intro q x hq hs h
  rcases bnd_il h with z | ⟨a, a1, a2⟩
  · exact ps_neg hL hq z
  · obtain ⟨b1, rfl⟩ := ps_i a1
    have hp := hc.lt (p := q.1) (by omega)
    rcases bnd_il a2 with z | ⟨d, d1, d2⟩
    · exact ch_neg hc (tk_ok hc hL 5 (by decide)) (tk_neg hc hL 5 (by decide)) (q.1 + 1, q.2) x hp (Nat.le_succ_of_le hs) z
    · exact ps_neg hL (cho_ok hc hL (tk_ok hc hL 5 (by decide)) (q.1 + 1, q.2) d hp (Nat.le_succ_of_le hs) d1).1.2.1 d2
theorem re_neg (hc : okc t L c) (hL : L ≤ 240) {q : TS} {x : Int32} (hq : q.1 < L) (hs : q.2.1 ≤ q.1) (h : reL c q = .inl x) : x < 0 := by
  unfold reL at h
  by_cases e : c q.1 = 120
  · rw [if_pos e] at h
    cases h
  · rw [if_neg e] at h
    exact sm_neg hc hL 6 (q.1 + 1, q.2) x hq (Nat.le_succ_of_le hs) h
theorem ru_neg (hc : okc t L c) (hL : L ≤ 240) {p : Nat} {w : LWD} {x : Int32} (hp0 : p ≤ L) (hw : wS w ≤ p) (h : ruL c p w = .inl x) : x < 0 := by
  unfold ruL at h
  by_cases c1 : rlP (c p) = 5
  · rw [if_pos c1] at h
    rw [← Sum.inl.inj h]
    exact flt_neg (by decide) (by decide) (by omega)
  · rw [if_neg c1] at h
    have hp := hc.lt (rl_lt c1)
    by_cases c2 : w.1 = 16
    · rw [if_pos c2] at h
      rw [← Sum.inl.inj h]
      exact flt_neg (by decide) (by decide) (by omega)
    · rw [if_neg c2] at h
      cases ha : reL c (p, wS w, wC w) with
      | inl y =>
        rw [ha] at h
        rw [← Sum.inl.inj h]
        exact re_neg hc hL (q := (p, wS w, wC w)) hp hw ha
      | inr a =>
        rw [ha] at h
        have h : (match rcL c a with | .inl x => (.inl x : Int32 ⊕ (Nat × LWD)) | .inr r => .inr (r.1, adL w (c p) a.2.1 r)) = .inl x := h
        obtain ⟨g1, g2, g3⟩ := re_ok hc (q := (p, wS w, wC w)) hp hw ha
        cases hb : rcL c a with
        | inl y =>
          rw [hb] at h
          rw [← Sum.inl.inj h]
          exact rc_neg hc hL a y g1.2.1 (OKP.s (h := 20) (V := V01) g1 hw) hb
        | inr b =>
          rw [hb] at h
          cases h
theorem ru_n {p : Nat} {w : LWD} {r : Nat × LWD} (h : ruL c p w = .inr r) : r.2.1 = w.1 + 1 := by
  unfold ruL at h
  by_cases c1 : rlP (c p) = 5
  · rw [if_pos c1] at h
    cases h
  · rw [if_neg c1] at h
    by_cases c2 : w.1 = 16
    · rw [if_pos c2] at h
      cases h
    · rw [if_neg c2] at h
      cases ha : reL c (p, wS w, wC w) with
      | inl y =>
        rw [ha] at h
        cases h
      | inr a =>
        rw [ha] at h
        have h : (match rcL c a with | .inl x => (.inl x : Int32 ⊕ (Nat × LWD)) | .inr r => .inr (r.1, adL w (c p) a.2.1 r)) = .inr r := h
        cases hb : rcL c a with
        | inl y =>
          rw [hb] at h
          cases h
        | inr b =>
          rw [hb] at h
          rw [← Sum.inr.inj h]
          rfl
theorem lw_neg (hc : okc t L c) (hL : L ≤ 240) : ∀ (e p : Nat) (w : LWD) (x : Int32), w.1 + e = 17 → p ≤ L → LWG w p → lwL c e p w = .inl x → x < 0
  | 0, p, w, x, he, hp, hw, h => absurd hw.1 (by omega)
  | e + 1, p, w, x, he, hp, hw, h => by
    unfold lwL at h
    cases ha : ruL c p w with
    | inl y =>
      rw [ha] at h
      rw [← Sum.inl.inj h]
      exact ru_neg hc hL hp hw.2.1 ha
    | inr a =>
      rw [ha] at h
      obtain ⟨g1, g2, g3, g4⟩ := ru_ok hc hL hw ha
      have e1 := ru_n ha
      have h : (if 256 ≤ c a.1 then (.inr a.2 : Int32 ⊕ LWD) else if c a.1 = 59 then lwL c e (a.1 + 1) a.2 else .inl (flt 1 a.1)) = .inl x := h
      by_cases c1 : 256 ≤ c a.1
      · rw [if_pos c1] at h
        cases h
      · rw [if_neg c1] at h
        by_cases c2 : c a.1 = 59
        · rw [if_pos c2] at h
          have hp2 := hc.lt (p := a.1) (by omega)
          exact lw_neg hc hL e (a.1 + 1) a.2 x (by omega) hp2 ⟨g1.1, Nat.le_succ_of_le g1.2.1, g1.2.2⟩ h
        · rw [if_neg c2] at h
          rw [← Sum.inl.inj h]
          exact flt_neg (by decide) (by decide) (by omega)
theorem lw0_ok : LWG lw0 0 := ⟨Nat.zero_le _, Nat.le_refl _, fun i hi => absurd hi (Nat.not_lt_zero i), fun r hr => absurd hr (Nat.not_lt_zero r)⟩
theorem la_neg (hc : okc t L c) (hL : L ≤ 240) {x : Int32} (h : laL c = .inl x) : x < 0 := lw_neg hc hL 17 0 lw0 x rfl (Nat.zero_le _) lw0_ok h
end PNeg
