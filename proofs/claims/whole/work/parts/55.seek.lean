/-! ===== the search of plan ===== -/
/-- right, and no more than there are -/
def WP (V : Nat → Prop) (K : Nat) (b : BS) : Prop := (∀ i, i < b.1 → V (b.2.1 i) ∧ b.2.2 (b.2.1 i) ≠ 0) ∧ cnS b.2.2 K = b.1
theorem ntP {V : Nat → Prop} {K : Nat} {b : BS} {s v : Nat} (h : WP V K b) (hs : V s) (hk : s < K) (hv : v ≠ 0) : WP V K (nt b s v) ∧ EJ b (nt b s v) := by
  by_cases e : b.2.2 s = 0
  · rw [nt_t e]
    obtain ⟨h1, h2⟩ := h
    refine ⟨⟨fun i hi => ?_, ?_⟩, Nat.le_succ _, fun i hi => if_neg (by omega), fun x hx => if_neg (fun z => hx (by rw [z]; exact e))⟩
    · show V (up1 b.2.1 b.1 s i) ∧ up1 b.2.2 s v (up1 b.2.1 b.1 s i) ≠ 0
      by_cases ei : i = b.1
      · rw [show up1 b.2.1 b.1 s i = s from if_pos ei, show up1 b.2.2 s v s = v from if_pos rfl]
        exact ⟨hs, hv⟩
      · have hi2 : i < b.1 := by have : i < b.1 + 1 := hi; omega
        rw [show up1 b.2.1 b.1 s i = b.2.1 i from if_neg ei]
        obtain ⟨a1, a2⟩ := h1 i hi2
        refine ⟨a1, ?_⟩
        show up1 b.2.2 s v (b.2.1 i) ≠ 0
        unfold up1
        split
        · exact hv
        · exact a2
    · show cnS (up1 b.2.2 s v) K = b.1 + 1
      rw [cnS_up e hv, if_pos hk, h2]
  · rw [nt_f e]
    exact ⟨h, EJ.refl b⟩
theorem WP.room {V : Nat → Prop} {K : Nat} {b : BS} {s : Nat} (h : WP V K b) (hk : s < K) (e : b.2.2 s = 0) : b.1 < K := by
  rw [← h.2]
  exact cnS_lt e K hk
theorem WP.le {V : Nat → Prop} {K : Nat} {b : BS} (h : WP V K b) : b.1 ≤ K := by
  rw [← h.2]
  exact cnS_le _ K
/-- by how many deeds, and by which first -/
abbrev lvP (b : BS) (i : Nat) : Nat := (b.2.2 (b.2.1 i) - 1) / 8
abbrev fsP (b : BS) (i : Nat) : Nat := (b.2.2 (b.2.1 i) - 1) % 8
theorem EJ.lv {b b' : BS} (h : EJ b b') {i : Nat} (hi : i < b.1) (hm : b.2.2 (b.2.1 i) ≠ 0) : b'.2.2 (b'.2.1 i) = b.2.2 (b.2.1 i) := by rw [h.2.1 i hi, h.2.2 _ hm]
abbrev fdP (l f dd : Nat) : Nat := if l = 0 then dd else f
abbrev mkP (l f : Nat) : Nat := 1 + 8 * l + f
/-- the deeds of entry h: nx what comes of it, ou whether it is found, br whether it broke -/
def spP (nx : Nat → Nat → Nat) (ou br : Nat → Nat → Bool) (b : BS) (h : Nat) : Nat → BS × Nat
  | 0 => (b, 0)
  | dd + 1 => if (spP nx ou br b h dd).2 = 0 then
      (if ou (b.2.1 h) dd then ((spP nx ou br b h dd).1, mkP (lvP b h + 1) (fdP (lvP b h) (fsP b h) dd))
       else if br (b.2.1 h) dd then ((spP nx ou br b h dd).1, 0)
       else (nt (spP nx ou br b h dd).1 (nx (b.2.1 h) dd) (mkP (lvP b h + 1) (fdP (lvP b h) (fsP b h) dd)), 0))
    else spP nx ou br b h dd
def srP (nx : Nat → Nat → Nat) (ou br : Nat → Nat → Bool) (b : BS) : Nat → BS × Nat
  | 0 => (b, 0)
  | h + 1 => if (srP nx ou br b h).2 = 0 ∧ h < (srP nx ou br b h).1.1 ∧ lvP (srP nx ou br b h).1 h < 20 then spP nx ou br (srP nx ou br b h).1 h 6 else srP nx ou br b h
section PSeek
variable {nx : Nat → Nat → Nat} {ou br : Nat → Nat → Bool} {V : Nat → Prop} {K : Nat} {b : BS} {h : Nat}
theorem spP_x {dd : Nat} (e : ¬ (spP nx ou br b h dd).2 = 0) : spP nx ou br b h (dd + 1) = spP nx ou br b h dd := if_neg e
theorem spP_o {dd : Nat} (e : (spP nx ou br b h dd).2 = 0) (o : ou (b.2.1 h) dd) : spP nx ou br b h (dd + 1) = ((spP nx ou br b h dd).1, mkP (lvP b h + 1) (fdP (lvP b h) (fsP b h) dd)) := (if_pos e).trans (if_pos o)
theorem spP_b {dd : Nat} (e : (spP nx ou br b h dd).2 = 0) (o : ¬ ou (b.2.1 h) dd) (w : br (b.2.1 h) dd) : spP nx ou br b h (dd + 1) = ((spP nx ou br b h dd).1, 0) := (if_pos e).trans ((if_neg o).trans (if_pos w))
theorem spP_n {dd : Nat} (e : (spP nx ou br b h dd).2 = 0) (o : ¬ ou (b.2.1 h) dd) (w : ¬ br (b.2.1 h) dd) : spP nx ou br b h (dd + 1) = (nt (spP nx ou br b h dd).1 (nx (b.2.1 h) dd) (mkP (lvP b h + 1) (fdP (lvP b h) (fsP b h) dd)), 0) := (if_pos e).trans ((if_neg o).trans (if_neg w))
theorem fd_lt {l f dd : Nat} (hf : f < 8) (hd : dd < 6) : fdP l f dd < 8 := by
  unfold fdP
  split <;> omega
/-- once found, it stays -/
theorem spP_stay {dd : Nat} (e : ¬ (spP nx ou br b h dd).2 = 0) : ∀ j, spP nx ou br b h (dd + j) = spP nx ou br b h dd
  | 0 => rfl
  | j + 1 => (spP_x (dd := dd + j) (by rw [spP_stay e j]; exact e)).trans (spP_stay e j)
theorem spP_ok (hb : WP V K b) (hh : h < b.1) (hV : ∀ s, V s → s < K) (hn : ∀ s dd, V s → dd < 6 → ¬ ou s dd → ¬ br s dd → V (nx s dd)) : ∀ dd, dd ≤ 6 → WP V K (spP nx ou br b h dd).1 ∧ EJ b (spP nx ou br b h dd).1 ∧ (∀ i, b.1 ≤ i → i < (spP nx ou br b h dd).1.1 → lvP (spP nx ou br b h dd).1 i = lvP b h + 1)
  | 0, _ => ⟨hb, EJ.refl b, fun i h1 h2 => absurd (show i < b.1 from h2) (by omega)⟩
  | dd + 1, hd => by
    obtain ⟨i1, i2, i3⟩ := spP_ok hb hh hV hn dd (by omega)
    by_cases e : (spP nx ou br b h dd).2 = 0
    · by_cases o : ou (b.2.1 h) dd
      · rw [spP_o e o]
        exact ⟨i1, i2, i3⟩
      · by_cases w : br (b.2.1 h) dd
        · rw [spP_b e o w]
          exact ⟨i1, i2, i3⟩
        · rw [spP_n e o w]
          have hs := hn _ dd (hb.1 h hh).1 (by omega) o w
          have hf := fd_lt (l := lvP b h) (f := fsP b h) (dd := dd) (Nat.mod_lt _ (by decide)) (by omega)
          revert i1 i2 i3
          generalize (spP nx ou br b h dd).1 = c
          intro i1 i2 i3
          obtain ⟨n1, n2⟩ := ntP (v := mkP (lvP b h + 1) (fdP (lvP b h) (fsP b h) dd)) i1 hs (hV _ hs) (by unfold mkP; omega)
          refine ⟨n1, i2.trans n2, fun i h1 h2 => ?_⟩
          by_cases hi : i < c.1
          · show (_ - 1) / 8 = _
            rw [n2.lv hi (i1.1 i hi).2]
            exact i3 i h1 hi
          · revert h2
            show i < (nt c _ _).1 → ((nt c _ _).2.2 ((nt c _ _).2.1 i) - 1) / 8 = _
            by_cases z : c.2.2 (nx (b.2.1 h) dd) = 0
            · rw [nt_t z]
              intro h2
              have : i = c.1 := by have : i < c.1 + 1 := h2; omega
              subst this
              show (up1 c.2.2 (nx (b.2.1 h) dd) _ (up1 c.2.1 c.1 (nx (b.2.1 h) dd) c.1) - 1) / 8 = _
              rw [show up1 c.2.1 c.1 (nx (b.2.1 h) dd) c.1 = nx (b.2.1 h) dd from if_pos rfl, show up1 c.2.2 (nx (b.2.1 h) dd) (mkP (lvP b h + 1) (fdP (lvP b h) (fsP b h) dd)) (nx (b.2.1 h) dd) = mkP (lvP b h + 1) (fdP (lvP b h) (fsP b h) dd) from if_pos rfl]
              unfold mkP
              omega
            · rw [nt_f z]
              intro h2
              exact absurd h2 hi
    · rw [spP_x e]
      exact ⟨i1, i2, i3⟩
theorem srP_t (e : (srP nx ou br b h).2 = 0) (h1 : h < (srP nx ou br b h).1.1) (h2 : lvP (srP nx ou br b h).1 h < 20) : srP nx ou br b (h + 1) = spP nx ou br (srP nx ou br b h).1 h 6 := if_pos ⟨e, h1, h2⟩
theorem srP_found (e : ¬ (srP nx ou br b h).2 = 0) : ∀ j, srP nx ou br b (h + j) = srP nx ou br b h
  | 0 => rfl
  | j + 1 => (if_neg (show ¬ ((srP nx ou br b (h + j)).2 = 0 ∧ h + j < (srP nx ou br b (h + j)).1.1 ∧ lvP (srP nx ou br b (h + j)).1 (h + j) < 20) from fun z => by rw [srP_found e j] at z; exact e z.1)).trans (srP_found e j)
theorem srP_over (e : ∀ i, h ≤ i → i < (srP nx ou br b h).1.1 → 20 ≤ lvP (srP nx ou br b h).1 i) : ∀ j, srP nx ou br b (h + j) = srP nx ou br b h
  | 0 => rfl
  | j + 1 => (if_neg (show ¬ ((srP nx ou br b (h + j)).2 = 0 ∧ h + j < (srP nx ou br b (h + j)).1.1 ∧ lvP (srP nx ou br b (h + j)).1 (h + j) < 20) from fun z => by
      rw [srP_over e j] at z
      have := e (h + j) (by omega) z.2.1
      omega)).trans (srP_over e j)
theorem srP_ok (hb : WP V K b) (hV : ∀ s, V s → s < K) (hn : ∀ s dd, V s → dd < 6 → ¬ ou s dd → ¬ br s dd → V (nx s dd)) : ∀ h, WP V K (srP nx ou br b h).1
  | 0 => hb
  | h + 1 => by
    have ih := srP_ok hb hV hn h
    by_cases c : (srP nx ou br b h).2 = 0 ∧ h < (srP nx ou br b h).1.1 ∧ lvP (srP nx ou br b h).1 h < 20
    · rw [srP_t c.1 c.2.1 c.2.2]
      exact (spP_ok ih c.2.1 hV hn 6 (by decide)).1
    · rw [show srP nx ou br b (h + 1) = srP nx ou br b h from if_neg c]
      exact ih
end PSeek
theorem cnS_0 : ∀ K, cnS (fun _ => 0) K = 0
  | 0 => rfl
  | K + 1 => by
    unfold cnS
    rw [cnS_0 K]
    rfl
/-! states by number -/
def unD (s : Nat) : FN
  | 0 => s / 99 % 20
  | 1 => s / 11 % 9 + 1
  | 2 => if s % 11 = 10 then 0 else s % 11
  | 3 => s / 1980
  | 4 => if s % 11 = 10 then 1 else 0
  | 5 => 0
  | 6 => 99
  | _ => 0
abbrev pkD (D : FN) : Nat := ((D 3 * 20 + D 0) * 9 + D 1 - 1) * 11 + (if D 4 = 0 then D 2 else 10)
abbrev vP (LN s : Nat) : Prop := s < 49500 ∧ s / 1980 ≤ LN
theorem unD_ok {LN s : Nat} (h : vP LN s) : okD LN (unD s) := by
  obtain ⟨h1, h2⟩ := h
  refine ⟨?_, ?_, ?_, h2, ?_, Nat.zero_le _, ?_, fun _ => ?_, Nat.le_refl _, trivial⟩
  · show s / 99 % 20 ≤ 19
    omega
  · show s / 11 % 9 + 1 ≤ 9
    omega
  · show (if s % 11 = 10 then 0 else s % 11) ≤ 9
    split <;> omega
  · show (if s % 11 = 10 then 1 else 0) ≤ 1
    split <;> omega
  · show (if s % 11 = 10 then 1 else 0) = 1 → (if s % 11 = 10 then 0 else s % 11) = 0
    split <;> omega
  · show 1 ≤ s / 11 % 9 + 1
    omega
theorem pk_vP {LN : Nat} {D : FN} (hL : LN ≤ 24) (h : okD LN D) (h5 : D 5 = 0) : vP LN (pkD D) := by
  obtain ⟨a0, a1, a2, a3, a4, a5, a6, a7, a8, a9⟩ := h
  have := a7 h5
  unfold vP pkD
  split <;> constructor <;> omega
/-- he stands as his number says -/
theorem un_pk {LN : Nat} {D : FN} (h : okD LN D) (h5 : D 5 = 0) : ∀ j, j < 6 → unD (pkD D) j = D j := by
  obtain ⟨a0, a1, a2, a3, a4, a5, a6, a7, a8, a9⟩ := h
  have b1 := a7 h5
  intro j hj
  have cj : j = 0 ∨ j = 1 ∨ j = 2 ∨ j = 3 ∨ j = 4 ∨ j = 5 := by omega
  by_cases z : D 4 = 0
  · have ep : pkD D = ((D 3 * 20 + D 0) * 9 + D 1 - 1) * 11 + D 2 := by unfold pkD; rw [if_pos z]
    rw [ep]
    have nt : ¬ (((D 3 * 20 + D 0) * 9 + D 1 - 1) * 11 + D 2) % 11 = 10 := by omega
    rcases cj with rfl | rfl | rfl | rfl | rfl | rfl
    · show (((D 3 * 20 + D 0) * 9 + D 1 - 1) * 11 + D 2) / 99 % 20 = D 0
      omega
    · show (((D 3 * 20 + D 0) * 9 + D 1 - 1) * 11 + D 2) / 11 % 9 + 1 = D 1
      omega
    · exact (if_neg nt).trans (by omega)
    · show (((D 3 * 20 + D 0) * 9 + D 1 - 1) * 11 + D 2) / 1980 = D 3
      omega
    · exact (if_neg nt).trans z.symm
    · exact h5.symm
  · have z1 : D 4 = 1 := by omega
    have ep : pkD D = ((D 3 * 20 + D 0) * 9 + D 1 - 1) * 11 + 10 := by unfold pkD; rw [if_neg z]
    rw [ep]
    have nt : (((D 3 * 20 + D 0) * 9 + D 1 - 1) * 11 + 10) % 11 = 10 := by omega
    rcases cj with rfl | rfl | rfl | rfl | rfl | rfl
    · show (((D 3 * 20 + D 0) * 9 + D 1 - 1) * 11 + 10) / 99 % 20 = D 0
      omega
    · show (((D 3 * 20 + D 0) * 9 + D 1 - 1) * 11 + 10) / 11 % 9 + 1 = D 1
      omega
    · exact (if_pos nt).trans (a6 z1).symm
    · show (((D 3 * 20 + D 0) * 9 + D 1 - 1) * 11 + 10) / 1980 = D 3
      omega
    · exact (if_pos nt).trans z1.symm
    · exact h5.symm
/-! what came does not change what he does -/
abbrev s7 (D D2 : FN) : Prop := ∀ j, j ≠ 7 → D2 j = D j
theorem s7.up {D D2 : FN} (h : s7 D D2) (a v : Nat) : s7 (up1 D a v) (up1 D2 a v) := fun j hj => by
  unfold up1
  split
  · rfl
  · exact h j hj
theorem s7.seven {D D2 : FN} (h : s7 D D2) (v w : Nat) : s7 (up1 D 7 v) (up1 D2 7 w) := fun j hj => by
  rw [up1_n hj, up1_n hj]
  exact h j hj
theorem s7.ls {D D2 : FN} (h : s7 D D2) (b : Nat) : s7 (lsD b D) (lsD b D2) := by
  unfold lsD
  rw [h 1 (by decide)]
  split
  · exact (h.up 1 0).up 5 1
  · exact h.up 1 _
theorem s7.cm {D D2 : FN} (h : s7 D D2) (LN m : Nat) : s7 (cmD LN m D) (cmD LN m D2) := by
  unfold cmD
  rw [h 3 (by decide)]
  exact (h.up 3 _).seven _ _
theorem s7.op {D D2 : FN} (h : s7 D D2) : s7 (opD D) (opD D2) := (h.up 4 1).up 2 0
theorem fcN_7 {k LN : Nat} {Y S D D2 : FN} {i w : Nat} (h : s7 D D2) : fcN k LN Y S D2 i w = fcN k LN Y S D i w := by
  funext j
  unfold fcN
  rw [h 0 (by decide), h 1 (by decide), h 2 (by decide), h 3 (by decide)]
theorem dd_7 {q : LWD} {k LN : Nat} {Y S D D2 : FN} {deed i w : Nat} (h : s7 D D2) : s7 (ddS q k LN Y S deed i w D) (ddS q k LN Y S deed i w D2) := by
  unfold ddS fcI
  rw [fcN_7 h]
  split
  · unfold d0D
    rw [h 4 (by decide), h 6 (by decide), h 2 (by decide)]
    split
    · split
      · exact ((h.up _ _).up _ _).ls _
      · exact (h.up _ _).up _ _
    · exact h
  · unfold d1D
    rw [h 4 (by decide), h 2 (by decide)]
    split
    · split
      · exact h.op
      · exact h.ls _
    · exact h
  · unfold d2D
    rw [h 4 (by decide), h 0 (by decide)]
    split
    · exact (h.up _ _).op.cm _ _
    · exact h.up _ _
  · unfold d3D
    rw [h 0 (by decide)]
    exact h.up _ _
  · unfold d4D
    rw [h 4 (by decide), h 0 (by decide), h 3 (by decide)]
    split
    · exact h
    · exact (h.cm _ _).up _ _
  · exact ((h.up _ _).up _ _).up _ _
/-! the search itself -/
abbrev nxD (q : LWD) (k LN : Nat) (Y S : FN) (s dd : Nat) : FN := ddS q k LN Y S dd 0 0 (unD s)
abbrev nxP (q : LWD) (k LN : Nat) (Y S : FN) (s dd : Nat) : Nat := pkD (nxD q k LN Y S s dd)
abbrev ouP (q : LWD) (k LN : Nat) (Y S : FN) (T : Nat) (s dd : Nat) : Bool := decide (T < nxD q k LN Y S s dd 3)
abbrev brP (q : LWD) (k LN : Nat) (Y S : FN) (s dd : Nat) : Bool := decide (¬ nxD q k LN Y S s dd 5 = 0)
theorem nx_ok {q : LWD} {k LN : Nat} {Y S : FN} {T : Nat} (hL : LN ≤ 24) (s dd : Nat) (h : vP LN s) (_ : dd < 6) (_ : ¬ ouP q k LN Y S T s dd) (w : ¬ brP q k LN Y S s dd) : vP LN (nxP q k LN Y S s dd) := pk_vP hL (ddS_ok (unD_ok h)) (Decidable.not_not.mp (fun z => w (decide_eq_true z)))
abbrev skB (D : FN) : BS := nt (0, fun _ => 0, fun _ => 0) (pkD D) 1
def skR (q : LWD) (k LN : Nat) (Y S : FN) (T : Nat) (D : FN) (h : Nat) : BS × Nat := srP (nxP q k LN Y S) (ouP q k LN Y S T) (brP q k LN Y S) (skB D) h
theorem skB_ok {LN : Nat} {D : FN} (hL : LN ≤ 24) (h : okD LN D) (h5 : D 5 = 0) : WP (vP LN) 49500 (skB D) := (ntP (V := vP LN) (K := 49500) (b := (0, fun _ => 0, fun _ => 0)) ⟨fun i hi => absurd (show i < 0 from hi) (Nat.not_lt_zero i), cnS_0 49500⟩ (pk_vP hL h h5) (pk_vP hL h h5).1 (by decide)).1

