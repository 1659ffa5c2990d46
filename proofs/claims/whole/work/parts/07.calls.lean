/-! ===== making cells ===== -/
theorem HOK.grow {g : GL} {n : Nat} {I : IM} {J : JM} {R : RM} {H H' : Heap} (h : HOK g n I J R H) (hsz : H'.size = gB g + n + 1) (ho : ∀ q, q < gB g + n → H'[q]? = H[q]?) (hc : AtC g I J R n H') : HOK g (n + 1) I J R H' := by
  refine ⟨hsz, fun q hq => (ho q (by omega)).trans (h.2.1 q hq), fun x hx => ?_⟩
  by_cases e : x = n
  · subst e
    exact hc
  · exact (h.2.2 x (by omega)).kept rfl rfl rfl (ho _ (by omega))
theorem S.grow {g : GL} {n : Nat} {H0 H H' : Heap} {locs : List Loc} (h : va_S (A0 g) H0 H locs) (hs : H.size = gB g + n) (hsz : H'.size = gB g + n + 1) (ho : ∀ q, q < gB g + n → H'[q]? = H[q]?) : va_S (A0 g) H0 H' locs :=
  ⟨Nat.le_trans h.1 (by omega), fun x h1 h2 => (ho x (by have := h.1; omega)).trans (h.2.1 x h1 h2), h.2.2⟩
section EN
variable {g : GL} {M : MD} {d kc ks pc n : Nat} {ls st : List Value} {I : IM} {J : JM} {R : RM} {Q : PQ}
theorem E_new {idx ci N : Nat} {C : String} {T : u_T} {ty : Nat → FieldType} (hd : decode M.2.1 pc = .ok (.new idx, 3)) (hC : CK ci C T N ty) (w1 : Cond.classLink M.1.cls idx C ∈ tG) (w2 : Cond.instantiable C N ∈ tG) (w3 : Cond.initialized C ∈ tG) (hs : (LY n).1 = ci) (hI : ∀ k, I n k = 0) (hR : ∀ k, R n k = none) (kk : E g M d kc ks (pc + 3) ls (.ref n :: st) (n + 1) I J R Q) : E g M d (kc + 1) (ks + N) pc ls st n I J R Q := by
  intro p l e Rm s m args below meth c H locs cells slots mc ms la Z
  obtain ⟨z1, z2, z3, z4, z5, z6, z7, z8⟩ := Z
  obtain ⟨c1, c2, c3, c4, c5, c6⟩ := hC
  have hts := z1.2.2.2.2.2.1
  have hKn := z4.1 ci _ c2
  refine W.newcK z1.1 z1.2.1 z1.2.2.2.2.1 (hts _ w1) (hts _ w2) (hts _ w3) rfl hd (by omega) (by omega) hKn.2.1 z6.1 fun H' kC hkC e1 e2 e3 => ?_
  refine kk p l e Rm s m args below meth c H' locs (cells + 1) (slots + N) mc ms la ⟨z1, z2, ⟨by omega, by omega, z3.2.2⟩, z4, z5, z6.grow e2 e3 ?_, S.grow z7 z6.1 e2 e3, z8⟩
  unfold AtC
  rw [hs, if_neg (Nat.not_le.mpr c1)]
  refine ⟨_, c2, (u_born ty hts c3 hKn hkC e1 c4).to fun k hk => ?_⟩
  rw [c6 k hk]
  by_cases hr : fR ci k = true
  · rw [if_pos hr, EV_or hs c1 hr, hR]
    rfl
  · rw [if_neg hr, EV_oi hs c1 (by simpa using hr), hI]
theorem E_newi {x : Int32} {L : Nat} (hd : decode M.2.1 pc = .ok (.newarray .int, 2)) (w : Cond.arrayClass .int ∈ tG) (hs : LY n = (20, L)) (h0 : ¬ x < 0) (hx : x.toNatClampNeg = L) (hb : L * 4 ≤ 536870912) (hI : ∀ k, I n k = 0) (kk : E g M d kc ks (pc + 2) ls (.ref n :: st) (n + 1) I J R Q) : E g M d (kc + 1) (ks + L) pc ls (.int x :: st) n I J R Q := by
  intro p l e Rm s m args below meth c H locs cells slots mc ms la Z
  obtain ⟨z1, z2, z3, z4, z5, z6, z7, z8⟩ := Z
  refine va_newaK (atype := .int) z1.1 z1.2.1 (z1.2.2.2.2.2.1 _ w) rfl hd rfl h0 hx hb (by omega) (by omega) z6.1 fun H' cA e1 e2 e3 e4 e5 => ?_
  refine kk p l e Rm s m args below meth c H' locs (cells + 1) (slots + L) mc ms la ⟨z1, z2, ⟨by omega, by omega, z3.2.2⟩, z4, z5, z6.grow e2 e3 ?_, S.grow z7 z6.1 e2 e3, z8⟩
  have hA : gA g 20 = cA := Option.some.inj (((z4.2.1 20 (by decide) (by decide)).2 : s.vm.findClass _ = some _).symm.trans e5)
  unfold AtC
  rw [hs, if_pos (Nat.le_of_ble_eq_true rfl), e1, hA]
  congr 2
  funext j
  rw [EV_ai (by rw [hs]) (Or.inl rfl), hI]
  rfl
theorem E_newb {x : Int32} {L : Nat} (hd : decode M.2.1 pc = .ok (.newarray .byte, 2)) (w : Cond.arrayClass .byte ∈ tG) (hs : LY n = (22, L)) (h0 : ¬ x < 0) (hx : x.toNatClampNeg = L) (hb : L * 1 ≤ 536870912) (hI : ∀ k, I n k = 0) (kk : E g M d kc ks (pc + 2) ls (.ref n :: st) (n + 1) I J R Q) : E g M d (kc + 1) (ks + L) pc ls (.int x :: st) n I J R Q := by
  intro p l e Rm s m args below meth c H locs cells slots mc ms la Z
  obtain ⟨z1, z2, z3, z4, z5, z6, z7, z8⟩ := Z
  refine va_newaK (atype := .byte) z1.1 z1.2.1 (z1.2.2.2.2.2.1 _ w) rfl hd rfl h0 hx hb (by omega) (by omega) z6.1 fun H' cA e1 e2 e3 e4 e5 => ?_
  refine kk p l e Rm s m args below meth c H' locs (cells + 1) (slots + L) mc ms la ⟨z1, z2, ⟨by omega, by omega, z3.2.2⟩, z4, z5, z6.grow e2 e3 ?_, S.grow z7 z6.1 e2 e3, z8⟩
  have hA : gA g 22 = cA := Option.some.inj (((z4.2.1 22 (by decide) (by decide)).2 : s.vm.findClass _ = some _).symm.trans e5)
  unfold AtC
  rw [hs, if_pos (Nat.le_of_ble_eq_true rfl), e1, hA]
  congr 2
  funext j
  rw [EV_ai (by rw [hs]) (Or.inr rfl), hI]
  rfl
theorem E_newl {x : Int32} {L : Nat} (hd : decode M.2.1 pc = .ok (.newarray .long, 2)) (w : Cond.arrayClass .long ∈ tG) (hs : LY n = (21, L)) (h0 : ¬ x < 0) (hx : x.toNatClampNeg = L) (hb : L * 8 ≤ 536870912) (hJ : ∀ k, J n k = 0) (kk : E g M d kc ks (pc + 2) ls (.ref n :: st) (n + 1) I J R Q) : E g M d (kc + 1) (ks + L) pc ls (.int x :: st) n I J R Q := by
  intro p l e Rm s m args below meth c H locs cells slots mc ms la Z
  obtain ⟨z1, z2, z3, z4, z5, z6, z7, z8⟩ := Z
  refine va_newaK (atype := .long) z1.1 z1.2.1 (z1.2.2.2.2.2.1 _ w) rfl hd rfl h0 hx hb (by omega) (by omega) z6.1 fun H' cA e1 e2 e3 e4 e5 => ?_
  refine kk p l e Rm s m args below meth c H' locs (cells + 1) (slots + L) mc ms la ⟨z1, z2, ⟨by omega, by omega, z3.2.2⟩, z4, z5, z6.grow e2 e3 ?_, S.grow z7 z6.1 e2 e3, z8⟩
  have hA : gA g 21 = cA := Option.some.inj (((z4.2.1 21 (by decide) (by decide)).2 : s.vm.findClass _ = some _).symm.trans e5)
  unfold AtC
  rw [hs, if_pos (Nat.le_of_ble_eq_true rfl), e1, hA]
  congr 2
  funext j
  rw [EV_al (by rw [hs]), hJ]
  rfl
theorem E_anew {x : Int32} {L idx : Nat} (hd : decode M.2.1 pc = .ok (.anewarray idx, 3)) (w : Cond.classLink M.1.cls idx RX10 ∈ tG) (hs : LY n = (23, L)) (h0 : ¬ x < 0) (hx : x.toNatClampNeg = L) (hb : L * 4 ≤ 536870912) (hR : ∀ k, R n k = none) (kk : E g M d kc ks (pc + 3) ls (.ref n :: st) (n + 1) I J R Q) : E g M d (kc + 1) (ks + L) pc ls (.int x :: st) n I J R Q := by
  intro p l e Rm s m args below meth c H locs cells slots mc ms la Z
  obtain ⟨z1, z2, z3, z4, z5, z6, z7, z8⟩ := Z
  subst hx
  refine W.anew z1.1 z1.2.1 z1.2.2.2.2.1 (z1.2.2.2.2.2.1 _ w) (va_AO.use z4.2.2.2.2.2.2.2) rfl hd rfl h0 hb (by omega) (by omega) fun cA kA comp f1 f2 f3 f4 => ?_
  generalize hH' : H.push ({ cls := cA, slots := Array.replicate x.toNatClampNeg .null, vm := .none } : Cell) = H'
  have e2 : H'.size = gB g + n + 1 := by rw [← hH', Array.size_push, z6.1]
  have e1 : H'[gB g + n]? = some (arrV cA x.toNatClampNeg (fun _ => .null)) := by rw [← hH', ← z6.1, Array.getElem?_push_size, ← arrV_new]
  have e3 : ∀ q : Nat, q < gB g + n → H'[q]? = H[q]? := fun q hq => by rw [← hH', Array.getElem?_push, if_neg (by rw [z6.1]; omega)]
  refine W.eq (g2 := F0 m (pc + 3) la ((Value.ref n :: st).map (tr g))) (by show F0 m (pc + 3) la (.ref H.size :: _) = _; rw [z6.1]; rfl) ?_
  refine kk p l e Rm s m args below meth c H' locs (cells + 1) (slots + x.toNatClampNeg) mc ms la ⟨z1, z2, ⟨by omega, by omega, z3.2.2⟩, z4, z5, z6.grow e2 e3 ?_, S.grow z7 z6.1 e2 e3, z8⟩
  obtain ⟨kA', comp', k1, k2, k3, k4⟩ := (z4.2.1 23 (by decide) (by decide)).2
  have hA : gA g 23 = cA := Option.some.inj (k4.symm.trans f1)
  unfold AtC
  rw [hs, if_pos (Nat.le_of_ble_eq_true rfl), e1, hA]
  congr 2
  funext j
  rw [EV_ar (by rw [hs]), hR]
  rfl
theorem E_obj {idx a : Nat} (hd : decode M.2.1 pc = .ok (.invokespecial idx, 3)) (w1 : Cond.methodLink M.1.cls idx Lib.objectInit ∈ tG) (w2 : Cond.instanceMethod Lib.objectInit ∈ tG) (w3 : Cond.code Lib.objectInit ⟨#[0xb1]⟩ 1 none ∈ tG) (hd1 : 1 ≤ d) (kk : E g M d kc ks (pc + 3) ls [] n I J R Q) : E g M d kc ks pc ls [.ref a] n I J R Q := by
  intro p l e Rm s m args below meth c H locs cells slots mc ms la Z
  have hts := Z.1.2.2.2.2.2.1
  have hf := Z.2.1
  exact W.objInit Z.1.1 Z.1.2.1 Z.1.2.2.2.2.1 (hts _ w1) (hts _ w2) (hts _ w3) rfl (by rw [Z.1.2.2.2.1]; exact Z.2.2.2.2.2.2.2.1.1) rfl hd (by omega) (by show 2 * 0 + 0 + 12 ≤ _; omega) (kk p l e Rm s m args below meth c H locs cells slots mc ms la Z)
/-! ===== returning ===== -/
theorem E_iret {x : Int32} (hd : decode M.2.1 pc = .ok (.ireturn, 1)) (hr : M.2.2.2 = some .int) (hq : Q (some (.int x)) n I J R) : E g M d kc ks pc ls [.int x] n I J R Q := by
  intro p l e Rm s m args below meth c H locs cells slots mc ms la Z
  obtain ⟨z1, z2, z3, z4, z5, z6, z7, z8⟩ := Z
  refine W.widen (k := mc) (n := ms) (by omega) (by omega) ?_
  exact W.iret (v := x) z1.1 z1.2.1 (z1.2.2.1.trans hr) (fun t ht hW => ⟨some (.int x), n, I, J, R, rfl, hq, by rw [ht]; exact z6, z7.F ht⟩) z7.2.2 hd (hlocks := z1.2.2.2.2.2.2.1)
theorem E_zret {x : Int32} {ty : FieldType} (hd : decode M.2.1 pc = .ok (.ireturn, 1)) (hr : M.2.2.2 = some ty) (hn : narrow ty (.int x) = .int x) (hq : Q (some (.int x)) n I J R) : E g M d kc ks pc ls [.int x] n I J R Q := by
  intro p l e Rm s m args below meth c H locs cells slots mc ms la Z
  obtain ⟨z1, z2, z3, z4, z5, z6, z7, z8⟩ := Z
  refine W.widen (k := mc) (n := ms) (by omega) (by omega) ?_
  exact W.zret (v := x) z1.1 z1.2.1 (z1.2.2.1.trans hr) hn (fun t ht hW => ⟨some (.int x), n, I, J, R, rfl, hq, by rw [ht]; exact z6, z7.F ht⟩) z7.2.2 hd (hlocks := z1.2.2.2.2.2.2.1)
theorem E_lret {x : Int64} (hd : decode M.2.1 pc = .ok (.lreturn, 1)) (hr : M.2.2.2 = some .long) (hq : Q (some (.long x)) n I J R) : E g M d kc ks pc ls [.long x] n I J R Q := by
  intro p l e Rm s m args below meth c H locs cells slots mc ms la Z
  obtain ⟨z1, z2, z3, z4, z5, z6, z7, z8⟩ := Z
  refine W.widen (k := mc) (n := ms) (by omega) (by omega) ?_
  exact W.lret (v := x) z1.1 z1.2.1 (z1.2.2.1.trans hr) (fun t ht hW => ⟨some (.long x), n, I, J, R, rfl, hq, by rw [ht]; exact z6, z7.F ht⟩) z7.2.2 hd (hlocks := z1.2.2.2.2.2.2.1)
theorem E_ret (hd : decode M.2.1 pc = .ok (.return_, 1)) (hr : M.2.2.2 = none) (hq : Q none n I J R) : E g M d kc ks pc ls [] n I J R Q := by
  intro p l e Rm s m args below meth c H locs cells slots mc ms la Z
  obtain ⟨z1, z2, z3, z4, z5, z6, z7, z8⟩ := Z
  refine W.widen (k := mc) (n := ms) (by omega) (by omega) ?_
  exact W.vret z1.1 z1.2.1 (z1.2.2.1.trans hr) (fun t ht hW => ⟨none, n, I, J, R, rfl, hq, by rw [ht]; exact z6, z7.F ht⟩) z7.2.2 hd (hlocks := z1.2.2.2.2.2.2.1)
end EN
/-! ===== a method out of its walk ===== -/
/-- the locals with which a method begins -/
def ent : Nat → List Value → List Value
  | n, [] => List.replicate n jk
  | n, v :: vs => match v with
    | .long x => .long x :: jk :: ent (n - 2) vs
    | v => v :: ent (n - 1) vs
def nJ (As : List Value) : Bool := As.all fun v => !isJ v
def slt (As : List Value) : Nat := (As.map fun v => v.category).sum
theorem lprs_rep (g : GL) : ∀ (n k : Nat), lprs g (List.replicate n jk) k = []
  | 0, _ => rfl
  | n + 1, k => lprs_rep g n (k + 1)
theorem ent_in (g : GL) : ∀ (As : List Value) (n k : Nat), nJ As = true → ∀ q ∈ lprs g (ent n As) k, q ∈ lv_args k (As.map (tr g))
  | [], n, k, _, q, h => by
    rw [show ent n [] = List.replicate n jk from rfl, lprs_rep] at h
    cases h
  | v :: vs, n, k, hj, q, h => by
    have hj' : nJ vs = true := by
      simp only [nJ, List.all_cons, Bool.and_eq_true] at hj
      exact hj.2
    show q ∈ (k, tr g v) :: lv_args (if (tr g v).category = 2 then k + 2 else k + 1) (vs.map (tr g))
    have one : ∀ w : Value, isJ w = false → w.category = 1 → q ∈ lprs g (w :: ent (n - 1) vs) k → q ∈ (k, tr g w) :: lv_args (if (tr g w).category = 2 then k + 2 else k + 1) (vs.map (tr g)) := by
      intro w hw hc hm
      rw [tr_cat, hc, if_neg (by decide)]
      rw [show lprs g (w :: ent (n - 1) vs) k = if isJ w then lprs g (ent (n - 1) vs) (k + 1) else (k, tr g w) :: lprs g (ent (n - 1) vs) (k + 1) from rfl, hw] at hm
      rcases List.mem_cons.mp hm with e | e
      · exact List.mem_cons.mpr (Or.inl e)
      · exact List.mem_cons.mpr (Or.inr (ent_in g vs (n - 1) (k + 1) hj' q e))
    cases v with
    | long x =>
      rw [tr_cat, if_pos (show (Value.long x).category = 2 from rfl)]
      have h : q ∈ (k, tr g (.long x)) :: lprs g (ent (n - 2) vs) (k + 2) := h
      rcases List.mem_cons.mp h with e | e
      · exact List.mem_cons.mpr (Or.inl e)
      · exact List.mem_cons.mpr (Or.inr (ent_in g vs (n - 2) (k + 2) hj' q e))
    | double x =>
      simp [nJ, isJ] at hj
    | int x => exact one _ rfl rfl h
    | float x => exact one _ rfl rfl h
    | ref x => exact one _ rfl rfl h
    | null => exact one _ rfl rfl h
    | retAddr x => exact one _ rfl rfl h
theorem ent_len : ∀ (As : List Value) (n : Nat), nJ As = true → slt As ≤ n → (ent n As).length ≤ n
  | [], n, _, _ => by simp [ent]
  | v :: vs, n, hj, hl => by
    have hj' : nJ vs = true := by
      simp only [nJ, List.all_cons, Bool.and_eq_true] at hj
      exact hj.2
    have hl' : v.category + slt vs ≤ n := by simpa [slt] using hl
    cases v with
    | long x =>
      have ih := ent_len vs (n - 2) hj' (by simp [Value.category] at hl'; omega)
      simp [Value.category] at hl'
      show (ent (n - 2) vs).length + 1 + 1 ≤ n
      omega
    | double x => simp [nJ, isJ] at hj
    | _ =>
      have ih := ent_len vs (n - 1) hj' (by simp [Value.category] at hl'; omega)
      simp [Value.category] at hl'
      show (ent (n - 1) vs).length + 1 ≤ n
      omega
theorem slt_tr (g : GL) : ∀ As : List Value, (lg_sl (As.map (tr g))).length = slt As
  | [] => rfl
  | v :: vs => by
    have ih := slt_tr g vs
    have e : lg_sl ((v :: vs).map (tr g)) = (if (tr g v).category = 2 then [Slot.val (tr g v), .second] else [Slot.val (tr g v)]) ++ lg_sl (vs.map (tr g)) := by simp [lg_sl]
    rw [e, List.length_append, ih, tr_cat]
    show _ = v.category + slt vs
    rcases lv_cat v with h | h
    · rw [h, if_neg (by decide)]; rfl
    · rw [h, if_pos rfl]; rfl
def MOK (M : MD) (na : Nat) : Prop := plainName M.1.cls = true ∧ Cond.code M.1 M.2.1 M.2.2.1 M.2.2.2 ∈ tG ∧ Cond.initialized M.1.cls ∈ tG ∧ (M.1.cls ≠ "java/lang/invoke/MethodHandle" ∧ M.1.cls ≠ "java/lang/invoke/VarHandle" ∧ (parseMethodDescriptor M.1.desc).map (fun d => d.parameters.length) = some na) ∧ M.2.2.1 ≤ 45
abbrev mw (M : MD) : List Cond := Cond.code M.1 M.2.1 M.2.2.1 M.2.2.2 :: tG
abbrev mr (d kc ks : Nat) : Room := { frames := d, cells := kc, slots := ks, locals := 64 * d }
def mP (g : GL) (As : List Value) (n : Nat) (I : IM) (J : JM) (R : RM) : Array Value → State → Prop := va_Pc (As.map (tr g)) (fun U => HOK g n I J R U.heap ∧ Wok g U)
theorem mw_good (M : MD) {na : Nat} (h : MOK M na) : GoodIn tG (mw M) := by
  intro w hw
  have hm : w ∈ tG := by
    rcases List.mem_cons.mp hw with rfl | hw
    · exact h.2.1
    · exact hw
  exact ⟨hm, good_of_word (List.mem_filter.mp hm).2⟩
theorem E.met {g : GL} {M : MD} {d kc ks n na : Nat} {As : List Value} {I : IM} {J : JM} {R : RM} {Q : PQ} (hM : MOK M na) (hj : nJ As = true) (hl : slt As ≤ M.2.2.1) (l : Launch) (hE : E g M d kc ks 0 (ent M.2.2.1 As) [] n I J R Q) : Met l M.1 (mw M) (mr d kc ks) (mP g As n I J R) (QC g Q) kc ks (A0 g) := by
  refine Met.ofW (cc := M.2.1) (maxL := M.2.2.1) (ret := M.2.2.2) hM.1 rfl ?_
  intro p e s m args below meth c s₁ B hml hv
  obtain ⟨rfl, hH, hW⟩ := hv
  have hts := atoms_spec (ws := mw M) B.pre
  have hlv := lv_entry (As.map (tr g)) (n := M.2.2.1) (by rw [slt_tr]; exact hl)
  rw [lg_entry_eq]
  refine hE p l e _ s m _ below meth c s.heap [] 0 0 kc ks _ ⟨⟨B.exec, B.bytes, B.returns, hml, findClass_of_methodNamed B.named, fun w hw => hts w (List.mem_cons_of_mem _ hw), B.notSynchronized, (name_of_methodNamed B.named B.method).1⟩, ⟨Nat.le_refl _, Nat.le_refl _⟩, ⟨by omega, by omega, Nat.le_refl _, Nat.le_refl _⟩, hW, by rw [hH.1]; omega, hH, va_S.rf, ⟨⟨hlv.1, hlv.2.1, fun q hq => hlv.2.2 q (ent_in g As _ 0 hj q hq)⟩, ent_len As _ hj hl⟩⟩
theorem mP.blind {g : GL} {As : List Value} {n : Nat} {I : IM} {J : JM} {R : RM} : FrameBlind (mP g As n I J R) := by
  intro a U f mk h
  obtain ⟨h1, h2, h3⟩ := h
  exact ⟨h1, h2, h3.same (U := U.calling f mk a) rfl⟩
section EC
variable {g : GL} {M : MD} {d kc ks pc n : Nat} {ls st : List Value} {I : IM} {J : JM} {R : RM} {Q : PQ}
/-- behind a call -/
theorem E_after {kc' ks' : Nat} {stk : List Value} {a : Array Value} {p : Program} {l : Launch} {e : Env} {Rm : Room} {s : State} {m : MethodId} {args : Array Value} {below : List Frame} {meth : Method} {c : Code} {H : Heap} {locs : List Loc} {cells slots mc ms : Nat} {la : Array Slot} (Z : Pr g M d (kc' + kc) (ks' + ks) ls n I J R p Rm s m args meth c H locs cells slots mc ms la)
    (hr : va_Run p l e Rm s m args below meth c H locs cells slots kc' ks' (F0 m pc la (stk.map (tr g))) (st.map (tr g)) (QC g (fun v n' I' J' R' => E g M d kc ks (pc + 3) ls (v.toList ++ st) n' I' J' R' Q) a) (A0 g)) : W p l e Rm s m args below meth c H locs cells slots (MQ below (QC g Q) args s mc ms (A0 g)) (F0 m pc la (stk.map (tr g))) := by
  obtain ⟨z1, z2, z3, z4, z5, z6, z7, z8⟩ := Z
  intro T hT X
  obtain ⟨v, st₀, t, T', L, h0, X', hL, e1, e2, ⟨v', n', I', J', R', hv, hq, hH, hF⟩, stp⟩ := hr T hT X
  cases hv
  rw [va_F, h0] at hF
  obtain ⟨t2, a1, b1⟩ := hq p l e Rm s m args below meth c T'.heap (locs ++ L) (cells + kc') (slots + ks') mc ms la ⟨z1, z2, ⟨by omega, by omega, z3.2.2⟩, z4, z5, by rw [e1]; exact hH, ⟨by rw [e1]; exact Nat.le_trans z7.1 hF.1, fun q q1 q2 => by rw [e1, hF.2 q (Nat.lt_of_lt_of_le q1 z7.1) q2]; exact z7.2.1 q q1 q2, fun q hq => by
      rcases List.mem_append.mp hq with h | h
      · exact z7.2.2 q h
      · exact hL q h⟩, z8⟩ T' rfl X'
  refine ⟨t2, stp t2 ?_, b1⟩
  cases v' with
  | none => exact a1
  | some w => exact a1
theorem cat_tr (g : GL) (st : List Value) : ((st.map (tr g)).map fun v => v.category).sum = slt st := by
  induction st with
  | nil => rfl
  | cons v vs ih =>
    show (tr g v).category + ((vs.map (tr g)).map fun v => v.category).sum = v.category + slt vs
    rw [ih, tr_cat]
/-- a static method -/
theorem E_callS {M' : MD} {idx na d' kc' ks' : Nat} {stk As : List Value} (hd : decode M.2.1 pc = .ok (.invokestatic idx, 3)) (hM : MOK M' na) (w1 : Cond.methodLink M.1.cls idx M'.1 ∈ tG) (w2 : Cond.static M'.1 ∈ tG) (hst : stk = As.reverse ++ st) (hn : As.length = na) (hj : nJ As = true) (hl : slt As ≤ M'.2.2.1) (hr : slt st ≤ 8) (hdd : d' + 1 ≤ d) (hE : E g M' d' kc' ks' 0 (ent M'.2.2.1 As) [] n I J R (fun v n' I' J' R' => E g M d kc ks (pc + 3) ls (v.toList ++ st) n' I' J' R' Q)) : E g M d (kc' + kc) (ks' + ks) pc ls stk n I J R Q := by
  intro p l e Rm s m args below meth c H locs cells slots mc ms la Z
  have hts := Z.1.2.2.2.2.2.1
  have hf := Z.2.1
  have h3 := Z.2.2.1
  have hR : d' + 1 ≤ Rm.frames ∧ 8 + (M'.2.2.1 + 11) + 64 * d' ≤ Rm.locals := ⟨by omega, by have := hM.2.2.2.2; omega⟩
  refine E_after (a := (As.map (tr g)).toArray) Z (va_runS (bytes := M'.2.1) (maxL := M'.2.2.1) (ret := M'.2.2.2) (n := na) (Ts := tG) (own := M.1.cls) (nL := M.2.2.1) (cc := M.2.1) (As := As.map (tr g)) ⟨Z.1.1, Z.1.2.1, Z.1.2.2.2.1, Z.1.2.2.2.2.1, hts⟩ (E.met hM hj hl l hE) ⟨callB_of na hts (mw_good M' hM) rfl rfl rfl (hts _ hM.2.2.1) (hts _ w1) hM.2.2.2.1 hR, hts _ w2⟩ ⟨mP.blind, fun U hU hW => ⟨rfl, by rw [hU]; exact Z.2.2.2.2.2.1, Z.2.2.2.1.moved hW⟩⟩ rfl (by rw [List.length_map]; exact hn) Z.2.2.2.2.2.2.2.1.1 (by subst hst; simp) (by rw [cat_tr]; show 2 * 0 + slt st ≤ 8; omega) hd ⟨by omega, by omega⟩)
/-- a static method of a nest mate -/
theorem E_callSN {M' : MD} {idx na d' kc' ks' : Nat} {host : String} {stk As : List Value} (hd : decode M.2.1 pc = .ok (.invokestatic idx, 3)) (hM : MOK M' na) (w1 : Cond.methodLinkNest M.1.cls idx M'.1 host ∈ lw_tbl) (w2 : Cond.static M'.1 ∈ tG) (hst : stk = As.reverse ++ st) (hn : As.length = na) (hj : nJ As = true) (hl : slt As ≤ M'.2.2.1) (hr : slt st ≤ 8) (hdd : d' + 1 ≤ d) (hE : E g M' d' kc' ks' 0 (ent M'.2.2.1 As) [] n I J R (fun v n' I' J' R' => E g M d kc ks (pc + 3) ls (v.toList ++ st) n' I' J' R' Q)) : E g M d (kc' + kc) (ks' + ks) pc ls stk n I J R Q := by
  intro p l e Rm s m args below meth c H locs cells slots mc ms la Z
  have hts := Z.1.2.2.2.2.2.1
  have hf := Z.2.1
  have h3 := Z.2.2.1
  have hR : d' + 1 ≤ Rm.frames ∧ 8 + (M'.2.2.1 + 11) + 64 * d' ≤ Rm.locals := ⟨by omega, by have := hM.2.2.2.2; omega⟩
  refine E_after (a := (As.map (tr g)).toArray) Z (va_runSN (bytes := M'.2.1) (maxL := M'.2.2.1) (ret := M'.2.2.2) (n := na) (Ts := tG) (own := M.1.cls) (host := host) (nL := M.2.2.1) (cc := M.2.1) (As := As.map (tr g)) ⟨Z.1.1, Z.1.2.1, Z.1.2.2.2.1, Z.1.2.2.2.2.1, hts⟩ (E.met hM hj hl l hE) ⟨va_cnB na hts (mw_good M' hM) rfl rfl rfl (Z.2.2.2.1.2.2.2.2.2.1 _ _ _ _ w1) (hts _ hM.2.2.1) hM.2.2.2.1 hR, hts _ w2, trivial⟩ ⟨mP.blind, fun U hU hW => ⟨rfl, by rw [hU]; exact Z.2.2.2.2.2.1, Z.2.2.2.1.moved hW⟩⟩ rfl (by rw [List.length_map]; exact hn) Z.2.2.2.2.2.2.2.1.1 (by subst hst; simp) (by rw [cat_tr]; show 2 * 0 + slt st ≤ 8; omega) hd ⟨by omega, by omega⟩)
/-- a constructor -/
theorem E_callI {M' : MD} {idx na d' kc' ks' b : Nat} {stk As : List Value} (hd : decode M.2.1 pc = .ok (.invokespecial idx, 3)) (hM : MOK M' na) (hret : M'.2.2.2 = none) (w1 : Cond.methodLink M.1.cls idx M'.1 ∈ tG) (w2 : Cond.instanceMethod M'.1 ∈ tG) (w3 : M'.1.name = "<init>") (hst : stk = As.reverse ++ .ref b :: st) (hn : As.length = na) (hj : nJ (.ref b :: As) = true) (hl : slt (.ref b :: As) ≤ M'.2.2.1) (hr : slt st ≤ 8) (hdd : d' + 1 ≤ d) (hE : E g M' d' kc' ks' 0 (ent M'.2.2.1 (.ref b :: As)) [] n I J R (fun v n' I' J' R' => E g M d kc ks (pc + 3) ls (v.toList ++ st) n' I' J' R' Q)) : E g M d (kc' + kc) (ks' + ks) pc ls stk n I J R Q := by
  intro p l e Rm s m args below meth c H locs cells slots mc ms la Z
  have hts := Z.1.2.2.2.2.2.1
  have hf := Z.2.1
  have h3 := Z.2.2.1
  have hR : d' + 1 ≤ Rm.frames ∧ 8 + (M'.2.2.1 + 11) + 64 * d' ≤ Rm.locals := ⟨by omega, by have := hM.2.2.2.2; omega⟩
  have hG : GoodIn tG (Cond.code M'.1 M'.2.1 M'.2.2.1 none :: tG) := by have := mw_good M' hM; rw [mw, hret] at this; exact this
  have hm := E.met hM hj hl l hE
  rw [mw, hret] at hm
  refine E_after (a := ((.ref b :: As).map (tr g)).toArray) Z (va_runI (bytes := M'.2.1) (maxL := M'.2.2.1) (n := na) (Ts := tG) (own := M.1.cls) (nL := M.2.2.1) (cc := M.2.1) (b := gB g + b) (As := As.map (tr g)) ⟨Z.1.1, Z.1.2.1, Z.1.2.2.2.1, Z.1.2.2.2.2.1, hts⟩ hm ⟨callB_of na hts hG rfl rfl rfl (hts _ hM.2.2.1) (hts _ w1) hM.2.2.2.1 hR, w3, hts _ w2⟩ ⟨mP.blind, fun U hU hW => ⟨rfl, by rw [hU]; exact Z.2.2.2.2.2.1, Z.2.2.2.1.moved hW⟩⟩ rfl (by rw [List.length_map]; exact hn) Z.2.2.2.2.2.2.2.1.1 (by subst hst; simp [tr]) (by rw [cat_tr]; show 2 * 0 + slt st ≤ 8; omega) hd ⟨by omega, by omega⟩)
/-- a constructor of a nest mate -/
theorem E_callIN {M' : MD} {idx na d' kc' ks' b : Nat} {host : String} {stk As : List Value} (hd : decode M.2.1 pc = .ok (.invokespecial idx, 3)) (hM : MOK M' na) (hret : M'.2.2.2 = none) (w1 : Cond.methodLinkNest M.1.cls idx M'.1 host ∈ lw_tbl) (w2 : Cond.instanceMethod M'.1 ∈ tG) (w3 : M'.1.name = "<init>") (hst : stk = As.reverse ++ .ref b :: st) (hn : As.length = na) (hj : nJ (.ref b :: As) = true) (hl : slt (.ref b :: As) ≤ M'.2.2.1) (hr : slt st ≤ 8) (hdd : d' + 1 ≤ d) (hE : E g M' d' kc' ks' 0 (ent M'.2.2.1 (.ref b :: As)) [] n I J R (fun v n' I' J' R' => E g M d kc ks (pc + 3) ls (v.toList ++ st) n' I' J' R' Q)) : E g M d (kc' + kc) (ks' + ks) pc ls stk n I J R Q := by
  intro p l e Rm s m args below meth c H locs cells slots mc ms la Z
  have hts := Z.1.2.2.2.2.2.1
  have hf := Z.2.1
  have h3 := Z.2.2.1
  have hR : d' + 1 ≤ Rm.frames ∧ 8 + (M'.2.2.1 + 11) + 64 * d' ≤ Rm.locals := ⟨by omega, by have := hM.2.2.2.2; omega⟩
  have hG : GoodIn tG (Cond.code M'.1 M'.2.1 M'.2.2.1 none :: tG) := by have := mw_good M' hM; rw [mw, hret] at this; exact this
  have hm := E.met hM hj hl l hE
  rw [mw, hret] at hm
  refine E_after (a := ((.ref b :: As).map (tr g)).toArray) Z (va_runIN (bytes := M'.2.1) (maxL := M'.2.2.1) (n := na) (Ts := tG) (own := M.1.cls) (host := host) (nL := M.2.2.1) (cc := M.2.1) (b := gB g + b) (As := As.map (tr g)) ⟨Z.1.1, Z.1.2.1, Z.1.2.2.2.1, Z.1.2.2.2.2.1, hts⟩ hm ⟨va_cnB na hts hG rfl rfl rfl (Z.2.2.2.1.2.2.2.2.2.1 _ _ _ _ w1) (hts _ hM.2.2.1) hM.2.2.2.1 hR, w3, hts _ w2⟩ ⟨mP.blind, fun U hU hW => ⟨rfl, by rw [hU]; exact Z.2.2.2.2.2.1, Z.2.2.2.1.moved hW⟩⟩ rfl (by rw [List.length_map]; exact hn) Z.2.2.2.2.2.2.2.1.1 (by subst hst; simp [tr]) (by rw [cat_tr]; show 2 * 0 + slt st ≤ 8; omega) hd ⟨by omega, by omega⟩)
/-- a method of an object whose own class declares it -/
theorem E_callV {M' : MD} {idx na d' kc' ks' b ci N : Nat} {T : u_T} {stk As : List Value} (hd : decode M.2.1 pc = .ok (.invokevirtual idx, 3)) (hM : MOK M' na) (w1 : Cond.methodLink M.1.cls idx M'.1 ∈ tG) (w2 : Cond.instanceMethod M'.1 ∈ tG) (w3 : Cond.selects M'.1.cls M'.1 M'.1 ∈ tG) (hc : vwCl[ci]? = some (M'.1.cls, T, N)) (hci : ci < 20) (hs : (LY b).1 = ci) (hb : b < n) (hst : stk = As.reverse ++ .ref b :: st) (hn : As.length = na) (hj : nJ (.ref b :: As) = true) (hl : slt (.ref b :: As) ≤ M'.2.2.1) (hr : slt st ≤ 8) (hdd : d' + 1 ≤ d) (hE : E g M' d' kc' ks' 0 (ent M'.2.2.1 (.ref b :: As)) [] n I J R (fun v n' I' J' R' => E g M d kc ks (pc + 3) ls (v.toList ++ st) n' I' J' R' Q)) : E g M d (kc' + kc) (ks' + ks) pc ls stk n I J R Q := by
  intro p l e Rm s m args below meth c H locs cells slots mc ms la Z
  have hts := Z.1.2.2.2.2.2.1
  have hf := Z.2.1
  have h3 := Z.2.2.1
  have hR : d' + 1 ≤ Rm.frames ∧ 8 + (M'.2.2.1 + 11) + 64 * d' ≤ Rm.locals := ⟨by omega, by have := hM.2.2.2.2; omega⟩
  obtain ⟨cell, q1, q2, q3, -⟩ := Z.2.2.2.2.2.1.obj hb hs hci hc
  refine E_after (a := ((.ref b :: As).map (tr g)).toArray) Z (va_runV (bytes := M'.2.1) (maxL := M'.2.2.1) (ret := M'.2.2.2) (n := na) (Ts := tG) (own := M.1.cls) (C := M'.1.cls) (nL := M.2.2.1) (cc := M.2.1) (b := gB g + b) (As := As.map (tr g)) ⟨Z.1.1, Z.1.2.1, Z.1.2.2.2.1, Z.1.2.2.2.2.1, hts⟩ (E.met hM hj hl l hE) ⟨callB_of na hts (mw_good M' hM) rfl rfl rfl (hts _ hM.2.2.1) (hts _ w1) hM.2.2.2.1 hR, hts _ w2, hts _ w3⟩ ⟨mP.blind, ⟨cell, q1, by rw [q3]; rfl, by rw [q2]; exact (Z.2.2.2.1.1 ci _ hc).2.1⟩, fun U hU hW => ⟨rfl, by rw [hU]; exact Z.2.2.2.2.2.1, Z.2.2.2.1.moved hW⟩⟩ rfl (by rw [List.length_map]; exact hn) Z.2.2.2.2.2.2.2.1.1 (by subst hst; simp [tr]) (by rw [cat_tr]; show 2 * 0 + slt st ≤ 8; omega) hd ⟨by omega, by omega⟩)
/-- a method that is inherited, or that overrides the named one -/
theorem E_callU {M' : MD} {x : MethodName} {idx na d' kc' ks' b ci N : Nat} {C owner : String} {T : u_T} {stk As : List Value} (hd : decode M.2.1 pc = .ok (.invokevirtual idx, 3)) (hM : MOK M' na) (hna : (parseMethodDescriptor x.desc).map (fun d => d.parameters.length) = some na) (ho : owner ≠ "java/lang/invoke/MethodHandle" ∧ owner ≠ "java/lang/invoke/VarHandle") (w1 : Cond.methodLink M.1.cls idx x ∈ tG) (w2 : Cond.instanceMethod M'.1 ∈ tG) (w3 : Cond.selects C x M'.1 ∈ tG) (w4 : Cond.sameMethod x.cls owner x.name x.desc ∈ tG) (w5 : Cond.declares ⟨owner, x.name, x.desc⟩ ∈ lw_tbl) (hc : vwCl[ci]? = some (C, T, N)) (hci : ci < 20) (hs : (LY b).1 = ci) (hb : b < n) (hst : stk = As.reverse ++ .ref b :: st) (hn : As.length = na) (hj : nJ (.ref b :: As) = true) (hl : slt (.ref b :: As) ≤ M'.2.2.1) (hr : slt st ≤ 8) (hdd : d' + 1 ≤ d) (hE : E g M' d' kc' ks' 0 (ent M'.2.2.1 (.ref b :: As)) [] n I J R (fun v n' I' J' R' => E g M d kc ks (pc + 3) ls (v.toList ++ st) n' I' J' R' Q)) : E g M d (kc' + kc) (ks' + ks) pc ls stk n I J R Q := by
  intro p l e Rm s m args below meth c H locs cells slots mc ms la Z
  have hts := Z.1.2.2.2.2.2.1
  have hf := Z.2.1
  have h3 := Z.2.2.1
  have hR : d' + 1 ≤ Rm.frames ∧ 8 + (M'.2.2.1 + 11) + 64 * d' ≤ Rm.locals := ⟨by omega, by have := hM.2.2.2.2; omega⟩
  obtain ⟨cell, q1, q2, q3, -⟩ := Z.2.2.2.2.2.1.obj hb hs hci hc
  have hG := mw_good M' hM
  have hcm : Cond.code M'.1 M'.2.1 M'.2.2.1 M'.2.2.2 ∈ mw M' := List.mem_cons_self
  refine E_after (a := ((.ref b :: As).map (tr g)).toArray) Z (va_runU (x := x) (owner := owner) (bytes := M'.2.1) (maxL := M'.2.2.1) (ret := M'.2.2.2) (n := na) (Ts := tG) (own := M.1.cls) (C := C) (nL := M.2.2.1) (cc := M.2.1) (b := gB g + b) (As := As.map (tr g)) ⟨Z.1.1, Z.1.2.1, Z.1.2.2.2.1, Z.1.2.2.2.2.1, hts⟩ (E.met hM hj hl l hE) ⟨⟨rfl, rfl, hR.1, hR.2, pay_in hts hG, hcm⟩, hts _ hM.2.1, hts _ hM.2.2.1, ho, fun sig h => ?_, hts _ w1, hts _ w4, va_Decl.abs (Z.2.2.2.1.2.2.2.2.2.2.1 _ w5), hts _ w3, hts _ w2⟩ ⟨mP.blind, ⟨cell, q1, by rw [q3]; rfl, by rw [q2]; exact (Z.2.2.2.1.1 ci _ hc).2.1⟩, fun U hU hW => ⟨rfl, by rw [hU]; exact Z.2.2.2.2.2.1, Z.2.2.2.1.moved hW⟩⟩ rfl (by rw [List.length_map]; exact hn) Z.2.2.2.2.2.2.2.1.1 (by subst hst; simp [tr]) (by rw [cat_tr]; show 2 * 0 + slt st ≤ 8; omega) hd ⟨by omega, by omega⟩)
  rw [h] at hna
  exact (Option.some.inj hna).symm
/-! ===== the script ===== -/
theorem E_slen (hd : decode M.2.1 pc = .ok (.arraylength, 1)) (kk : E g M d kc ks (pc + 1) ls (.int (Int32.ofNat (gX g).2.1) :: st) n I J R Q) : E g M d kc ks pc ls (.retAddr 0 :: st) n I J R Q := by
  intro p l e Rm s m args below meth c H locs cells slots mc ms la Z
  obtain ⟨scr, h1, h2, h3, h4, h5⟩ := Z.2.2.2.1.2.2.1
  exact W.alen (a := (gX g).1) (n := Int32.ofNat (gX g).2.1) Z.1.1 Z.1.2.1 (by rw [Z.2.2.2.2.2.1.2.1 _ Z.2.2.2.1.2.2.2.1.1]; exact h1) h2 (by rw [h4] <;> rfl) rfl rfl hd (kk p l e Rm s m args below meth c H locs cells slots mc ms la Z)
theorem E_sld {i : Int32} (hd : decode M.2.1 pc = .ok (.iaload, 1)) (hi : vp_in i (gX g).2.1) (kk : E g M d kc ks (pc + 1) ls (.int ((gX g).2.2 i.toNatClampNeg) :: st) n I J R Q) : E g M d kc ks pc ls (.int i :: .retAddr 0 :: st) n I J R Q := by
  intro p l e Rm s m args below meth c H locs cells slots mc ms la Z
  obtain ⟨scr, h1, h2, h3, h4, h5⟩ := Z.2.2.2.1.2.2.1
  exact W.iald (a := (gX g).1) (v := .int ((gX g).2.2 i.toNatClampNeg)) Z.1.1 Z.1.2.1 (by rw [Z.2.2.2.2.2.1.2.1 _ Z.2.2.2.1.2.2.2.1.1]; exact h1) h2 h3 (by rw [h4]; exact hi) (h5 _ (vin_lt hi)) rfl rfl hd (kk p l e Rm s m args below meth c H locs cells slots mc ms la Z)
theorem E_xload_n {i : Fin 4} {x : Nat} (hd : decode M.2.1 pc = .ok (.aload_n i, 1)) (hv : lgt ls i.val = .retAddr x) (hx : ∃ q, gK g x = some q) (k : E g M d kc ks (pc + 1) ls (.retAddr x :: st) n I J R Q) : E g M d kc ks pc ls st n I J R Q := by
  intro p l e Rm s m args below meth c H locs cells slots mc ms la Z
  obtain ⟨q, hq⟩ := hx
  have h1 := Z.2.2.2.2.2.2.2.at hv rfl
  have e1 : tr g (.retAddr x) = .ref q := by show va_rf (gK g x) = _; rw [hq]; rfl
  rw [e1] at h1
  refine lv_aload_n Z.1.1 Z.1.2.1 hd rfl h1 (W.eq (g2 := F0 m (pc + 1) la ((Value.retAddr x :: st).map (tr g))) ?_ (k p l e Rm s m args below meth c H locs cells slots mc ms la Z))
  show _ = F0 m (pc + 1) la (tr g (.retAddr x) :: st.map (tr g))
  rw [e1]
end EC
