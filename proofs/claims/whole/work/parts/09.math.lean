/-! ===== Math, texts, arraycopy over the pure memory ===== -/
def imax (x y : Int32) : Int32 := if x < y then y else x
def imin (x y : Int32) : Int32 := if y < x then y else x
def iabs (x : Int32) : Int32 := if 0 ≤ x then x else 0 - x
section EM
variable {g : GL} {M : MD} {d kc ks pc n : Nat} {ls st : List Value} {I : IM} {J : JM} {R : RM} {Q : PQ}
theorem E_mmax {idx : Nat} {x y : Int32} (hd : decode M.2.1 pc = .ok (.invokestatic idx, 3)) (w1 : Cond.methodLink M.1.cls idx yJ9_max_7cf53 ∈ tG) (hr : slt st ≤ 8) (hd1 : 1 ≤ d) (kk : E g M d kc ks (pc + 3) ls (.int (imax x y) :: st) n I J R Q) : E g M d kc ks pc ls (.int y :: .int x :: st) n I J R Q := by
  intro p l e Rm s m args below meth c H locs cells slots mc ms la Z
  have hts := Z.1.2.2.2.2.2.1
  have hf := Z.2.1
  have h3 := Z.2.2.1
  exact va_mmax Z.1.1 Z.1.2.1 (Z.1.2.2.2.1.trans Z.2.2.2.2.2.2.2.1.1.symm) Z.1.2.2.2.2.1 (hts _ w1) (hts _ st_J9_max_7cf53) (hts _ ii_J9) (hts _ (tbg 657 (by decide +kernel) rfl)) (by omega) (by rw [cat_tr]; omega) (by omega) (by omega) hd (kk p l e Rm s m args below meth c H locs cells slots mc ms la Z)
theorem E_mmin {idx : Nat} {x y : Int32} (hd : decode M.2.1 pc = .ok (.invokestatic idx, 3)) (w1 : Cond.methodLink M.1.cls idx yJ9_min_7cf53 ∈ tG) (hr : slt st ≤ 8) (hd1 : 1 ≤ d) (kk : E g M d kc ks (pc + 3) ls (.int (imin x y) :: st) n I J R Q) : E g M d kc ks pc ls (.int y :: .int x :: st) n I J R Q := by
  intro p l e Rm s m args below meth c H locs cells slots mc ms la Z
  have hts := Z.1.2.2.2.2.2.1
  have hf := Z.2.1
  have h3 := Z.2.2.1
  exact va_mmin Z.1.1 Z.1.2.1 (Z.1.2.2.2.1.trans Z.2.2.2.2.2.2.2.1.1.symm) Z.1.2.2.2.2.1 (hts _ w1) (hts _ st_J9_min_7cf53) (hts _ ii_J9) (hts _ (tbg 444 (by decide +kernel) rfl)) (by omega) (by rw [cat_tr]; omega) (by omega) (by omega) hd (kk p l e Rm s m args below meth c H locs cells slots mc ms la Z)
theorem E_mabs {idx : Nat} {x : Int32} (hd : decode M.2.1 pc = .ok (.invokestatic idx, 3)) (w1 : Cond.methodLink M.1.cls idx yJ9_abs_0f7a4 ∈ tG) (hr : slt st ≤ 8) (hd1 : 1 ≤ d) (kk : E g M d kc ks (pc + 3) ls (.int (iabs x) :: st) n I J R Q) : E g M d kc ks pc ls (.int x :: st) n I J R Q := by
  intro p l e Rm s m args below meth c H locs cells slots mc ms la Z
  have hts := Z.1.2.2.2.2.2.1
  have hf := Z.2.1
  have h3 := Z.2.2.1
  exact va_mabs Z.1.1 Z.1.2.1 (Z.1.2.2.2.1.trans Z.2.2.2.2.2.2.2.1.1.symm) Z.1.2.2.2.2.1 (hts _ w1) (hts _ st_J9_abs_0f7a4) (hts _ ii_J9) (hts _ (tbg 852 (by decide +kernel) rfl)) (by omega) (by rw [cat_tr]; omega) (by omega) (by omega) hd (kk p l e Rm s m args below meth c H locs cells slots mc ms la Z)
/-! texts: a text is an outer reference 1 + 2 i, its bytes 2 + 2 i -/
theorem gK_s (g : GL) (i : Nat) (h : i < 5) : gK g (2 * i + 1) = some (gsK g i) := by
  unfold gK
  rw [if_neg (by omega), if_neg (by omega), if_pos (by omega), show (2 * i + 1) / 2 = i by omega]
theorem gK_v (g : GL) (i : Nat) (h : i < 5) : gK g (2 * i + 2) = some (gsV g i) := by
  unfold gK
  rw [if_neg (by omega), if_neg (by omega), if_neg (by omega), show (2 * i + 2) / 2 - 1 = i by omega]
theorem SRL_lt {i : Nat} {q : String × Nat × String × List Int32} (h : SRL[i]? = some q) : i < 5 := (List.getElem?_eq_some_iff.mp h).1
theorem Pr.low {p : Program} {Rm : Room} {s : State} {m : MethodId} {args : Array Value} {meth : Method} {c : Code} {H : Heap} {locs : List Loc} {cells slots mc ms : Nat} {la : Array Slot} (Z : Pr g M d kc ks ls n I J R p Rm s m args meth c H locs cells slots mc ms la) : ∀ a : Nat, a < (gH g).size → ¬ A0 g a → H[a]? = (gH g)[a]? := fun a h _ => Z.2.2.2.2.2.1.2.1 a (by rw [← Z.2.2.2.1.2.2.2.1.2]; exact h)
theorem E_ldcS {i idx : Nat} {tx : String} {bs : List Int32} (hd : decode M.2.1 pc = .ok (.ldc idx, 2)) (hq : SRL[i]? = some (M.1.cls, idx, tx, bs)) (kk : E g M d kc ks (pc + 2) ls (.retAddr (2 * i + 1) :: st) n I J R Q) : E g M d kc ks pc ls st n I J R Q := by
  intro p l e Rm s m args below meth c H locs cells slots mc ms la Z
  have h1 := (Z.2.2.2.1.2.2.2.2.1.1 i _ hq).1
  refine va_ldcS Z.1.1 Z.1.2.1 Z.1.2.2.2.2.1 h1 hd (W.eq (g2 := F0 m (pc + 2) la ((Value.retAddr (2 * i + 1) :: st).map (tr g))) ?_ (kk p l e Rm s m args below meth c H locs cells slots mc ms la Z))
  show _ = F0 m (pc + 2) la (va_rf (gK g (2 * i + 1)) :: st.map (tr g))
  rw [gK_s g i (SRL_lt hq)]
  rfl
/-- the bytes of a text, its coder -/
theorem E_sval {i idx : Nat} {q : String × Nat × String × List Int32} (hd : decode M.2.1 pc = .ok (.getfield idx, 3)) (hq : SRL[i]? = some q) (w : Cond.fieldLink M.1.cls idx "java/lang/String" "value" "[B" ∈ tG) (kk : E g M d kc ks (pc + 3) ls (.retAddr (2 * i + 2) :: st) n I J R Q) : E g M d kc ks pc ls (.retAddr (2 * i + 1) :: st) n I J R Q := by
  intro p l e Rm s m args below meth c H locs cells slots mc ms la Z
  obtain ⟨cf, k, fi, f, cell, h1, h2, h3, h4, h5, h6⟩ := (Z.2.2.2.1.2.2.2.2.1.1 i _ hq).2.2.2.1.kept Z.low
  have e1 : tr g (.retAddr (2 * i + 1)) = .ref (gsK g i) := by show va_rf (gK g (2 * i + 1)) = _; rw [gK_s g i (SRL_lt hq)]; rfl
  have e2 : tr g (.retAddr (2 * i + 2)) = .ref (gsV g i) := by show va_rf (gK g (2 * i + 2)) = _; rw [gK_v g i (SRL_lt hq)]; rfl
  refine W.eq (g2 := F0 m pc la (.ref (gsK g i) :: st.map (tr g))) (by show F0 m pc la (tr g (.retAddr (2 * i + 1)) :: st.map (tr g)) = _; rw [e1]) ?_
  refine W.getf Z.1.1 Z.1.2.1 Z.1.2.2.2.2.1 (Z.1.2.2.2.2.2.1 _ w) h1 h2 h3 h4 (v := .ref (gsV g i)) h5 rfl rfl hd (W.eq (g2 := F0 m (pc + 3) la ((Value.retAddr (2 * i + 2) :: st).map (tr g))) ?_ (kk p l e Rm s m args below meth c H locs cells slots mc ms la Z))
  show _ = F0 m (pc + 3) la (tr g (.retAddr (2 * i + 2)) :: st.map (tr g))
  rw [e2]
theorem E_scod {i idx : Nat} {q : String × Nat × String × List Int32} (hd : decode M.2.1 pc = .ok (.getfield idx, 3)) (hq : SRL[i]? = some q) (w : Cond.fieldLink M.1.cls idx "java/lang/String" "coder" "B" ∈ tG) (kk : E g M d kc ks (pc + 3) ls (.int 0 :: st) n I J R Q) : E g M d kc ks pc ls (.retAddr (2 * i + 1) :: st) n I J R Q := by
  intro p l e Rm s m args below meth c H locs cells slots mc ms la Z
  obtain ⟨cf, k, fi, f, cell, h1, h2, h3, h4, h5, h6⟩ := (Z.2.2.2.1.2.2.2.2.1.1 i _ hq).2.2.1.kept Z.low
  have e1 : tr g (.retAddr (2 * i + 1)) = .ref (gsK g i) := by show va_rf (gK g (2 * i + 1)) = _; rw [gK_s g i (SRL_lt hq)]; rfl
  refine W.eq (g2 := F0 m pc la (.ref (gsK g i) :: st.map (tr g))) (by show F0 m pc la (tr g (.retAddr (2 * i + 1)) :: st.map (tr g)) = _; rw [e1]) ?_
  exact W.getf Z.1.1 Z.1.2.1 Z.1.2.2.2.2.1 (Z.1.2.2.2.2.2.1 _ w) h1 h2 h3 h4 (v := .int 0) h5 rfl rfl hd (kk p l e Rm s m args below meth c H locs cells slots mc ms la Z)
theorem E_tlen {i : Nat} {q : String × Nat × String × List Int32} (hd : decode M.2.1 pc = .ok (.arraylength, 1)) (hq : SRL[i]? = some q) (kk : E g M d kc ks (pc + 1) ls (.int (Int32.ofNat q.2.2.2.length) :: st) n I J R Q) : E g M d kc ks pc ls (.retAddr (2 * i + 2) :: st) n I J R Q := by
  intro p l e Rm s m args below meth c H locs cells slots mc ms la Z
  obtain ⟨cell, h1, h2, h3, h4, h5, h6, h7⟩ := (Z.2.2.2.1.2.2.2.2.1.1 i _ hq).2.2.2.2.kept Z.low
  have e2 : tr g (.retAddr (2 * i + 2)) = .ref (gsV g i) := by show va_rf (gK g (2 * i + 2)) = _; rw [gK_v g i (SRL_lt hq)]; rfl
  refine W.eq (g2 := F0 m pc la (.ref (gsV g i) :: st.map (tr g))) (by show F0 m pc la (tr g (.retAddr (2 * i + 2)) :: st.map (tr g)) = _; rw [e2]) ?_
  exact W.alen (n := Int32.ofNat q.2.2.2.length) Z.1.1 Z.1.2.1 h1 h2 h5 rfl rfl hd (kk p l e Rm s m args below meth c H locs cells slots mc ms la Z)
theorem E_tld {i : Nat} {j : Int32} {q : String × Nat × String × List Int32} (hd : decode M.2.1 pc = .ok (.baload, 1)) (hq : SRL[i]? = some q) (hj : ¬ j < 0) (hl : j.toNatClampNeg < q.2.2.2.length) (kk : E g M d kc ks (pc + 1) ls (.int (q.2.2.2.getD j.toNatClampNeg 0) :: st) n I J R Q) : E g M d kc ks pc ls (.int j :: .retAddr (2 * i + 2) :: st) n I J R Q := by
  intro p l e Rm s m args below meth c H locs cells slots mc ms la Z
  obtain ⟨cell, h1, h2, h3, h4, h5, h6, h7⟩ := (Z.2.2.2.1.2.2.2.2.1.1 i _ hq).2.2.2.2.kept Z.low
  have e2 : tr g (.retAddr (2 * i + 2)) = .ref (gsV g i) := by show va_rf (gK g (2 * i + 2)) = _; rw [gK_v g i (SRL_lt hq)]; rfl
  refine W.eq (g2 := F0 m pc la (.int j :: .ref (gsV g i) :: st.map (tr g))) (by show F0 m pc la (.int j :: tr g (.retAddr (2 * i + 2)) :: st.map (tr g)) = _; rw [e2]) ?_
  exact W.bald (v := .int (q.2.2.2.getD j.toNatClampNeg 0)) Z.1.1 Z.1.2.1 h1 h2 h3 (fun z => z.elim hj (fun z => by omega)) (h6 _ hl) rfl rfl hd (kk p l e Rm s m args below meth c H locs cells slots mc ms la Z)
theorem E_compact {idx : Nat} (hd : decode M.2.1 pc = .ok (.getstatic idx, 3)) (w : Cond.fieldLink M.1.cls idx "java/lang/String" "COMPACT_STRINGS" "Z" ∈ tG) (kk : E g M d kc ks (pc + 3) ls (.int 1 :: st) n I J R Q) : E g M d kc ks pc ls st n I J R Q := by
  intro p l e Rm s m args below meth c H locs cells slots mc ms la Z
  obtain ⟨cf, kf, fi, f, a, cell, h1, h2, h3, h4, h5, h6, h7, h8⟩ := Z.2.2.2.1.2.2.2.2.1.2.1.kept Z.low
  exact W.gets Z.1.1 Z.1.2.1 Z.1.2.2.2.2.1 (Z.1.2.2.2.2.2.1 _ w) h1 h2 h3 h4 h5 (fun z => by rw [z] at h6; cases h6) (v := .int 1) h7 rfl hd (kk p l e Rm s m args below meth c H locs cells slots mc ms la Z)
theorem E_format {idx : Nat} (hd : decode M.2.1 pc = .ok (.getstatic idx, 3)) (w : Cond.fieldLink M.1.cls idx "jdk/internal/util/Preconditions" "SIOOBE_FORMATTER" "Ljava/util/function/BiFunction;" ∈ tG) (kk : E g M d kc ks (pc + 3) ls (.retAddr 99 :: st) n I J R Q) : E g M d kc ks pc ls st n I J R Q := by
  intro p l e Rm s m args below meth c H locs cells slots mc ms la Z
  obtain ⟨cf, kf, fi, f, a, cell, h1, h2, h3, h4, h5, h6, h7, h8⟩ := Z.2.2.2.1.2.2.2.2.1.2.2.kept Z.low
  exact W.gets Z.1.1 Z.1.2.1 Z.1.2.2.2.2.1 (Z.1.2.2.2.2.2.1 _ w) h1 h2 h3 h4 h5 (fun z => by rw [z] at h6; cases h6) (v := va_rf (gF g)) h7 rfl hd (kk p l e Rm s m args below meth c H locs cells slots mc ms la Z)
/-- a method of a text -/
theorem E_callT {M' : MD} {idx na d' kc' ks' i : Nat} {q : String × Nat × String × List Int32} {stk As : List Value} (hd : decode M.2.1 pc = .ok (.invokevirtual idx, 3)) (hM : MOK M' na) (hcl : M'.1.cls = "java/lang/String") (w1 : Cond.methodLink M.1.cls idx M'.1 ∈ tG) (w2 : Cond.instanceMethod M'.1 ∈ tG) (w3 : Cond.selects M'.1.cls M'.1 M'.1 ∈ tG) (hq : SRL[i]? = some q) (hst : stk = As.reverse ++ .retAddr (2 * i + 1) :: st) (hn : As.length = na) (hj : nJ (.retAddr (2 * i + 1) :: As) = true) (hl : slt (.retAddr (2 * i + 1) :: As) ≤ M'.2.2.1) (hr : slt st ≤ 8) (hdd : d' + 1 ≤ d) (hE : E g M' d' kc' ks' 0 (ent M'.2.2.1 (.retAddr (2 * i + 1) :: As)) [] n I J R (fun v n' I' J' R' => E g M d kc ks (pc + 3) ls (v.toList ++ st) n' I' J' R' Q)) : E g M d (kc' + kc) (ks' + ks) pc ls stk n I J R Q := by
  intro p l e Rm s m args below meth c H locs cells slots mc ms la Z
  have hts := Z.1.2.2.2.2.2.1
  have hf := Z.2.1
  have h3 := Z.2.2.1
  have hR : d' + 1 ≤ Rm.frames ∧ 8 + (M'.2.2.1 + 11) + 64 * d' ≤ Rm.locals := ⟨by omega, by have := hM.2.2.2.2; omega⟩
  obtain ⟨cell, q1, q2, q3, -⟩ := (Z.2.2.2.1.2.2.2.2.1.1 i _ hq).2.1.kept Z.low
  have e1 : tr g (.retAddr (2 * i + 1)) = .ref (gsK g i) := by show va_rf (gK g (2 * i + 1)) = _; rw [gK_s g i (SRL_lt hq)]; rfl
  have e3 : ((Value.retAddr (2 * i + 1) :: As).map (tr g)) = .ref (gsK g i) :: As.map (tr g) := by rw [List.map_cons, e1]
  refine E_after (a := (.ref (gsK g i) :: As.map (tr g)).toArray) Z (va_runV (bytes := M'.2.1) (maxL := M'.2.2.1) (ret := M'.2.2.2) (n := na) (Ts := tG) (own := M.1.cls) (C := M'.1.cls) (nL := M.2.2.1) (cc := M.2.1) (b := gsK g i) (As := As.map (tr g)) ⟨Z.1.1, Z.1.2.1, Z.1.2.2.2.1, Z.1.2.2.2.2.1, hts⟩ (E.met hM hj hl l hE) ⟨callB_of na hts (mw_good M' hM) rfl rfl rfl (hts _ hM.2.2.1) (hts _ w1) hM.2.2.2.1 hR, hts _ w2, hts _ w3⟩ ⟨mP.blind, ⟨cell, q1, q2, by rw [hcl]; exact q3⟩, fun U hU hW => ⟨by rw [e3], by rw [hU]; exact Z.2.2.2.2.2.1, Z.2.2.2.1.moved hW⟩⟩ rfl (by rw [List.length_map]; exact hn) Z.2.2.2.2.2.2.2.1.1 (by subst hst; simp [e1]) (by rw [cat_tr]; show 2 * 0 + slt st ≤ 8; omega) hd ⟨by omega, by omega⟩)
/-! System.arraycopy of ints, from the beginning to the beginning -/
theorem E_copy {idx a b L La Lb : Nat} {x : Int32} (hd : decode M.2.1 pc = .ok (.invokestatic idx, 3)) (w1 : Cond.methodLink M.1.cls idx arraycopyName ∈ tG) (hsa : LY a = (20, La)) (hsb : LY b = (20, Lb)) (ha : a < n) (hb : b < n) (hx0 : ¬ x < 0) (hx : x.toNatClampNeg = L) (hLa : L ≤ La) (hLb : L ≤ Lb) (hr : slt st ≤ 8) (hd1 : 1 ≤ d) (kk : E g M d kc ks (pc + 3) ls st n (fun y k => if y = b then if k < L then I a k else I b k else I y k) J R Q) : E g M d kc ks pc ls (.int x :: .int 0 :: .ref b :: .int 0 :: .ref a :: st) n I J R Q := by
  intro p l e Rm s m args below meth c H locs cells slots mc ms la Z
  obtain ⟨z1, z2, z3, z4, z5, z6, z7, z8⟩ := Z
  have hts := z1.2.2.2.2.2.1
  subst hx
  have ca := z6.arr ha hsa (by decide)
  have cb := z6.arr hb hsb (by decide)
  have hA := (z4.2.1 20 (by decide) (by decide)).1
  obtain ⟨-, k0, hk0, cm0, hkk0⟩ := hA La (EV g I J R a)
  obtain ⟨-, k1, hk1, cm1, hkk1⟩ := hA Lb (EV g I J R b)
  have ea : EV g I J R a = fun j => .int (I a j) := funext fun j => EV_ai (by rw [hsa]) (Or.inl rfl) j
  have eb : EV g I J R b = fun j => .int (I b j) := funext fun j => EV_ai (by rw [hsb]) (Or.inl rfl) j
  have nn : (x.toInt : Int) = (x.toNatClampNeg : Int) := by
    have hz0 : (0 : Int) ≤ x.toInt := by
      have := Int32.not_lt.mp hx0
      simpa using Int32.le_iff_toInt_le.mp this
    show x.toInt = ((x.toInt.toNat : Nat) : Int)
    omega
  have n0 : ((0 : Int32).toInt : Int) = 0 := rfl
  have c0 : (0 : Int32).toNatClampNeg = 0 := rfl
  have hnw : nativeFrameWords "java/lang/System" "arraycopy" 5 ≤ 30 := by decide
  intro T hT X
  obtain ⟨vm', X', step⟩ := X.arraycopy z1.1 z1.2.2.2.2.1 (hts _ w1) (hts _ nt_copy) (hts _ st_copy) (hts _ ii_J10) (src := gB g + a) (dst := gB g + b) (cs := arrV (gA g 20) La (EV g I J R a)) (cd := arrV (gA g 20) Lb (EV g I J R b)) (srcPos := 0) (destPos := 0) (n := x) (by rw [hT]; exact ca) (by rw [hT]; exact cb)
    (fun _ h => by cases h) (fun _ h => by cases h) (fun h => by cases h) (fun h => by cases h) hk0 hk1 hkk0 hkk1 (by simp [refKind, aTy]) (by decide) (by decide) hx0
    (by rw [n0, nn, arrV_size]; omega) (by rw [n0, nn, arrV_size]; omega)
    (fun vm₁ _ i hi => by
      have e : (arrV (gA g 20) La (EV g I J R a)).slots.getD ((0 : Int32).toNatClampNeg + i) .null = .int (I a i) := by
        rw [Array.getD_eq_getD_getElem?, arrV_read _ _ (by rw [c0]; omega), ea, c0, Nat.zero_add]
        rfl
      refine ⟨?_, ?_⟩
      · rw [e]
        rfl
      · rw [e]
        exact trivial)
    (g := F0 m pc la ((Value.int x :: .int 0 :: .ref b :: .int 0 :: .ref a :: st).map (tr g))) rfl (by rw [z1.2.2.2.1]; exact z8.1.1) (rest := st.map (tr g)) rfl (by rw [z1.2.1]; exact hd) (by omega) (by rw [cat_tr]; show 2 * 0 + slt st + (nativeFrameWords "java/lang/System" "arraycopy" 5 + 11) ≤ _; omega)
  have e1 : copied (arrV (gA g 20) La (EV g I J R a)) (arrV (gA g 20) Lb (EV g I J R b)) 0 0 x = arrV (gA g 20) Lb (fun j => .int (va_cpy (I a) (I b) (0 : Int32).toNatClampNeg (0 : Int32).toNatClampNeg x.toNatClampNeg j)) := by
    rw [ea, eb]
    exact va_copied (fun z => .int z) (gA g 20) (gA g 20) (I a) (I b) (by rw [c0]; omega)
  rw [e1] at X' step
  have hl : gB g + b < H.size := by rw [z6.1]; omega
  generalize hcn : arrV (gA g 20) Lb (fun j => .int (va_cpy (I a) (I b) (0 : Int32).toNatClampNeg (0 : Int32).toNatClampNeg x.toNatClampNeg j)) = cn at X' step
  have hheap : ((T.setVm vm').setCell (gB g + b) cn).heap = H.setIfInBounds (gB g + b) cn := by rw [← hT]; rfl
  have oq : ∀ q : Nat, q ≠ gB g + b → (H.setIfInBounds (gB g + b) cn)[q]? = H[q]? := fun q hq => by simp [Array.getElem?_setIfInBounds, Ne.symm hq]
  obtain ⟨t, a1, b1⟩ := kk p l e Rm s m args below meth c _ _ cells slots mc ms la ⟨z1, z2, z3, z4, z5, z6.write (a := b) (H' := H.setIfInBounds (gB g + b) cn) (fun y hy => funext fun k => if_neg hy) (fun _ _ => rfl) (fun _ _ => rfl) (by simp) oq (by
      unfold AtC
      rw [hsb, if_pos (Nat.le_of_ble_eq_true rfl)]
      rw [show (H.setIfInBounds (gB g + b) cn)[gB g + b]? = some cn by simp [Array.getElem?_setIfInBounds, hl], ← hcn]
      congr 2
      funext j
      rw [EV_ai (by rw [hsb]) (Or.inl rfl)]
      unfold va_cpy
      rw [c0]
      by_cases hj : j < x.toNatClampNeg
      · rw [if_pos ⟨Nat.zero_le _, by omega⟩, if_pos rfl, if_pos hj]
        simp
      · rw [if_neg (by omega), if_pos rfl, if_neg hj]), ⟨by simp; exact z7.1, fun q g1 g2 => by
      rw [oq q (fun e => g2 (by rw [e]; exact Nat.le_add_right _ _))]
      exact z7.2.1 q g1 g2, fun q hq => by
      rcases List.mem_append.mp hq with h | h
      · exact z7.2.2 q h
      · obtain ⟨z, -, hz⟩ := List.mem_map.mp h
        rw [← hz]
        exact Nat.le_add_right _ _⟩, z8⟩ _ hheap X'
  exact ⟨t, step t a1, b1⟩
end EM
