/-! ===== reading and writing the pure memory ===== -/
def CK (ci : Nat) (C : String) (T : u_T) (N : Nat) (ty : Nat → FieldType) : Prop := ci < 20 ∧ vwCl[ci]? = some (C, T, N) ∧ (∀ w ∈ u_ws C T N, w ∈ tG) ∧ (∀ k, k < N → parseFieldDescriptor (T k).2.2.1 = some (ty k)) ∧ (∀ a, a < N → ∀ b, b < N → a ≠ b → (T a).2.1 ≠ (T b).2.1) ∧ ∀ k, k < N → defaultValue (ty k) = if fR ci k = true then .null else .int 0
/-- pool entry idx of own is the field k of the kind ci, declared in dc, final or not, of type t -/
def FOK (own : String) (idx ci k : Nat) (dc : String) (fin : Bool) (t : FieldType) : Prop := ∃ (C : String) (T : u_T) (N : Nat) (ty : Nat → FieldType), CK ci C T N ty ∧ k < N ∧ Cond.fieldLink own idx (T k).1 (T k).2.1 (T k).2.2.1 ∈ tG ∧ (T k).2.2.2 = fin ∧ ty k = t ∧ (T k).1 = dc
theorem HOK.obj {g : GL} {n : Nat} {I : IM} {J : JM} {R : RM} {H : Heap} {a ci N : Nat} {C : String} {T : u_T} (h : HOK g n I J R H) (ha : a < n) (hs : (LY a).1 = ci) (hc : ci < 20) (hv : vwCl[ci]? = some (C, T, N)) : ∃ cell : Cell, H[gB g + a]? = some cell ∧ cell.cls = (gD g).1 ci ∧ cell.vm = .none ∧ ∀ k, k < N → cell.slots[(gD g).2 ci k]? = some (EV g I J R a k) := by
  have h1 := h.2.2 a ha
  unfold AtC at h1
  rw [hs, if_neg (Nat.not_le.mpr hc)] at h1
  obtain ⟨r, h2, h3⟩ := h1
  cases hv.symm.trans h2
  exact h3
theorem HOK.arr {g : GL} {n : Nat} {I : IM} {J : JM} {R : RM} {H : Heap} {a kd len : Nat} (h : HOK g n I J R H) (ha : a < n) (hs : LY a = (kd, len)) (hc : 20 ≤ kd) : H[gB g + a]? = some (arrV (gA g kd) len (EV g I J R a)) := by
  have h1 := h.2.2 a ha
  unfold AtC at h1
  rw [hs, if_pos hc] at h1
  exact h1
theorem EV_oi {g : GL} {I : IM} {J : JM} {R : RM} {a ci k : Nat} (hs : (LY a).1 = ci) (hc : ci < 20) (hr : fR ci k = false) : EV g I J R a k = .int (I a k) := by
  unfold EV
  rw [hs, if_neg (by omega), if_neg (by omega), if_neg (by omega), if_neg (by rw [hr]; decide)]
theorem EV_or {g : GL} {I : IM} {J : JM} {R : RM} {a ci k : Nat} (hs : (LY a).1 = ci) (hc : ci < 20) (hr : fR ci k = true) : EV g I J R a k = rf g (R a k) := by
  unfold EV
  rw [hs, if_neg (by omega), if_neg (by omega), if_neg (by omega), if_pos hr]
theorem EV_ai {g : GL} {I : IM} {J : JM} {R : RM} {a kd : Nat} (hs : (LY a).1 = kd) (hc : kd = 20 ∨ kd = 22) (k : Nat) : EV g I J R a k = .int (I a k) := by
  unfold EV
  rw [hs, if_neg (by omega), if_neg (by omega), if_pos (by omega)]
theorem EV_al {g : GL} {I : IM} {J : JM} {R : RM} {a : Nat} (hs : (LY a).1 = 21) (k : Nat) : EV g I J R a k = .long (J a k) := by
  unfold EV
  rw [hs, if_pos rfl]
theorem EV_ar {g : GL} {I : IM} {J : JM} {R : RM} {a : Nat} (hs : (LY a).1 = 23) (k : Nat) : EV g I J R a k = rf g (R a k) := by
  unfold EV
  rw [hs, if_neg (by omega), if_pos rfl]
theorem HOK.write {g : GL} {n : Nat} {I I' : IM} {J J' : JM} {R R' : RM} {H H' : Heap} {a : Nat} (h : HOK g n I J R H) (hI : ∀ x, x ≠ a → I' x = I x) (hJ : ∀ x, x ≠ a → J' x = J x) (hR : ∀ x, x ≠ a → R' x = R x) (hsz : H'.size = H.size) (ho : ∀ q, q ≠ gB g + a → H'[q]? = H[q]?) (hc : AtC g I' J' R' a H') : HOK g n I' J' R' H' := by
  refine ⟨hsz.trans h.1, fun q hq => (ho q (by omega)).trans (h.2.1 q hq), fun x hx => ?_⟩
  by_cases e : x = a
  · subst e
    exact hc
  · exact (h.2.2 x hx).kept (hI x e) (hJ x e) (hR x e) (ho _ (by omega))
theorem up2_o {α : Type} (f : Nat → Nat → α) (a k : Nat) (v : α) : ∀ x, x ≠ a → up2 f a k v x = f x := fun x hx => funext fun y => up2_a f v hx
theorem rf_some (g : GL) (b : Nat) : rf g (some b) = tr g (.ref b) := rfl
section EH
variable {g : GL} {M : MD} {d kc ks pc n : Nat} {ls st : List Value} {I : IM} {J : JM} {R : RM} {Q : PQ}
theorem Wok.K {g : GL} {s : State} (h : Wok g s) : va_K (gD g) vwCl [] s := ⟨h.1, fun k q h => by simp at h⟩
theorem E_getI {idx ci k a : Nat} {dc : String} {fin : Bool} {t : FieldType} (hd : decode M.2.1 pc = .ok (.getfield idx, 3)) (hF : FOK M.1.cls idx ci k dc fin t) (hs : (LY a).1 = ci) (ha : a < n) (hr : fR ci k = false) (kk : E g M d kc ks (pc + 3) ls (.int (I a k) :: st) n I J R Q) : E g M d kc ks pc ls (.ref a :: st) n I J R Q := by
  intro p l e Rm s m args below meth c H locs cells slots mc ms la Z
  obtain ⟨C, T, N, ty, ⟨c1, c2, c3, c4, c5, c6⟩, hk, hl, hfin, hty, hdc⟩ := hF
  obtain ⟨cell, q1, q2, q3, q4⟩ := Z.2.2.2.2.2.1.obj ha hs c1 c2
  obtain ⟨hS, hfc, kC, hkC, hkind⟩ := Z.2.2.2.1.1 ci _ c2
  obtain ⟨cf, kf, fi, f, hi, hsl⟩ := hS k hk
  have hts := Z.1.2.2.2.2.2.1
  refine W.getf Z.1.1 Z.1.2.1 Z.1.2.2.2.2.1 (hts _ hl) hi (u_facts hfc hkC (u_lays hts c3 hk) hi).1 q1 (by rw [q3]; exact fun h => by cases h) (v := .int (I a k)) ?_ rfl rfl hd (kk p l e Rm s m args below meth c H locs cells slots mc ms la Z)
  rw [hsl, q4 k hk, EV_oi hs c1 hr]
theorem E_getR {idx ci k a b : Nat} {dc : String} {fin : Bool} {t : FieldType} (hd : decode M.2.1 pc = .ok (.getfield idx, 3)) (hF : FOK M.1.cls idx ci k dc fin t) (hs : (LY a).1 = ci) (ha : a < n) (hr : fR ci k = true) (hb : R a k = some b) (kk : E g M d kc ks (pc + 3) ls (.ref b :: st) n I J R Q) : E g M d kc ks pc ls (.ref a :: st) n I J R Q := by
  intro p l e Rm s m args below meth c H locs cells slots mc ms la Z
  obtain ⟨C, T, N, ty, ⟨c1, c2, c3, c4, c5, c6⟩, hk, hl, hfin, hty, hdc⟩ := hF
  obtain ⟨cell, q1, q2, q3, q4⟩ := Z.2.2.2.2.2.1.obj ha hs c1 c2
  obtain ⟨hS, hfc, kC, hkC, hkind⟩ := Z.2.2.2.1.1 ci _ c2
  obtain ⟨cf, kf, fi, f, hi, hsl⟩ := hS k hk
  have hts := Z.1.2.2.2.2.2.1
  refine W.getf Z.1.1 Z.1.2.1 Z.1.2.2.2.2.1 (hts _ hl) hi (u_facts hfc hkC (u_lays hts c3 hk) hi).1 q1 (by rw [q3]; exact fun h => by cases h) (v := tr g (.ref b)) ?_ rfl rfl hd (kk p l e Rm s m args below meth c H locs cells slots mc ms la Z)
  rw [hsl, q4 k hk, EV_or hs c1 hr, hb]
  rfl
/-- a field is written: any value that fits -/
theorem E_putG {idx ci k a : Nat} {dc : String} {t : FieldType} {v : Value} {I' : IM} {R' : RM} (hd : decode M.2.1 pc = .ok (.putfield idx, 3)) (hF : FOK M.1.cls idx ci k dc false t) (hs : (LY a).1 = ci) (ha : a < n) (hn : narrow t (tr g v) = tr g v) (hfit : fits t (tr g v) = true) (hI : ∀ x, x ≠ a → I' x = I x) (hR : ∀ x, x ≠ a → R' x = R x) (hE : ∀ j, EV g I' J R' a j = updV (EV g I J R a) k (tr g v) j) (kk : E g M d kc ks (pc + 3) ls st n I' J R' Q) : E g M d kc ks pc ls (v :: .ref a :: st) n I J R Q := by
  intro p l e Rm s m args below meth c H locs cells slots mc ms la Z
  obtain ⟨C, T, N, ty, ⟨c1, c2, c3, c4, c5, c6⟩, hk, hl, hfin, hty, hdc⟩ := hF
  have hts := Z.1.2.2.2.2.2.1
  have hap := va_apart (own := M.1.cls) hts c3 ty c4 c5 Z.2.2.2.1.K c2
  obtain ⟨cell, q1, q2, q3, q4⟩ := Z.2.2.2.2.2.1.obj ha hs c1 c2
  obtain ⟨hS, hfc, kC, hkC, hkind⟩ := Z.2.2.2.1.1 ci _ c2
  obtain ⟨cf, kf, fi, f, hi, hsl⟩ := hS k hk
  have hlay := hts _ (c3 _ (u_in_lay hk))
  unfold u_lay at hlay
  rw [if_neg (by rw [hfin]; decide)] at hlay
  have hst := (u_facts hfc hkC (u_lays hts c3 hk) hi).1
  have h6 := u_store (v := tr g v) hfc hkC hkind hlay hi (hty ▸ c4 k hk) hn hfit
  refine W.putK Z.1.1 Z.1.2.1 (f := f) ⟨Z.1.2.2.2.2.1, hts _ hl, ⟨_, _, _, hi⟩, hst⟩ (by rw [q2]; exact h6) q1 q3 (by rw [hsl]; exact k2_hasslot (q4 k hk)) rfl rfl hd fun H' e1 e2 e3 => ?_
  obtain ⟨z1, z2, z3, z4, z5, z6, z7, z8⟩ := Z
  refine kk p l e Rm s m args below meth c H' _ cells slots mc ms la ⟨z1, z2, z3, z4, z5, z6.write hI (fun _ _ => rfl) hR e2 e3 ?_, z7.put e2 e3 (Nat.le_add_right _ _), z8⟩
  unfold AtC
  rw [hs, if_neg (Nat.not_le.mpr c1)]
  rw [hsl] at e1
  exact ⟨_, c2, t_OB.to (V := updV (EV g I J R a) k (tr g v)) ⟨_, e1, q2, q3, t_set q4 hap hk (tr g v)⟩ (fun j _ => (hE j).symm)⟩
theorem EV_put {g : GL} {I : IM} {J : JM} {R : RM} {a ci k : Nat} (x : Int32) (hs : (LY a).1 = ci) (hc : ci < 20) (hr : fR ci k = false) : ∀ j, EV g (up2 I a k x) J R a j = updV (EV g I J R a) k (.int x) j := by
  intro j
  by_cases e : j = k
  · subst e
    rw [EV_oi hs hc hr, up2_s]
    exact (if_pos rfl).symm
  · have e2 : up2 I a k x a j = I a j := up2_k I x e
    unfold updV
    rw [if_neg e]
    unfold EV
    rw [e2]
theorem EV_putR {g : GL} {I : IM} {J : JM} {R : RM} {a ci k : Nat} (r : Option Nat) (hs : (LY a).1 = ci) (hc : ci < 20) (hr : fR ci k = true) : ∀ j, EV g I J (up2 R a k r) a j = updV (EV g I J R a) k (rf g r) j := by
  intro j
  by_cases e : j = k
  · subst e
    rw [EV_or hs hc hr, up2_s]
    exact (if_pos rfl).symm
  · have e2 : up2 R a k r a j = R a j := up2_k R r e
    unfold updV
    rw [if_neg e]
    unfold EV
    rw [e2]
theorem FOK.lt {own : String} {idx ci k : Nat} {dc : String} {fin : Bool} {t : FieldType} (hF : FOK own idx ci k dc fin t) : ci < 20 := by
  obtain ⟨C, T, N, ty, ⟨c1, -⟩, -⟩ := hF
  exact c1
theorem E_putI {idx ci k a : Nat} {dc : String} {x : Int32} (hd : decode M.2.1 pc = .ok (.putfield idx, 3)) (hF : FOK M.1.cls idx ci k dc false .int) (hs : (LY a).1 = ci) (ha : a < n) (hr : fR ci k = false) (kk : E g M d kc ks (pc + 3) ls st n (up2 I a k x) J R Q) : E g M d kc ks pc ls (.int x :: .ref a :: st) n I J R Q :=
  E_putG hd hF hs ha rfl rfl (up2_o I a k x) (fun _ _ => rfl) (EV_put x hs hF.lt hr) kk
theorem E_putZ {idx ci k a : Nat} {dc : String} {x : Int32} (hd : decode M.2.1 pc = .ok (.putfield idx, 3)) (hF : FOK M.1.cls idx ci k dc false .boolean) (hs : (LY a).1 = ci) (ha : a < n) (hr : fR ci k = false) (hx : x = 0 ∨ x = 1) (kk : E g M d kc ks (pc + 3) ls st n (up2 I a k x) J R Q) : E g M d kc ks pc ls (.int x :: .ref a :: st) n I J R Q :=
  E_putG hd hF hs ha (by rcases hx with rfl | rfl <;> rfl) (by rcases hx with rfl | rfl <;> rfl) (up2_o I a k x) (fun _ _ => rfl) (EV_put x hs hF.lt hr) kk
theorem E_putR {idx ci k a b : Nat} {dc : String} {t : FieldType} (hd : decode M.2.1 pc = .ok (.putfield idx, 3)) (hF : FOK M.1.cls idx ci k dc false t) (hs : (LY a).1 = ci) (ha : a < n) (hr : fR ci k = true) (ht : (∃ q, t = .object q) ∨ ∃ q, t = .array q) (kk : E g M d kc ks (pc + 3) ls st n I J (up2 R a k (some b)) Q) : E g M d kc ks pc ls (.ref b :: .ref a :: st) n I J R Q :=
  E_putG hd hF hs ha (by rcases ht with ⟨q, rfl⟩ | ⟨q, rfl⟩ <;> rfl) (by rcases ht with ⟨q, rfl⟩ | ⟨q, rfl⟩ <;> rfl) (fun _ _ => rfl) (up2_o R a k (some b)) (EV_putR (some b) hs hF.lt hr) kk
/-- a final reference, in a constructor -/
theorem E_putF {idx ci k a b : Nat} {t : FieldType} (hd : decode M.2.1 pc = .ok (.putfield idx, 3)) (hF : FOK M.1.cls idx ci k M.1.cls true t) (hi0 : M.1.name = "<init>") (hs : (LY a).1 = ci) (ha : a < n) (hr : fR ci k = true) (ht : (∃ q, t = .object q) ∨ ∃ q, t = .array q) (kk : E g M d kc ks (pc + 3) ls st n I J (up2 R a k (some b)) Q) : E g M d kc ks pc ls (.ref b :: .ref a :: st) n I J R Q := by
  intro p l e Rm s m args below meth c H locs cells slots mc ms la Z
  have hlt := hF.lt
  obtain ⟨C, T, N, ty, ⟨c1, c2, c3, c4, c5, c6⟩, hk, hl, hfin, hty, hdc⟩ := hF
  have hn : narrow t (tr g (.ref b)) = tr g (.ref b) := by rcases ht with ⟨q, rfl⟩ | ⟨q, rfl⟩ <;> rfl
  have hfit : fits t (tr g (.ref b)) = true := by rcases ht with ⟨q, rfl⟩ | ⟨q, rfl⟩ <;> rfl
  have hts := Z.1.2.2.2.2.2.1
  have hap := va_apart (own := M.1.cls) hts c3 ty c4 c5 Z.2.2.2.1.K c2
  obtain ⟨cell, q1, q2, q3, q4⟩ := Z.2.2.2.2.2.1.obj ha hs c1 c2
  obtain ⟨hS, hfc, kC, hkC, hkind⟩ := Z.2.2.2.1.1 ci _ c2
  obtain ⟨cf, kf, fi, f, hi, hsl⟩ := hS k hk
  have hlay := hts _ (c3 _ (u_in_lay hk))
  unfold u_lay at hlay
  rw [if_pos hfin] at hlay
  have hst := (u_facts hfc hkC (u_lays hts c3 hk) hi).1
  have hcf : m.cls = cf := by
    obtain ⟨_, _, c', _, _, _, -, -, hf', -, -, -, hown2, -⟩ := Cond.laysFinal_spec hlay
    have e1 : c' = cf := by have := hi.symm.trans hf'; simp at this; exact this.1.symm
    rw [hdc] at hown2
    rw [← e1]; exact Option.some.inj (Z.1.2.2.2.2.1.symm.trans hown2)
  have h6 := u_fits (v := tr g (.ref b)) hfc hkC hkind (Or.inr hlay) hi (hty ▸ c4 k hk) hn hfit
  refine W.putFinK Z.1.1 Z.1.2.1 Z.1.2.2.2.2.1 (hts _ hl) hi hst hcf (Z.1.2.2.2.2.2.2.2.trans hi0) (by rw [q2]; exact h6) q1 q3 (by rw [hsl]; exact k2_hasslot (q4 k hk)) rfl rfl hd fun H' e1 e2 e3 => ?_
  obtain ⟨z1, z2, z3, z4, z5, z6, z7, z8⟩ := Z
  refine kk p l e Rm s m args below meth c H' _ cells slots mc ms la ⟨z1, z2, z3, z4, z5, z6.write (fun _ _ => rfl) (fun _ _ => rfl) (up2_o R a k (some b)) e2 e3 ?_, z7.put e2 e3 (Nat.le_add_right _ _), z8⟩
  unfold AtC
  rw [hs, if_neg (Nat.not_le.mpr c1)]
  rw [hsl] at e1
  exact ⟨_, c2, t_OB.to (V := updV (EV g I J R a) k (tr g (.ref b))) ⟨_, e1, q2, q3, t_set q4 hap hk (tr g (.ref b))⟩ (fun j _ => (EV_putR (some b) hs c1 hr j).symm)⟩
/-! arrays -/
theorem vin_lt {i : Int32} {L : Nat} (h : vp_in i L) : i.toNatClampNeg < L := Nat.not_le.mp fun q => h (Or.inr q)
theorem E_iald {a L : Nat} {i : Int32} (hd : decode M.2.1 pc = .ok (.iaload, 1)) (hs : LY a = (20, L)) (ha : a < n) (hi : vp_in i L) (kk : E g M d kc ks (pc + 1) ls (.int (I a i.toNatClampNeg) :: st) n I J R Q) : E g M d kc ks pc ls (.int i :: .ref a :: st) n I J R Q := by
  intro p l e Rm s m args below meth c H locs cells slots mc ms la Z
  have h1 := Z.2.2.2.2.2.1.arr ha hs (by decide)
  exact W.iald (v := .int (I a i.toNatClampNeg)) Z.1.1 Z.1.2.1 h1 ((Z.2.2.2.1.2.1 20 (by decide) (by decide)).1 L _) (fun q => by cases q) (by rw [arrV_size]; exact hi) (by rw [arrV_read _ _ (vin_lt hi), EV_ai (by rw [hs]) (Or.inl rfl)]) rfl rfl hd (kk p l e Rm s m args below meth c H locs cells slots mc ms la Z)
theorem E_bald {a L : Nat} {i : Int32} (hd : decode M.2.1 pc = .ok (.baload, 1)) (hs : LY a = (22, L)) (ha : a < n) (hi : vp_in i L) (kk : E g M d kc ks (pc + 1) ls (.int (I a i.toNatClampNeg) :: st) n I J R Q) : E g M d kc ks pc ls (.int i :: .ref a :: st) n I J R Q := by
  intro p l e Rm s m args below meth c H locs cells slots mc ms la Z
  have h1 := Z.2.2.2.2.2.1.arr ha hs (by decide)
  exact W.bald (v := .int (I a i.toNatClampNeg)) Z.1.1 Z.1.2.1 h1 ((Z.2.2.2.1.2.1 22 (by decide) (by decide)).1 L _) (fun q => by cases q) (by rw [arrV_size]; exact hi) (by rw [arrV_read _ _ (vin_lt hi), EV_ai (by rw [hs]) (Or.inr rfl)]) rfl rfl hd (kk p l e Rm s m args below meth c H locs cells slots mc ms la Z)
theorem E_lald {a L : Nat} {i : Int32} (hd : decode M.2.1 pc = .ok (.laload, 1)) (hs : LY a = (21, L)) (ha : a < n) (hi : vp_in i L) (kk : E g M d kc ks (pc + 1) ls (.long (J a i.toNatClampNeg) :: st) n I J R Q) : E g M d kc ks pc ls (.int i :: .ref a :: st) n I J R Q := by
  intro p l e Rm s m args below meth c H locs cells slots mc ms la Z
  have h1 := Z.2.2.2.2.2.1.arr ha hs (by decide)
  exact W.lald (v := .long (J a i.toNatClampNeg)) Z.1.1 Z.1.2.1 h1 ((Z.2.2.2.1.2.1 21 (by decide) (by decide)).1 L _) (fun q => by cases q) (by rw [arrV_size]; exact hi) (by rw [arrV_read _ _ (vin_lt hi), EV_al (by rw [hs])]) rfl rfl hd (kk p l e Rm s m args below meth c H locs cells slots mc ms la Z)
theorem E_aald {a L b : Nat} {i : Int32} (hd : decode M.2.1 pc = .ok (.aaload, 1)) (hs : LY a = (23, L)) (ha : a < n) (hi : vp_in i L) (hb : R a i.toNatClampNeg = some b) (kk : E g M d kc ks (pc + 1) ls (.ref b :: st) n I J R Q) : E g M d kc ks pc ls (.int i :: .ref a :: st) n I J R Q := by
  intro p l e Rm s m args below meth c H locs cells slots mc ms la Z
  have h1 := Z.2.2.2.2.2.1.arr ha hs (by decide)
  exact W.aald (v := tr g (.ref b)) (ty := .object RX10) Z.1.1 Z.1.2.1 h1 ((Z.2.2.2.1.2.1 23 (by decide) (by decide)).1 L _) rfl (fun q => by cases q) (by rw [arrV_size]; exact hi) (by rw [arrV_read _ _ (vin_lt hi), EV_ar (by rw [hs]), hb]; rfl) rfl rfl hd (kk p l e Rm s m args below meth c H locs cells slots mc ms la Z)
theorem E_alen {a L kd : Nat} (hd : decode M.2.1 pc = .ok (.arraylength, 1)) (hs : LY a = (kd, L)) (ha : a < n) (h1 : 20 ≤ kd) (h2 : kd < 24) (kk : E g M d kc ks (pc + 1) ls (.int (Int32.ofNat L) :: st) n I J R Q) : E g M d kc ks pc ls (.ref a :: st) n I J R Q := by
  intro p l e Rm s m args below meth c H locs cells slots mc ms la Z
  have h3 := Z.2.2.2.2.2.1.arr ha hs h1
  exact W.alen (n := Int32.ofNat L) Z.1.1 Z.1.2.1 h3 ((Z.2.2.2.1.2.1 kd h1 h2).1 L _) (by simp [arrV_size, Nat.toInt32]) rfl rfl hd (kk p l e Rm s m args below meth c H locs cells slots mc ms la Z)
theorem E_iast {a L : Nat} {i x : Int32} (hd : decode M.2.1 pc = .ok (.iastore, 1)) (hs : LY a = (20, L)) (ha : a < n) (hi : vp_in i L) (kk : E g M d kc ks (pc + 1) ls st n (up2 I a i.toNatClampNeg x) J R Q) : E g M d kc ks pc ls (.int x :: .int i :: .ref a :: st) n I J R Q := by
  intro p l e Rm s m args below meth c H locs cells slots mc ms la Z
  have h1 := Z.2.2.2.2.2.1.arr ha hs (by decide)
  refine W.iast Z.1.1 Z.1.2.1 h1 ((Z.2.2.2.1.2.1 20 (by decide) (by decide)).1 L _) (fun q => by cases q) (by rw [arrV_size]; exact hi) rfl rfl hd fun H' e1 e2 e3 => ?_
  obtain ⟨z1, z2, z3, z4, z5, z6, z7, z8⟩ := Z
  refine kk p l e Rm s m args below meth c H' _ cells slots mc ms la ⟨z1, z2, z3, z4, z5, z6.write (up2_o I a _ x) (fun _ _ => rfl) (fun _ _ => rfl) e2 e3 ?_, z7.put e2 e3 (Nat.le_add_right _ _), z8⟩
  unfold AtC
  rw [hs, if_pos (Nat.le_of_ble_eq_true rfl), e1, arrV_store]
  congr 2
  funext j
  rw [EV_ai (by rw [hs]) (Or.inl rfl)]
  unfold updV
  by_cases e : j = i.toNatClampNeg
  · rw [if_pos e, e, up2_s]
  · rw [if_neg e, EV_ai (by rw [hs]) (Or.inl rfl), up2_k I x e]
theorem E_bast {a L : Nat} {i x : Int32} (hd : decode M.2.1 pc = .ok (.bastore, 1)) (hs : LY a = (22, L)) (ha : a < n) (hi : vp_in i L) (kk : E g M d kc ks (pc + 1) ls st n (up2 I a i.toNatClampNeg x.toInt8.toInt32) J R Q) : E g M d kc ks pc ls (.int x :: .int i :: .ref a :: st) n I J R Q := by
  intro p l e Rm s m args below meth c H locs cells slots mc ms la Z
  have h1 := Z.2.2.2.2.2.1.arr ha hs (by decide)
  refine W.bast Z.1.1 Z.1.2.1 h1 ((Z.2.2.2.1.2.1 22 (by decide) (by decide)).1 L _) (fun q => by cases q) (by rw [arrV_size]; exact hi) rfl rfl hd fun H' e1 e2 e3 => ?_
  obtain ⟨z1, z2, z3, z4, z5, z6, z7, z8⟩ := Z
  refine kk p l e Rm s m args below meth c H' _ cells slots mc ms la ⟨z1, z2, z3, z4, z5, z6.write (up2_o I a _ _) (fun _ _ => rfl) (fun _ _ => rfl) e2 e3 ?_, z7.put e2 e3 (Nat.le_add_right _ _), z8⟩
  unfold AtC
  rw [hs, if_pos (Nat.le_of_ble_eq_true rfl), e1, arrV_store]
  congr 2
  funext j
  rw [EV_ai (by rw [hs]) (Or.inr rfl)]
  unfold updV
  by_cases e : j = i.toNatClampNeg
  · rw [if_pos e, e, up2_s]
    rfl
  · rw [if_neg e, EV_ai (by rw [hs]) (Or.inr rfl), up2_k I _ e]
theorem E_last {a L : Nat} {i : Int32} {x : Int64} (hd : decode M.2.1 pc = .ok (.lastore, 1)) (hs : LY a = (21, L)) (ha : a < n) (hi : vp_in i L) (kk : E g M d kc ks (pc + 1) ls st n I (up2 J a i.toNatClampNeg x) R Q) : E g M d kc ks pc ls (.long x :: .int i :: .ref a :: st) n I J R Q := by
  intro p l e Rm s m args below meth c H locs cells slots mc ms la Z
  have h1 := Z.2.2.2.2.2.1.arr ha hs (by decide)
  refine W.last Z.1.1 Z.1.2.1 h1 ((Z.2.2.2.1.2.1 21 (by decide) (by decide)).1 L _) (fun q => by cases q) (by rw [arrV_size]; exact hi) rfl rfl hd fun H' e1 e2 e3 => ?_
  obtain ⟨z1, z2, z3, z4, z5, z6, z7, z8⟩ := Z
  refine kk p l e Rm s m args below meth c H' _ cells slots mc ms la ⟨z1, z2, z3, z4, z5, z6.write (fun _ _ => rfl) (up2_o J a _ x) (fun _ _ => rfl) e2 e3 ?_, z7.put e2 e3 (Nat.le_add_right _ _), z8⟩
  unfold AtC
  rw [hs, if_pos (Nat.le_of_ble_eq_true rfl), e1, arrV_store]
  congr 2
  funext j
  rw [EV_al (by rw [hs])]
  unfold updV
  by_cases e : j = i.toNatClampNeg
  · rw [if_pos e, e, up2_s]
  · rw [if_neg e, EV_al (by rw [hs]), up2_k J x e]
theorem E_aast {a L b : Nat} {i : Int32} (hd : decode M.2.1 pc = .ok (.aastore, 1)) (hs : LY a = (23, L)) (ha : a < n) (hi : vp_in i L) (hb : (LY b).1 = 9) (hbn : b < n) (kk : E g M d kc ks (pc + 1) ls st n I J (up2 R a i.toNatClampNeg (some b)) Q) : E g M d kc ks pc ls (.ref b :: .int i :: .ref a :: st) n I J R Q := by
  intro p l e Rm s m args below meth c H locs cells slots mc ms la Z
  have h1 := Z.2.2.2.2.2.1.arr ha hs (by decide)
  have c2 : vwCl[9]? = some (RX10, TX10, 6) := rfl
  obtain ⟨cellV, g1, g2, g3, -⟩ := Z.2.2.2.2.2.1.obj hbn hb (by decide) c2
  have hcls := (Z.2.2.2.1.1 9 _ c2).2
  obtain ⟨kA, comp, k1, k2, k3, -⟩ := (Z.2.2.2.1.2.1 23 (by decide) (by decide)).2
  have hcomp : comp = (gD g).1 9 := Option.some.inj (k3.symm.trans hcls.1)
  subst hcomp
  obtain ⟨kC, hkC, -⟩ := hcls.2
  refine W.aast Z.1.1 Z.1.2.1 h1 (fun q h => by cases h) (fun h => by cases h) k1 k2 rfl hkC ⟨fun q => hi (Or.inl q), by rw [arrV_size]; exact vin_lt hi⟩ g1 (fun q h => by rw [g3] at h; cases h) (by rw [g2]; exact hkC) (by rw [g2]; exact va_assign hcls) rfl rfl hd fun H' e1 e2 e3 => ?_
  obtain ⟨z1, z2, z3, z4, z5, z6, z7, z8⟩ := Z
  refine kk p l e Rm s m args below meth c H' _ cells slots mc ms la ⟨z1, z2, z3, z4, z5, z6.write (fun _ _ => rfl) (fun _ _ => rfl) (up2_o R a _ _) e2 e3 ?_, z7.put e2 e3 (Nat.le_add_right _ _), z8⟩
  unfold AtC
  rw [hs, if_pos (Nat.le_of_ble_eq_true rfl), e1, arrV_store]
  congr 2
  funext j
  rw [EV_ar (by rw [hs])]
  unfold updV
  by_cases e : j = i.toNatClampNeg
  · rw [if_pos e, e, up2_s]
    rfl
  · rw [if_neg e, EV_ar (by rw [hs]), up2_k R _ e]
end EH
