/-! THE CLAIM OUT OF ONE WALK OF THE LAW'S BODY. Your part is whole_start (and what it stands on); all else here is the same for every law, but numbers. -/
def R_law : String := "CorkConfessionsLaw"
def lw_P (b : Addr) (xs : List Int32) (args : Array Value) (s : State) : Prop := args = #[.ref b] ∧ s.IntsAt b xs ∧ xs.length ≤ 3072 ∧ (Jvm.Cond.and given_1 narrow_1).before args s = true
def lw_Q (_ : Array Value) (s : State) (o : Outcome) (t : State) : Prop := o = .returned (some (.int 1)) ∧ Framed s o t [] 600000 7302250
def lw_Z (below : List Frame) (a : Array Value) (s : State) : State → Prop := fun t => ∃ o, t.status = .running ∧ Ended t below o ∧ lw_Q a s o t
/-- the law's own end, with 1 on the stack, nothing written that was there before, its room as the claim has it -/
theorem lw_ret {p : Program} {l : Launch} {e : Env} {s : State} {m : MethodId} {below : List Frame} {meth : Method} {c : Code} {b : Nat} (hx : p.tables.exec = Jvm.exec) (hb : c.code = code) (hr : meth.sig.returnType = ret) (hlocks : meth.locks = false) {pc : Nat} {H : Heap} {ls : Array Slot} (hdg : decode code pc = .ok (.ireturn, 1)) : W p l e room_1 s m #[Value.ref b] below meth c H [] 600000 7302250 (lw_Z below #[Value.ref b] s) (F0 m pc ls [.int 1]) := by
  intro T hT X
  obtain ⟨fs, hret, hrun, hended, hW, hframe⟩ := X.leave (v := some (.int 1)) (hlocks := hlocks) (fun h => by rw [hr] at h; cases h)
  have hmeth' : T.vm.method? m = some meth := X.method'
  refine ⟨T.setFrames fs, ?_, .returned (some (.int 1)), hrun, hended, rfl, ⟨_, rfl⟩, hW, hframe⟩
  jvm_step X.here [X.here.top, hx, hb, hdg, hmeth', hr, ret, narrow_b1]
  (try refine ⟨rfl, ?_⟩); (try refine ⟨rfl, ?_⟩)
  first | (intro acts; rw [hret _ acts rfl rfl rfl]) | rw [hret _ _ rfl rfl rfl]
  exact Steps.refl _
/-- what holds at the law's entry: the machine, the code, the tables' words (any of lw_tbl by 'hts w (by decide +kernel)'), the script of L ints xs at the cell b, what the Statement gives of the start (any of its parts by flat_of_before) -/
def lw_At (p : Program) (s : State) (m : MethodId) (meth : Method) (c : Code) (b L : Nat) (xs : Nat → Int32) : Prop :=
  p.tables.exec = Jvm.exec ∧ c.code = code ∧ meth.sig.returnType = ret ∧ c.maxLocals = 4 ∧ s.vm.findClass R_law = some m.cls ∧ (∀ w ∈ lw_tbl, w.before #[Value.ref b] s = true) ∧ va_X b L xs s s.heap ∧ b < s.heap.size ∧ meth.locks = false ∧ (Jvm.Cond.and given_1 narrow_1).before #[Value.ref b] s = true
section START
variable {args : Array Value} {s : State}
/-- the facts of a text out of the premises -/
theorem str_of {own : String} {idx : Nat} {bs : List Int32} {A : Nat → Prop} (hl : bs.length < 2 ^ 31) (h1 : (Cond.exactly (.string own idx) "java/lang/String").before args s = true) (h2 : (Cond.eq (.field (.string own idx) "java/lang/String" "coder" "B") (.int 0)).before args s = true) (h3 : (Cond.arrayOf (.field (.string own idx) "java/lang/String" "value" "[B") .byte).before args s = true) (h4 : (Cond.eq (.length (.field (.string own idx) "java/lang/String" "value" "[B")) (.int (Int32.ofNat bs.length))).before args s = true) (h5 : ∀ j, j < bs.length → (Cond.eq (.elem (.field (.string own idx) "java/lang/String" "value" "[B") (.int (Int32.ofNat j))) (.int (bs.getD j 0))).before args s = true) (hA : ∀ a : Nat, a < s.heap.size → ¬ A a) :
    ∃ q : Nat × Nat, (Term.string own idx).eval args s none [] s = some (.ref q.1) ∧ va_O "java/lang/String" q.1 A s s.heap ∧ va_OF "java/lang/String" "coder" "B" (.int 0) q.1 A s s.heap ∧ va_OF "java/lang/String" "value" "[B" (.ref q.2) q.1 A s s.heap ∧ va_T .byte q.2 bs.length (fun j => .int (bs.getD j 0)) A s s.heap := by
  obtain ⟨adK, adV, hS, hE⟩ := vk_Sof (N := 1) (tm := fun _ => .string own idx) (len := [bs.length]) (byt := [bs]) (A := A) (args := args) (s := s) (fun i hi => by have h9 : i = 0 := (by omega); subst h9; exact hl) (fun _ _ => h1) (fun _ _ => h2) (fun _ _ => h3) (fun i hi => by have h9 : i = 0 := (by omega); subst h9; exact h4) (fun i hi j hj => by have h9 : i = 0 := (by omega); subst h9; exact h5 j hj) (fun i j hi hj hij => absurd (show i = j by omega) hij) hA
  have h := hS.1 0 (by decide)
  exact ⟨(adK 0, adV 0), hE 0 (by decide), h.1, h.2.1, h.2.2.1, h.2.2.2⟩
set_option maxRecDepth 100000 in
theorem str_0 {A : Nat → Prop} (hgv : (Jvm.Cond.and given_1 narrow_1).before args s = true) (hA : ∀ a : Nat, a < s.heap.size → ¬ A a) : ∃ q : Nat × Nat, (Term.string "CorkConfessions$Law" 27).eval args s none [] s = some (.ref q.1) ∧ va_O "java/lang/String" q.1 A s s.heap ∧ va_OF "java/lang/String" "coder" "B" (.int 0) q.1 A s s.heap ∧ va_OF "java/lang/String" "value" "[B" (.ref q.2) q.1 A s s.heap ∧ va_T .byte q.2 ([107, 110, 122, 99, 117, 121, 115, 105, 119] : List Int32).length (fun j => .int (([107, 110, 122, 99, 117, 121, 115, 105, 119] : List Int32).getD j 0)) A s s.heap := by
  have hs := flat_of_before _ hgv
  refine str_of (bs := [107, 110, 122, 99, 117, 121, 115, 105, 119]) (by decide) (hs _ (by decide +kernel)) (hs _ (by decide +kernel)) (hs _ (by decide +kernel)) (hs _ (by decide +kernel)) (fun j hj => ?_) hA
  have hj : j < 9 := hj
  match j, hj with
  | 0, _ => exact hs _ (by decide +kernel)
  | 1, _ => exact hs _ (by decide +kernel)
  | 2, _ => exact hs _ (by decide +kernel)
  | 3, _ => exact hs _ (by decide +kernel)
  | 4, _ => exact hs _ (by decide +kernel)
  | 5, _ => exact hs _ (by decide +kernel)
  | 6, _ => exact hs _ (by decide +kernel)
  | 7, _ => exact hs _ (by decide +kernel)
  | 8, _ => exact hs _ (by decide +kernel)
  | j + 9, h => exact absurd h (by omega)
set_option maxRecDepth 100000 in
theorem str_1 {A : Nat → Prop} (hgv : (Jvm.Cond.and given_1 narrow_1).before args s = true) (hA : ∀ a : Nat, a < s.heap.size → ¬ A a) : ∃ q : Nat × Nat, (Term.string "CorkConfessions$LawReader" 62).eval args s none [] s = some (.ref q.1) ∧ va_O "java/lang/String" q.1 A s s.heap ∧ va_OF "java/lang/String" "coder" "B" (.int 0) q.1 A s s.heap ∧ va_OF "java/lang/String" "value" "[B" (.ref q.2) q.1 A s s.heap ∧ va_T .byte q.2 ([103, 102, 97, 100, 120] : List Int32).length (fun j => .int (([103, 102, 97, 100, 120] : List Int32).getD j 0)) A s s.heap := by
  have hs := flat_of_before _ hgv
  refine str_of (bs := [103, 102, 97, 100, 120]) (by decide) (hs _ (by decide +kernel)) (hs _ (by decide +kernel)) (hs _ (by decide +kernel)) (hs _ (by decide +kernel)) (fun j hj => ?_) hA
  have hj : j < 5 := hj
  match j, hj with
  | 0, _ => exact hs _ (by decide +kernel)
  | 1, _ => exact hs _ (by decide +kernel)
  | 2, _ => exact hs _ (by decide +kernel)
  | 3, _ => exact hs _ (by decide +kernel)
  | 4, _ => exact hs _ (by decide +kernel)
  | j + 5, h => exact absurd h (by omega)
set_option maxRecDepth 100000 in
theorem str_2 {A : Nat → Prop} (hgv : (Jvm.Cond.and given_1 narrow_1).before args s = true) (hA : ∀ a : Nat, a < s.heap.size → ¬ A a) : ∃ q : Nat × Nat, (Term.string "CorkConfessions$LawReader" 101).eval args s none [] s = some (.ref q.1) ∧ va_O "java/lang/String" q.1 A s s.heap ∧ va_OF "java/lang/String" "coder" "B" (.int 0) q.1 A s s.heap ∧ va_OF "java/lang/String" "value" "[B" (.ref q.2) q.1 A s s.heap ∧ va_T .byte q.2 ([107, 110, 122, 99, 117, 121, 115, 105, 119] : List Int32).length (fun j => .int (([107, 110, 122, 99, 117, 121, 115, 105, 119] : List Int32).getD j 0)) A s s.heap := by
  have hs := flat_of_before _ hgv
  refine str_of (bs := [107, 110, 122, 99, 117, 121, 115, 105, 119]) (by decide) (hs _ (by decide +kernel)) (hs _ (by decide +kernel)) (hs _ (by decide +kernel)) (hs _ (by decide +kernel)) (fun j hj => ?_) hA
  have hj : j < 9 := hj
  match j, hj with
  | 0, _ => exact hs _ (by decide +kernel)
  | 1, _ => exact hs _ (by decide +kernel)
  | 2, _ => exact hs _ (by decide +kernel)
  | 3, _ => exact hs _ (by decide +kernel)
  | 4, _ => exact hs _ (by decide +kernel)
  | 5, _ => exact hs _ (by decide +kernel)
  | 6, _ => exact hs _ (by decide +kernel)
  | 7, _ => exact hs _ (by decide +kernel)
  | 8, _ => exact hs _ (by decide +kernel)
  | j + 9, h => exact absurd h (by omega)
set_option maxRecDepth 100000 in
theorem str_3 {A : Nat → Prop} (hgv : (Jvm.Cond.and given_1 narrow_1).before args s = true) (hA : ∀ a : Nat, a < s.heap.size → ¬ A a) : ∃ q : Nat × Nat, (Term.string "CorkConfessions$LawReader" 99).eval args s none [] s = some (.ref q.1) ∧ va_O "java/lang/String" q.1 A s s.heap ∧ va_OF "java/lang/String" "coder" "B" (.int 0) q.1 A s s.heap ∧ va_OF "java/lang/String" "value" "[B" (.ref q.2) q.1 A s s.heap ∧ va_T .byte q.2 ([43, 45, 42, 47, 37] : List Int32).length (fun j => .int (([43, 45, 42, 47, 37] : List Int32).getD j 0)) A s s.heap := by
  have hs := flat_of_before _ hgv
  refine str_of (bs := [43, 45, 42, 47, 37]) (by decide) (hs _ (by decide +kernel)) (hs _ (by decide +kernel)) (hs _ (by decide +kernel)) (hs _ (by decide +kernel)) (fun j hj => ?_) hA
  have hj : j < 5 := hj
  match j, hj with
  | 0, _ => exact hs _ (by decide +kernel)
  | 1, _ => exact hs _ (by decide +kernel)
  | 2, _ => exact hs _ (by decide +kernel)
  | 3, _ => exact hs _ (by decide +kernel)
  | 4, _ => exact hs _ (by decide +kernel)
  | j + 5, h => exact absurd h (by omega)
set_option maxRecDepth 100000 in
theorem str_4 {A : Nat → Prop} (hgv : (Jvm.Cond.and given_1 narrow_1).before args s = true) (hA : ∀ a : Nat, a < s.heap.size → ¬ A a) : ∃ q : Nat × Nat, (Term.string "CorkConfessions$Rounds" 76).eval args s none [] s = some (.ref q.1) ∧ va_O "java/lang/String" q.1 A s s.heap ∧ va_OF "java/lang/String" "coder" "B" (.int 0) q.1 A s s.heap ∧ va_OF "java/lang/String" "value" "[B" (.ref q.2) q.1 A s s.heap ∧ va_T .byte q.2 ([116, 112, 115, 98, 111, 99] : List Int32).length (fun j => .int (([116, 112, 115, 98, 111, 99] : List Int32).getD j 0)) A s s.heap := by
  have hs := flat_of_before _ hgv
  refine str_of (bs := [116, 112, 115, 98, 111, 99]) (by decide) (hs _ (by decide +kernel)) (hs _ (by decide +kernel)) (hs _ (by decide +kernel)) (hs _ (by decide +kernel)) (fun j hj => ?_) hA
  have hj : j < 6 := hj
  match j, hj with
  | 0, _ => exact hs _ (by decide +kernel)
  | 1, _ => exact hs _ (by decide +kernel)
  | 2, _ => exact hs _ (by decide +kernel)
  | 3, _ => exact hs _ (by decide +kernel)
  | 4, _ => exact hs _ (by decide +kernel)
  | 5, _ => exact hs _ (by decide +kernel)
  | j + 6, h => exact absurd h (by omega)
end START
set_option maxHeartbeats 4000000 in
set_option maxRecDepth 100000 in
/-- the law from its entry, out of its walk over the pure memory -/
theorem start_of (hlaw : ∀ g : GL, (gX g).2.1 ≤ 3072 → E g mL 1000 600000 7302250 0 (ent 4 [.retAddr 0]) [] 0 (fun _ _ => 0) (fun _ _ => 0) (fun _ _ => none) (fun v _ _ _ _ => v = some (.int 1))) {p : Program} {e : Env} {s : State} {m : MethodId} {below : List Frame} {meth : Method} {c : Code} (l : Launch) {b L : Nat} {xs : Nat → Int32} (hL : L ≤ 3072) (C0 : lw_At p s m meth c b L xs) (hnm : meth.name = "law") : W p l e room_1 s m #[Value.ref b] below meth c s.heap [] 0 0 (lw_Z below #[Value.ref b] s) (entryFrame m ([Value.ref b] : List Value).toArray 4) := by
  obtain ⟨hx, hb, hr, hml, hown, hts, hX, hbl, hlocks, hgv⟩ := id C0
  have htG : ∀ w ∈ tG, w.before #[Value.ref b] s = true := fun w hw => hts w (List.mem_filter.mp hw).1
  have hs := flat_of_before _ hgv
  obtain ⟨c0, i0, k0⟩ := u_known (C := RX0) (T := TX0) (N := 8) (n := 8) htG ck0.2.2.1 (htG _ in_X0)
  obtain ⟨c1, i1, k1⟩ := u_known (C := RX1) (T := TX1) (N := 5) (n := 5) htG ck1.2.2.1 (htG _ in_X1)
  obtain ⟨c2, i2, k2⟩ := u_known (C := RX2) (T := TX2) (N := 6) (n := 6) htG ck2.2.2.1 (htG _ in_X2)
  obtain ⟨c3, i3, k3⟩ := u_known (C := RX3) (T := TX3) (N := 8) (n := 8) htG ck3.2.2.1 (htG _ in_X3)
  obtain ⟨c4, i4, k4⟩ := u_known (C := RX4) (T := TX4) (N := 6) (n := 6) htG ck4.2.2.1 (htG _ in_X4)
  obtain ⟨c5, i5, k5⟩ := u_known (C := RX6) (T := TX6) (N := 5) (n := 5) htG ck5.2.2.1 (htG _ in_X6)
  obtain ⟨c6, i6, k6⟩ := u_known (C := RX7) (T := TX7) (N := 8) (n := 8) htG ck6.2.2.1 (htG _ in_X7)
  obtain ⟨c7, i7, k7⟩ := u_known (C := RX8) (T := TX8) (N := 6) (n := 6) htG ck7.2.2.1 (htG _ in_X8)
  obtain ⟨c8, i8, k8⟩ := u_known (C := RX9) (T := TX9) (N := 4) (n := 4) htG ck8.2.2.1 (htG _ in_X9)
  obtain ⟨c9, i9, k9⟩ := u_known (C := RX10) (T := TX10) (N := 6) (n := 6) htG ck9.2.2.1 (htG _ in_X10)
  obtain ⟨c10, i10, k10⟩ := u_known (C := RX11) (T := TX11) (N := 20) (n := 20) htG ck10.2.2.1 (htG _ in_X11)
  obtain ⟨c11, i11, k11⟩ := u_known (C := RX12) (T := TX12) (N := 59) (n := 59) htG ck11.2.2.1 (htG _ in_X12)
  obtain ⟨aI, kI, mI, aI1, aI2, aI3⟩ := Cond.arrayClass_spec (htG _ ac_int)
  obtain ⟨aJ, kJ, mJ, aJ1, aJ2, aJ3⟩ := Cond.arrayClass_spec (htG _ ac_long)
  obtain ⟨aB, kB, mB, aB1, aB2, aB3⟩ := Cond.arrayClass_spec (htG _ ac_byte)
  have hao := hts _ (tbl 31 (w := .arrayOver (.object RX10)) (by decide +kernel))
  obtain ⟨mW, aW, kW, aW0, aW1, aW2, aW3, aW4⟩ := Cond.arrayOver_spec hao
  obtain ⟨q0, s0⟩ := str_0 (A := fun q : Nat => s.heap.size ≤ q) hgv (fun _ h => Nat.not_le.mpr h)
  obtain ⟨q1, s1⟩ := str_1 (A := fun q : Nat => s.heap.size ≤ q) hgv (fun _ h => Nat.not_le.mpr h)
  obtain ⟨q2, s2⟩ := str_2 (A := fun q : Nat => s.heap.size ≤ q) hgv (fun _ h => Nat.not_le.mpr h)
  obtain ⟨q3, s3⟩ := str_3 (A := fun q : Nat => s.heap.size ≤ q) hgv (fun _ h => Nat.not_le.mpr h)
  obtain ⟨q4, s4⟩ := str_4 (A := fun q : Nat => s.heap.size ≤ q) hgv (fun _ h => Nat.not_le.mpr h)
  have hZ := va_Zof (A := fun q : Nat => s.heap.size ≤ q) (hts _ (tbl 48 (w := .laysStatic "java/lang/String" "COMPACT_STRINGS" "Z") (by decide +kernel))) (htG _ ii_J0) (va_eqi (z := 1) (hs _ (by decide +kernel))) (fun _ h => Nat.not_le.mpr h)
  obtain ⟨fm, hF⟩ : ∃ fm : Option Nat, va_Z "jdk/internal/util/Preconditions" "SIOOBE_FORMATTER" "Ljava/util/function/BiFunction;" (va_rf fm) (fun q : Nat => s.heap.size ≤ q) s s.heap := by
    rcases va_Zqof (C := "jdk/internal/util/Preconditions") (n := "SIOOBE_FORMATTER") (d := "Ljava/util/function/BiFunction;") (A := fun q : Nat => s.heap.size ≤ q) (args := #[Value.ref b]) (hts _ (tbl 473 (by decide +kernel))) (htG _ ii_J3) (hs _ (by decide +kernel)) (fun _ h => Nat.not_le.mpr h) with h | ⟨t, h⟩
    · exact ⟨none, h⟩
    · exact ⟨some t, h⟩
  let g : GL := (s.heap.size, s.heap, (fun k => if k = 0 then c0 else if k = 1 then c1 else if k = 2 then c2 else if k = 3 then c3 else if k = 4 then c4 else if k = 5 then c5 else if k = 6 then c6 else if k = 7 then c7 else if k = 8 then c8 else if k = 9 then c9 else if k = 10 then c10 else c11, fun k => if k = 0 then i0 else if k = 1 then i1 else if k = 2 then i2 else if k = 3 then i3 else if k = 4 then i4 else if k = 5 then i5 else if k = 6 then i6 else if k = 7 then i7 else if k = 8 then i8 else if k = 9 then i9 else if k = 10 then i10 else i11), (fun k => if k = 20 then aI else if k = 21 then aJ else if k = 22 then aB else aW), (b, L, xs), (fun i => if i = 0 then q0.1 else if i = 1 then q1.1 else if i = 2 then q2.1 else if i = 3 then q3.1 else q4.1), (fun i => if i = 0 then q0.2 else if i = 1 then q1.2 else if i = 2 then q2.2 else if i = 3 then q3.2 else q4.2), fm)
  have hWok : Wok g s := by
    refine ⟨fun k q hq => ?_, fun k h1 h2 => ?_, hX, ⟨hbl, rfl⟩, ⟨fun i q hq => ?_, hZ, hF⟩, fun a i y h hw => va_Nw.of rfl (hts _ hw), fun y hw => va_Nw.of rfl (hts _ hw), va_AO.of hao⟩
    · match k, hq with
      | 0, hq => cases hq; exact k0
      | 1, hq => cases hq; exact k1
      | 2, hq => cases hq; exact k2
      | 3, hq => cases hq; exact k3
      | 4, hq => cases hq; exact k4
      | 5, hq => cases hq; exact k5
      | 6, hq => cases hq; exact k6
      | 7, hq => cases hq; exact k7
      | 8, hq => cases hq; exact k8
      | 9, hq => cases hq; exact k9
      | 10, hq => cases hq; exact k10
      | 11, hq => cases hq; exact k11
      | k + 12, hq => simp [vwCl] at hq
    · match k, h1, h2 with
      | 20, _, _ => exact ⟨fun n z => ⟨fun k h => (by cases h), kI, aI2, mI, aI3⟩, aI1⟩
      | 21, _, _ => exact ⟨fun n z => ⟨fun k h => (by cases h), kJ, aJ2, mJ, aJ3⟩, aJ1⟩
      | 22, _, _ => exact ⟨fun n z => ⟨fun k h => (by cases h), kB, aB2, mB, aB3⟩, aB1⟩
      | 23, _, _ => exact ⟨fun n z => ⟨fun k h => (by cases h), kW, aW2, mW, aW3⟩, ⟨kW, mW, aW2, aW3, aW0, aW4⟩⟩
      | k + 24, _, h => exact absurd h (by omega)
    · match i, hq with
      | 0, hq => cases hq; exact ⟨vk_R.of (A := #[Value.ref b]) (hts _ (tbl 38 (by decide +kernel))) s0.1, s0.2⟩
      | 1, hq => cases hq; exact ⟨vk_R.of (A := #[Value.ref b]) (hts _ (tbl 453 (by decide +kernel))) s1.1, s1.2⟩
      | 2, hq => cases hq; exact ⟨vk_R.of (A := #[Value.ref b]) (hts _ (tbl 512 (by decide +kernel))) s2.1, s2.2⟩
      | 3, hq => cases hq; exact ⟨vk_R.of (A := #[Value.ref b]) (hts _ (tbl 520 (by decide +kernel))) s3.1, s3.2⟩
      | 4, hq => cases hq; exact ⟨vk_R.of (A := #[Value.ref b]) (hts _ (tbl 578 (by decide +kernel))) s4.1, s4.2⟩
      | i + 5, hq => simp [SRL] at hq
  have hH : HOK g 0 (fun _ _ => 0) (fun _ _ => 0) (fun _ _ => none) s.heap := ⟨rfl, fun _ _ => rfl, fun a h => absurd h (Nat.not_lt_zero a)⟩
  have hlv := lv_entry ([Value.ref b]) (n := 4) (Nat.le_of_ble_eq_true rfl)
  rw [lg_entry_eq]
  have hE := hlaw g hL p l e room_1 s m #[Value.ref b] below meth c s.heap [] 0 0 600000 7302250 ((lg_sl ([Value.ref b]) ++ List.replicate (4 - (lg_sl ([Value.ref b])).length) Slot.unset).toArray) ⟨⟨hx, hb, hr, hml, hown, htG, hlocks, hnm⟩, ⟨by decide, by decide⟩, ⟨by omega, by omega, by decide, by decide⟩, hWok, Nat.le_refl _, hH, va_S.rf, ⟨⟨hlv.1, hlv.2.1, fun q hq => hlv.2.2 q (ent_in g [.retAddr 0] 4 0 rfl q hq)⟩, by decide⟩⟩
  intro T hT X
  obtain ⟨t, a1, o, b1, b2, ⟨v, n', I', J', R', hv, hq, hH', hF'⟩, Lc, ⟨f1, f2, f3⟩, hf⟩ := hE T hT X
  subst hq
  refine ⟨t, a1, o, b1, b2, hv, f1, f2, f3.weaken (fun y hy hlt => ?_) (Nat.le_refl _) (Nat.le_refl _)⟩
  exact absurd hlt (Nat.not_lt.mpr (hf y hy))
