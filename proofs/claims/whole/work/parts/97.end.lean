/-! ===== the end ===== -/
set_option maxHeartbeats 4000000 in
theorem law_ok : ∀ g : GL, (gX g).2.1 ≤ 3072 → E g mL 1000 600000 7302250 0 (ent 4 [.retAddr 0]) [] 0 (fun _ _ => 0) (fun _ _ => 0) (fun _ _ => none) (fun v _ _ _ _ => v = some (.int 1)) :=
  law_E (INV := INV LRq) (fun n I J R h => by obtain ⟨σ, hB, hX, hM, hl⟩ := h; exact hX.2.2.2.1.n) INV_0
    (fun a1 g n I J R h => pair_of LRq_ok (r_screw a1) (u_screw a1) (fun _ => ⟨_, rfl⟩) (sx_screw a1) (sm_screw a1) (b_screw a1) g n I J R h)
    (fun a1 a2 a3 a4 a5 g n I J R h => pair_of LRq_ok (r_feed ) (u_feed a1 a2 a3 a4 a5) (fun _ => ⟨_, rfl⟩) (sx_feed a1 a2 a3 a4 a5) (sm_feed a1 a2 a3 a4 a5) (b_feed a1 a2 a3 a4 a5) g n I J R h)
    (fun a1 => pair_law a1)
    (fun a1 a2 g n I J R h => pair_ofR LRq_ok (r_witness a1 a2) (u_witness a1 a2) (fun _ => ⟨_, rfl⟩) (sx_witness a1 a2) (sm_witness a1 a2) (b_witness a1 a2) g n I J R h)
    (fun a1 a2 g n I J R h => pair_ofQ (r_draw a1 a2) (u_draw a1 a2) (fun _ _ => ⟨_, rfl⟩) (sx_draw a1 a2) (sm_draw a1 a2) (b_draw a1 a2) g n I J R h)
    (fun a1 a2 a3 g n I J R h => pair_ofQ (r_tried a1 a2 a3) (u_tried a1 a2 a3) (fun _ _ => ⟨_, rfl⟩) (sx_tried a1 a2 a3) (sm_tried a1 a2 a3) (b_tried a1 a2 a3) g n I J R h)
    (fun a1 a2 g n I J R h => pair_of LRq_ok (r_wi a1 a2) id (fun _ => ⟨_, rfl⟩) (sx_witnessIs a1 a2) (sm_witnessIs a1 a2) (fun _ h => h) g n I J R h)
    (fun a1 a2 a3 g n I J R h => pair_of LRq_ok (r_li a1 a2 a3) id (fun _ => ⟨_, rfl⟩) (sx_layerIs a1 a2 a3) (sm_layerIs a1 a2 a3) (fun _ h => h) g n I J R h)
    (fun a1 a2 a3 => pair_plan a1 a2 a3)
    (fun a1 a2 g n I J R h => pair_of LRq_ok (r_heard a1 a2) id (fun _ => ⟨_, rfl⟩) (sx_heard a1 a2) (sm_heard a1 a2) (fun _ h => h) g n I J R h)
    (fun a1 a2 g n I J R h => pair_of LRq_ok (r_agree a1 a2) id (fun _ => ⟨_, rfl⟩) (sx_agree a1 a2) (sm_agree a1 a2) (fun _ h => h) g n I J R h)
    (fun a1 a2 g n I J R h => pair_of LRq_ok (r_atOdds a1 a2) id (fun _ => ⟨_, rfl⟩) (sx_atOdds a1 a2) (sm_atOdds a1 a2) (fun _ h => h) g n I J R h)
    (fun a1 a2 g n I J R h => pair_of LRq_ok (r_years a1 a2) id (fun _ => ⟨_, rfl⟩) (sx_years a1 a2) (sm_years a1 a2) (fun _ h => h) g n I J R h)
    (fun a1 g n I J R h => pair_of LRq_ok (r_peak a1) id (fun _ => ⟨_, rfl⟩) (sx_peak a1) (sm_peak a1) (fun _ h => h) g n I J R h)
    (fun a1 g n I J R h => pair_of LRq_ok (r_who a1) id (fun _ => ⟨_, rfl⟩) (sx_who a1) (sm_who a1) (fun _ h => h) g n I J R h)
    (fun a1 a2 g n I J R h => pair_of LRq_ok (r_jury a1 a2) (u_jury a1 a2) (fun _ => ⟨_, rfl⟩) (sx_jury a1 a2) (sm_jury a1 a2) (b_jury a1 a2) g n I J R h)
    (fun a1 a2 a3 g n I J R h => pair_of LRq_ok (r_tasters a1 a2 a3) (u_tasters a1 a2 a3) (fun _ => ⟨_, rfl⟩) (sx_tasters a1 a2 a3) (sm_tasters a1 a2 a3) (b_tasters a1 a2 a3) g n I J R h)
    (fun a1 a2 g n I J R h => pair_of LRq_ok (r_jugs a1 a2) (u_jugs a1 a2) (fun _ => ⟨_, rfl⟩) (sx_jugs a1 a2) (sm_jugs a1 a2) (b_jugs a1 a2) g n I J R h)
    (fun a1 a2 a3 g n I J R h => pair_of LRq_ok (r_cellar a1 a2 a3) (u_cellar a1 a2 a3) (fun _ => ⟨_, rfl⟩) (sx_cellar a1 a2 a3) (sm_cellar a1 a2 a3) (b_cellar a1 a2 a3) g n I J R h)
    (fun a1 a2 a3 g n I J R h => pair_of LRq_ok (r_wear a1 a2 a3) (u_wear a1 a2 a3) (fun _ => ⟨_, rfl⟩) (sx_wear a1 a2 a3) (sm_wear a1 a2 a3) (b_wear a1 a2 a3) g n I J R h)
    (fun a1 g n I J R h => pair_of LRq_ok (r_seed a1) (u_seed a1) (fun _ => ⟨_, rfl⟩) (sx_seed a1) (sm_seed a1) (b_seed a1) g n I J R h)
    (fun g n I J R h => pair_of LRq_ok (r_keep ) (u_keep) (fun _ => ⟨_, rfl⟩) (sx_keep ) (sm_keep ) b_keep g n I J R h)
    (fun g n I J R h => pair_of LRq_ok (r_undo ) (u_undo) (fun _ => ⟨_, rfl⟩) (sx_undo ) (sm_undo ) b_undo g n I J R h)
    (fun a1 g n I J R h => pair_of LRq_ok (r_check a1) (u_tp a1 0 12) (fun _ => ⟨_, rfl⟩) (sx_check a1) (sm_check a1) (b_tp a1 0 12) g n I J R h)
    (fun a1 g n I J R h => pair_count LRq_ok LRq_5 (fun z => ⟨z, rfl⟩) a1 g n I J R h)
theorem whole_start {p : Program} {e : Env} {s : State} {m : MethodId} {below : List Frame} {meth : Method} {c : Code} (l : Launch) (hflags : l.flags = flags0) {b L : Nat} {xs : Nat → Int32} (hL : L ≤ 3072) (C0 : lw_At p s m meth c b L xs) (hnm : meth.name = "law") : W p l e room_1 s m #[Value.ref b] below meth c s.heap [] 0 0 (lw_Z below #[Value.ref b] s) (entryFrame m ([Value.ref b] : List Value).toArray 4) := start_of law_ok l hL C0 hnm
set_option maxHeartbeats 4000000 in
theorem lw_walk (l : Launch) (hflags : l.flags = flags0) (b : Addr) (xs : List Int32) : MetFree l x (headSpec (Jvm.Cond.code x code maxLocals ret :: tables_1) room_1) (lw_P b xs) (fun _ _ _ _ _ => True) lw_Q := by
  refine MetFree.of_bodyS (code := code) (maxLocals := maxLocals) (ret := ret) (by decide) ?_ ?_
  · intro args s m h hn
    obtain ⟨meth, c, h1, h2, h3, h4, h5, h6, -, -⟩ := Cond.code_spec hn (atoms_spec (ws := Jvm.Cond.code x code maxLocals ret :: tables_1) h _ List.mem_cons_self)
    exact ⟨meth, c, h1, h2, h3, h4, h5, h6⟩
  · intro p e s m args below meth c s₁ B hml0 hP _
    obtain ⟨rfl, hx, hbd, hgv⟩ := hP
    obtain ⟨scr, harrAt, hlist, hof, hsmall⟩ := hx
    obtain ⟨hcb, hkn, -, -⟩ := State.arrayAt?_spec harrAt
    have hown : s.vm.findClass R_law = some m.cls := findClass_of_methodNamed B.named
    have hts0 : ∀ c ∈ (Jvm.Cond.code x code maxLocals ret :: tables_1), c.before #[Value.ref b] s = true := atoms_spec (ws := Jvm.Cond.code x code maxLocals ret :: tables_1) B.pre
    have hts : ∀ w ∈ lw_tbl, w.before #[Value.ref b] s = true := k2_hts_sels lw_privs (fun w hw => (List.mem_append.mp hw).elim (fun z => lw_sup_ok (fun v hv => hts0 v (List.mem_cons_of_mem _ hv)) w z) (fun z => hts0 w (List.mem_cons_of_mem _ z))) (fun q hq => ⟨(lw_privs_ok q hq).1, List.mem_append_right _ (lw_privs_ok q hq).2.1, List.mem_append_right _ (lw_privs_ok q hq).2.2.1, List.mem_append_right _ (lw_privs_ok q hq).2.2.2⟩)
    have hml : c.maxLocals = 4 := B.maxLocals_eq (hts0 _ List.mem_cons_self)
    have X₀ : Stand p l e room_1 s m #[Value.ref b] below meth c s₁ [] 0 0 := Stand.of_body B
    have hh0 : s₁.heap = s.heap := by rw [B.state]; rfl
    have hsz : scr.slots.size = xs.length := by rw [← Array.length_toList, hlist, List.length_map]
    have hval : ∀ j : Nat, j < xs.length → scr.slots[j]? = some (.int (xs.getD j 0)) := fun j hj => by
      rw [← Array.getElem?_toList, hlist]
      simp [hj]
    have hbl : b < s.heap.size := (Array.getElem?_eq_some_iff.mp hcb).1
    have hX : va_X b xs.length (fun j => xs.getD j 0) s s.heap := ⟨scr, hcb, hof, hkn, hsz, hval⟩
    have K : W p l e room_1 s m #[Value.ref b] below meth c s₁.heap [] 0 0 (lw_Z below #[Value.ref b] s) (entryFrame m ([Value.ref b] : List Value).toArray 4) := by
      rw [hh0]
      exact whole_start l hflags hbd ⟨B.exec, B.bytes, B.returns, hml, hown, hts, hX, hbl, B.notSynchronized, hgv⟩ (name_of_methodNamed B.named B.method).1
    obtain ⟨t, a1, o, b1, b2, b3⟩ := K s₁ rfl X₀
    exact ⟨t, o, a1, b1, b2, b3⟩
theorem lw_pre_spec {args : Array Value} {s : State} (h : (Jvm.Cond.and given_1 narrow_1).before args s = true) (hr : rest_1_c.before args s = true) : ∃ (b : Addr) (xs : List Int32), lw_P b xs args s := by
  have hs := flat_of_before _ h
  have hq := flat_of_before _ hr
  have hc : (Cond.count 1).before args s = true := hs _ (by decide +kernel)
  have harr : (Cond.arrayOf (.arg 0) .int).before args s = true := hs _ (by decide +kernel)
  have hle : (Cond.le (.length (.arg 0)) (.int 3072)).before args s = true := hs _ (by decide +kernel)
  have hlen : (Cond.isInt (.length (.arg 0))).before args s = true := hq _ (by decide +kernel)
  have hall : (Cond.all (.arg 0) (.isInt (.elem (.arg 0) (.index 0)))).before args s = true := hq _ (by decide +kernel)
  obtain ⟨b, xs, hb, hx⟩ := State.ints_of_pre rfl harr hlen hall
  have hsm : xs.length < 2 ^ 31 := hx.choose_spec.2.2.2
  have hev : (Term.length (.arg 0)).eval args s none [] s = some (.int xs.length.toInt32) := hx.length_eval hb
  have hv := Cond.le_ints hev (show (Term.int 3072).eval args s none [] s = some (.int 3072) from rfl)
  have hd : xs.length.toInt32 ≤ 3072 := by
    simpa [Cond.before, Cond.holds, hv] using hle
  have hN : xs.length ≤ 3072 := (Int32.ofNat_le_ofNat hsm (by decide)).mp (show Int32.ofNat xs.length ≤ Int32.ofNat 3072 from hd)
  exact ⟨b, xs, Cond.one_arg hc (show args[0]? = some (.ref b) from hb), hx, hN, h⟩
theorem lw_comes (l : Launch) (hflags : l.flags = flags0) : Comes l x (Jvm.Cond.code x code maxLocals ret :: tables_1) room_1 (fun tb e args s => Calls_1 tb e args s ∧ rest_1 tb e args s ∧ Pre_1 tb e args s)
    (fun _ _ args s o t => lw_Q args s o t) := by
  intro p e ha hc hk s m args below hf hfit hheap happ hpre
  obtain ⟨b, xs, hP⟩ := lw_pre_spec hpre.2.2 hpre.2.1
  obtain ⟨k, o, h1, h2, h3, hQ⟩ := lw_walk l hflags b xs p e ha hc hk s m args below hf ((Spec.applies_iff_loose hf).mp happ).1 hP trivial
  exact ⟨k, o, h1, h2, h3, hQ⟩
theorem lw_frame {s t : State} {o : Outcome} {args : Array Value} (h : Framed s o t [] 600000 7302250) :
    Framed s o t (fieldLocs frame_1_writes args s ++ arrayLocs frame_1_arrays args s ++ staticLocs frame_1_statics s) 600000 7302250 := h
theorem lw_limb (L : Cond) (hL : ∀ (args : Array Value) (s t : State), L.after args s (.returned (some (.int 1))) t = true) :
    ArmFor flags0 classFile x code maxLocals ret World_1 tables_1 room_1 Calls_1 rest_1 Pre_1
      (fun tb e a s o t => postC L tb e a s o t ∧ Framed s o t (fieldLocs frame_1_writes a s ++ arrayLocs frame_1_arrays a s ++ staticLocs frame_1_statics s) 600000 7302250) := by
  intro l hflags _ _ p e ha hc hk s m args below hf hfit hheap happ hpre
  obtain ⟨k, o, h1, h2, h3, rfl, hF⟩ := lw_comes l hflags p e ha hc hk s m args below hf hfit hheap happ hpre
  exact ⟨k, _, h1, h2, h3, hL args s _, lw_frame hF⟩
theorem i_vc : Claimed_1_1 ∧ Claimed_1_2 := ⟨lw_limb limb_1_1 (fun args s t => by simp [limb_1_1, Cond.after, Cond.holds, Cond.value]), lw_limb limb_1_2 (fun args s t => Cond.after_iff.mpr (by
  first | (rw [show limb_1_2 = Cond.eq .result (.int 1) from rfl, Cond.eq_ints (x := 1) (y := 1) rfl rfl]; simp; done) | (simp [limb_1_2, Cond.value, Term.eval]; done)))⟩
