/-! ===== plan: the deeds of one state ===== -/
def FS (I I' : IM) : Prop := ∀ x, x ≠ 9 → x ≠ 10 → x ≠ 22 → x ≠ 23 → x ≠ 37 → x ≠ 38 → x ≠ 152 → I' x = I x
theorem FS.refl (I : IM) : FS I I := fun _ _ _ _ _ _ _ _ => rfl
theorem FS.trans {I I' I2 : IM} (h : FS I I') (h2 : FS I' I2) : FS I I2 := fun x a b c d e f g => (h2 x a b c d e f g).trans (h x a b c d e f g)
theorem FS.ofB {I I' : IM} (h : BFc I I') : FS I I' := fun x a b c d _ _ _ => h.1 x a b c d
theorem FS.ofP {I I' : IM} (h : FP I I') : FS I I' := fun x _ _ _ _ e f g => h x e f g
theorem XP.keep {b : BS} {I I' : IM} (h : XP b I) (h1 : I' 37 2 = I 37 2) (h2 : I' 38 = I 38) (h3 : I' 152 = I 152) : XP b I' := ⟨h1.trans h.1, fun i hi => by rw [h3]; exact h.2.1 i hi, fun s hs => by rw [h2]; exact h.2.2 s hs⟩
theorem BXc.keepP {k LN : Nat} {Y S : FN} {q : LWD} {I I' : IM} {R : RM} (hk : k < 12) (h : BXc k LN Y S q I R) (f : FP I I') : BXc k LN Y S q I' R := ⟨h.1, h.2.1, (congrFun (f 22 (by decide) (by decide) (by decide)) 3).trans h.2.2.1, (congrFun (f (54 + 5 * k) (by omega) (by omega) (by omega)) 4).trans h.2.2.2.1, fun i hi => by rw [f (55 + 5 * k) (by omega) (by omega) (by omega), f (56 + 5 * k) (by omega) (by omega) (by omega)]; exact h.2.2.2.2.1 i hi, h.2.2.2.2.2.keep (fun a a1 a2 => f a (by omega) (by omega) (by omega))⟩
theorem pk_7 {D D2 : FN} (h : ∀ j, j ≠ 7 → D2 j = D j) : pkD D2 = pkD D := by
  unfold pkD
  rw [h 0 (by decide), h 1 (by decide), h 2 (by decide), h 3 (by decide), h 4 (by decide)]
theorem pk_shr3 {s f : Nat} (h : s < 49500) (hf : f < 8) : nI (8 * s + f) >>> (nI 3 &&& 31) = nI s := (pk_shrN (by omega) _ 3 (by decide)).trans (congrArg nI (by omega))
theorem pk_and3 {s f : Nat} (h : s < 49500) (hf : f < 8) : nI (8 * s + f) &&& nI 7 = nI f := (pk_andN (show 8 * s + f < 2 ^ 32 by omega) 3 (by decide)).trans (congrArg nI (by omega))
section PSpread
variable {g : GL} {d n : Nat} {J : JM} {R : RM} {Q : PQ} {k LN h T s f l : Nat} {Y S : FN} {q : LWD} {b : BS}
set_option maxRecDepth 100000 in
set_option maxHeartbeats 2000000 in
theorem x_spreadL (hn3 : n = 153) (hR : RS R) (hw : R 37 1 = some 152) (hk : k < 12) (hq : LWF q) (hLN : LN ≤ 24) (hT : T ≤ 24) (hW : WP (vP LN) 49500 b) (hh : h < b.1) (hs0 : b.2.1 h = s) (hf0 : fsP b h = f) (hl0 : lvP b h = l) (hl : l < 20) : ∀ (e dd : Nat) (I : IM), dd + e = 6 → (spP (nxP q k LN Y S) (ouP q k LN Y S T) (brP q k LN Y S) b h dd).2 = 0 → XP (spP (nxP q k LN Y S) (ouP q k LN Y S T) (brP q k LN Y S) b h dd).1 I → BXc k LN Y S q I R → (∃ c7, I 22 6 = nI c7) → (∀ I2 : IM, FS I I2 → XP (spP (nxP q k LN Y S) (ouP q k LN Y S T) (brP q k LN Y S) b h 6).1 I2 → BXc k LN Y S q I2 R → (∃ c7, I2 22 6 = nI c7) → (¬ (spP (nxP q k LN Y S) (ouP q k LN Y S T) (brP q k LN Y S) b h 6).2 = 0 → I2 37 4 = nI (((spP (nxP q k LN Y S) (ouP q k LN Y S T) (brP q k LN Y S) b h 6).2 - 1) % 8)) → Q (some (.int (nI (if (spP (nxP q k LN Y S) (ouP q k LN Y S T) (brP q k LN Y S) b h 6).2 = 0 then 0 else 1)))) n I2 J R) → E g mX6_spread (d + 6) 0 0 9 [.ref 37, .ref 22, .int (nI (8 * s + f)), .int (nI (l + 1)), .int (nI T), .ref 23, .int (nI dd), jk] [] n I J R Q := by
  have hN : 153 ≤ n := by omega
  have hv : vP LN s := by rw [← hs0]; exact (hW.1 h hh).1
  have hs : s < 49500 := hv.1
  have hf : f < 8 := by rw [← hf0]; exact Nat.mod_lt _ (by decide)
  intro e
  induction e with
  | zero =>
    intro dd I hde h0 hP hX hc hQ
    have hd6 : dd = 6 := by omega
    subst hd6
    rw [if_pos h0] at hQ
    refine E_iload dX6_spread_9 rfl ?_
    refine E_bp (nI 6) dX6_spread_11 (by decide) ?_
    refine E_cN_ge (a := 6) (b := 6) (tgt := 97) dX6_spread_13 (by decide) (by decide) (by decide) (fun cw13 => ?_) (fun cw13 => absurd cw13 (by omega))
    refine E_ic (nI 0) dX6_spread_97 (by decide) ?_
    exact E_zret dX6_spread_98 rfl (by decide) (hQ I (FS.refl I) hP hX hc (fun z => absurd h0 z))
  | succ e ih =>
    intro dd I hde h0 hP hX hc hQ
    obtain ⟨c7, hc7⟩ := hc
    obtain ⟨D1, hD1⟩ : ∃ D1, nxD q k LN Y S s dd = D1 := ⟨_, rfl⟩
    have e7 : ∀ j, j ≠ 7 → ddS q k LN Y S dd 0 0 (up1 (unD s) 7 c7) j = D1 j := fun j hj => (dd_7 (fun i hi => up1_n hi) j hj).trans (congrFun hD1 j)
    have oD1 : okD LN D1 := by rw [← hD1]; exact ddS_ok (unD_ok hv)
    obtain ⟨o0, o1, o2, o3, o4, o5, o6, o7, o8, o9⟩ := id oD1
    obtain ⟨fd, hfd⟩ : ∃ fd, fdP l f dd = fd := ⟨_, rfl⟩
    have hfd8 : fd < 8 := by rw [← hfd]; exact fd_lt hf (by omega)
    have hWd := (spP_ok (nx := nxP q k LN Y S) (ou := ouP q k LN Y S T) (br := brP q k LN Y S) hW hh (fun _ z => z.1) (nx_ok hLN) dd (by omega)).1
    have ho1 : T < D1 3 → ouP q k LN Y S T (b.2.1 h) dd = true := fun z => by rw [hs0]; exact decide_eq_true (by show T < nxD q k LN Y S s dd 3; rw [hD1]; exact z)
    have ho0 : ¬ T < D1 3 → ¬ ouP q k LN Y S T (b.2.1 h) dd = true := fun z w => z (by rw [hs0] at w; have w2 : T < nxD q k LN Y S s dd 3 := of_decide_eq_true w; rw [hD1] at w2; exact w2)
    have hb1 : ¬ D1 5 = 0 → brP q k LN Y S (b.2.1 h) dd = true := fun z => by rw [hs0]; exact decide_eq_true (by show ¬ nxD q k LN Y S s dd 5 = 0; rw [hD1]; exact z)
    have hb0 : D1 5 = 0 → ¬ brP q k LN Y S (b.2.1 h) dd = true := fun z w => by rw [hs0] at w; have w2 : ¬ nxD q k LN Y S s dd 5 = 0 := of_decide_eq_true w; rw [hD1] at w2; exact w2 z
    by_cases lz : l = 0
    · have hfe : dd = fd := by rw [← hfd]; exact (if_pos lz).symm
      by_cases co : T < D1 3
      · skip
        refine E_iload dX6_spread_9 rfl ?_
        refine E_bp (nI 6) dX6_spread_11 (by decide) ?_
        refine E_cN_ge (a := dd) (b := 6) (tgt := 97) dX6_spread_13 (by omega) (by decide) (by decide) (fun cw13 => absurd cw13 (by omega)) (fun cw13 => ?_)
        refine E_iload_n dX6_spread_16 rfl ?_
        refine E_ic (nI 3) dX6_spread_17 (by decide) ?_
        refine E_ishr dX6_spread_18 ?_
        refine E.top (pk_shr3 hs hf) ?_
        refine E_aload dX6_spread_19 rfl ?_
        refine E_callS (As := [_, _]) (kc' := 0) (ks' := 0) (kc := 0) (ks := 0) dX6_spread_21 ok_X6_unpack w_X6_59 st_X6_unpack rfl rfl rfl (Nat.le_of_ble_eq_true rfl) (Nat.le_of_ble_eq_true rfl) (Nat.le_refl _) (x_unpack (s := s) (Nat.le_of_succ_le hN) hs (fun I2 f2 u2 => ?_))
        refine E_aload_n dX6_spread_24 rfl ?_
        refine E_bp (nI 99) dX6_spread_25 (by decide) ?_
        refine E_putI dX6_spread_27 f_X6_63 rfl (Nat.lt_of_lt_of_le (by decide) hN) rfl ?_
        refine E_aload_n dX6_spread_30 rfl ?_
        refine E_iload dX6_spread_31 rfl ?_
        refine E_ic (nI 0) dX6_spread_33 (by decide) ?_
        refine E_ic (nI 0) dX6_spread_34 (by decide) ?_
        refine E_callV (As := [_, _, _]) (ci := 0) (kc' := 0) (ks' := 0) (kc := 0) (ks := 0) dX6_spread_35 ok_X0_perform w_X6_66 i_X0_perform s_X0_perform rfl (by decide) rfl (Nat.lt_of_lt_of_le (by decide) hN) rfl rfl rfl (Nat.le_of_ble_eq_true rfl) (Nat.le_of_ble_eq_true rfl) (Nat.le_refl _) (x_perform (d := d) (dd := dd) (i := 0) (w := 0) (D := up1 (unD s) 7 c7) (by omega) (Nat.le_of_succ_le hN) hR hk hq hLN (hX.keep ((BFc.row f2 (by decide)).trans (BFc.up I2 (nI 99) (by decide)))) (unD_ok hv) ⟨up2_s _ _ _ _, (up2_k _ _ (by decide)).trans ((congrFun (f2 22 (by decide)) 6).trans hc7), fun j hj => (congrFun (up2_o I2 22 4 _ 23 (by decide)) j).trans ((u2 j hj).trans (congrArg nI (up1_n (show j ≠ 7 by omega)).symm))⟩ (fun I3 f3 d3 => ?_))
        refine E_iload_n dX6_spread_38 rfl ?_
        refine E_ic (nI 1) dX6_spread_39 (by decide) ?_
        refine E_cN_ne (a := l + 1) (b := 1) (tgt := 48) dX6_spread_40 (by omega) (by decide) (by decide) (fun cw40 => absurd cw40 (by omega)) (fun cw40 => ?_)
        refine E_iload dX6_spread_43 rfl ?_
        refine E_goto (tgt := 52) dX6_spread_45 (by decide) ?_
        refine E.top (show nI dd = nI fd from congrArg nI hfe) ?_
        refine E_istore dX6_spread_52 (Nat.le_of_ble_eq_true rfl) ?_
        refine E_aload dX6_spread_54 rfl ?_
        refine E_getI dX6_spread_56 f_X6_70 rfl (Nat.lt_of_lt_of_le (by decide) hN) rfl ?_
        refine E.top ((d3.2.2 3 (by decide)).trans (congrArg nI (e7 3 (by decide)))) ?_
        refine E_iload dX6_spread_59 rfl ?_
        refine E_cN_le (a := D1 3) (b := T) (tgt := 72) dX6_spread_61 (by omega) (by omega) (by decide) (fun cw61 => absurd cw61 (by omega)) (fun cw61 => ?_)
        refine E_aload_n dX6_spread_64 rfl ?_
        refine E_iload dX6_spread_65 rfl ?_
        refine E_putI dX6_spread_67 f_X6_25 rfl (Nat.lt_of_lt_of_le (by decide) hN) rfl ?_
        refine E_ic (nI 1) dX6_spread_70 (by decide) ?_
        exact E_zret dX6_spread_71 rfl (by decide) (by
          have e1 : spP (nxP q k LN Y S) (ouP q k LN Y S T) (brP q k LN Y S) b h (dd + 1) = ((spP (nxP q k LN Y S) (ouP q k LN Y S T) (brP q k LN Y S) b h dd).1, mkP (l + 1) fd) := (spP_o h0 (ho1 (by omega))).trans (by rw [hl0, hf0, hfd])
          have e6 : spP (nxP q k LN Y S) (ouP q k LN Y S T) (brP q k LN Y S) b h 6 = ((spP (nxP q k LN Y S) (ouP q k LN Y S T) (brP q k LN Y S) b h dd).1, mkP (l + 1) fd) := by
            rw [show 6 = dd + 1 + e by omega, spP_stay (by rw [e1]; unfold mkP; omega) e, e1]
          rw [e6] at hQ
          have nz : ¬ mkP (l + 1) fd = 0 := by unfold mkP; omega
          rw [if_neg nz] at hQ
          exact hQ _ ((FS.ofB (((BFc.row f2 (by decide)).trans (BFc.up I2 (nI 99) (by decide))).trans f3)).trans (fun x _ _ _ _ z _ _ => up2_o I3 37 4 _ x z)) ((hP.keep (congrFun ((((BFc.row f2 (by decide)).trans (BFc.up I2 (nI 99) (by decide))).trans f3).1 37 (by decide) (by decide) (by decide) (by decide)) 2) ((((BFc.row f2 (by decide)).trans (BFc.up I2 (nI 99) (by decide))).trans f3).1 38 (by decide) (by decide) (by decide) (by decide)) ((((BFc.row f2 (by decide)).trans (BFc.up I2 (nI 99) (by decide))).trans f3).1 152 (by decide) (by decide) (by decide) (by decide))).keep (up2_k _ _ (by decide)) (up2_o _ 37 _ _ 38 (by decide)) (up2_o _ 37 _ _ 152 (by decide))) ((hX.keep (((BFc.row f2 (by decide)).trans (BFc.up I2 (nI 99) (by decide))).trans f3)).keepP hk (fun x z _ _ => up2_o I3 37 4 _ x z)) ⟨_, (congrFun (up2_o _ 37 _ _ 22 (by decide)) 6).trans d3.2.1⟩ (fun _ => (up2_s _ _ _ _).trans (congrArg nI (by unfold mkP; omega))))
      · by_cases cb : D1 5 = 0
        · skip
          refine E_iload dX6_spread_9 rfl ?_
          refine E_bp (nI 6) dX6_spread_11 (by decide) ?_
          refine E_cN_ge (a := dd) (b := 6) (tgt := 97) dX6_spread_13 (by omega) (by decide) (by decide) (fun cw13 => absurd cw13 (by omega)) (fun cw13 => ?_)
          refine E_iload_n dX6_spread_16 rfl ?_
          refine E_ic (nI 3) dX6_spread_17 (by decide) ?_
          refine E_ishr dX6_spread_18 ?_
          refine E.top (pk_shr3 hs hf) ?_
          refine E_aload dX6_spread_19 rfl ?_
          refine E_callS (As := [_, _]) (kc' := 0) (ks' := 0) (kc := 0) (ks := 0) dX6_spread_21 ok_X6_unpack w_X6_59 st_X6_unpack rfl rfl rfl (Nat.le_of_ble_eq_true rfl) (Nat.le_of_ble_eq_true rfl) (Nat.le_refl _) (x_unpack (s := s) (Nat.le_of_succ_le hN) hs (fun I2 f2 u2 => ?_))
          refine E_aload_n dX6_spread_24 rfl ?_
          refine E_bp (nI 99) dX6_spread_25 (by decide) ?_
          refine E_putI dX6_spread_27 f_X6_63 rfl (Nat.lt_of_lt_of_le (by decide) hN) rfl ?_
          refine E_aload_n dX6_spread_30 rfl ?_
          refine E_iload dX6_spread_31 rfl ?_
          refine E_ic (nI 0) dX6_spread_33 (by decide) ?_
          refine E_ic (nI 0) dX6_spread_34 (by decide) ?_
          refine E_callV (As := [_, _, _]) (ci := 0) (kc' := 0) (ks' := 0) (kc := 0) (ks := 0) dX6_spread_35 ok_X0_perform w_X6_66 i_X0_perform s_X0_perform rfl (by decide) rfl (Nat.lt_of_lt_of_le (by decide) hN) rfl rfl rfl (Nat.le_of_ble_eq_true rfl) (Nat.le_of_ble_eq_true rfl) (Nat.le_refl _) (x_perform (d := d) (dd := dd) (i := 0) (w := 0) (D := up1 (unD s) 7 c7) (by omega) (Nat.le_of_succ_le hN) hR hk hq hLN (hX.keep ((BFc.row f2 (by decide)).trans (BFc.up I2 (nI 99) (by decide)))) (unD_ok hv) ⟨up2_s _ _ _ _, (up2_k _ _ (by decide)).trans ((congrFun (f2 22 (by decide)) 6).trans hc7), fun j hj => (congrFun (up2_o I2 22 4 _ 23 (by decide)) j).trans ((u2 j hj).trans (congrArg nI (up1_n (show j ≠ 7 by omega)).symm))⟩ (fun I3 f3 d3 => ?_))
          refine E_iload_n dX6_spread_38 rfl ?_
          refine E_ic (nI 1) dX6_spread_39 (by decide) ?_
          refine E_cN_ne (a := l + 1) (b := 1) (tgt := 48) dX6_spread_40 (by omega) (by decide) (by decide) (fun cw40 => absurd cw40 (by omega)) (fun cw40 => ?_)
          refine E_iload dX6_spread_43 rfl ?_
          refine E_goto (tgt := 52) dX6_spread_45 (by decide) ?_
          refine E.top (show nI dd = nI fd from congrArg nI hfe) ?_
          refine E_istore dX6_spread_52 (Nat.le_of_ble_eq_true rfl) ?_
          refine E_aload dX6_spread_54 rfl ?_
          refine E_getI dX6_spread_56 f_X6_70 rfl (Nat.lt_of_lt_of_le (by decide) hN) rfl ?_
          refine E.top ((d3.2.2 3 (by decide)).trans (congrArg nI (e7 3 (by decide)))) ?_
          refine E_iload dX6_spread_59 rfl ?_
          refine E_cN_le (a := D1 3) (b := T) (tgt := 72) dX6_spread_61 (by omega) (by omega) (by decide) (fun cw61 => ?_) (fun cw61 => absurd cw61 (by omega))
          refine E_aload dX6_spread_72 rfl ?_
          refine E_getI dX6_spread_74 f_X6_75 rfl (Nat.lt_of_lt_of_le (by decide) hN) rfl ?_
          refine E.top ((d3.2.2 5 (by decide)).trans (congrArg nI (e7 5 (by decide)))) ?_
          refine E_zN_ne (a := D1 5) (tgt := 91) dX6_spread_77 (by omega) (by decide) (fun cw77 => absurd cw77 (by omega)) (fun cw77 => ?_)
          refine E_aload_n dX6_spread_80 rfl ?_
          refine E_aload dX6_spread_81 rfl ?_
          refine E_callS (As := [_]) (kc' := 0) (ks' := 0) (kc := 0) (ks := 0) dX6_spread_83 ok_X6_packed w_X6_41 st_X6_packed rfl rfl rfl (Nat.le_of_ble_eq_true rfl) (Nat.le_of_ble_eq_true rfl) (Nat.le_refl _) (x_packed (LN := LN) (D := ddS q k LN Y S dd 0 0 (up1 (unD s) 7 c7)) (Nat.le_of_succ_le hN) hLN (ddS_ok (unD_ok hv)) ((e7 5 (by decide)).trans (by omega)) d3 ?_)
          refine E.top (congrArg nI (pk_7 e7)) ?_
          refine E_iload dX6_spread_86 rfl ?_
          refine E_callV (As := [_, _]) (ci := 5) (kc' := 0) (ks' := 0) (kc := 0) (ks := 0) dX6_spread_88 ok_X6_note w_X6_45 i_X6_note s_X6_note rfl (by decide) rfl (Nat.lt_of_lt_of_le (by decide) hN) rfl rfl rfl (Nat.le_of_ble_eq_true rfl) (Nat.le_of_ble_eq_true rfl) (Nat.le_refl _) (x_note (V := vP LN) (b := (spP (nxP q k LN Y S) (ouP q k LN Y S T) (brP q k LN Y S) b h dd).1) (s := pkD D1) (f := fd) (v := mkP (l + 1) fd) hn3 hR hw hWd (hP.keep (congrFun ((((BFc.row f2 (by decide)).trans (BFc.up I2 (nI 99) (by decide))).trans f3).1 37 (by decide) (by decide) (by decide) (by decide)) 2) ((((BFc.row f2 (by decide)).trans (BFc.up I2 (nI 99) (by decide))).trans f3).1 38 (by decide) (by decide) (by decide) (by decide)) ((((BFc.row f2 (by decide)).trans (BFc.up I2 (nI 99) (by decide))).trans f3).1 152 (by decide) (by decide) (by decide) (by decide))) (pk_vP hLN oD1 (by omega)).1 (by unfold mkP; omega) (by unfold mkP; omega) (fun I4 f4 p4 g4 => ?_))
          refine E_incN dX6_spread_91 rfl ?_
          refine E_goto (tgt := 9) dX6_spread_94 (by decide) ?_
          have e1 : spP (nxP q k LN Y S) (ouP q k LN Y S T) (brP q k LN Y S) b h (dd + 1) = (nt (spP (nxP q k LN Y S) (ouP q k LN Y S T) (brP q k LN Y S) b h dd).1 (pkD D1) (mkP (l + 1) fd), 0) := (spP_n h0 (ho0 (by omega)) (hb0 (by omega))).trans (by rw [hl0, hf0, hs0, hfd, show nxP q k LN Y S s dd = pkD D1 from congrArg pkD hD1])
          refine E.mask [true, true, true, true, true, true, true, false] ?_
          exact ih (dd + 1) I4 (by omega) (by rw [e1]) (by rw [e1]; exact p4) ((hX.keep (((BFc.row f2 (by decide)).trans (BFc.up I2 (nI 99) (by decide))).trans f3)).keepP hk f4) ⟨_, (congrFun (f4 22 (by decide) (by decide) (by decide)) 6).trans d3.2.1⟩ (fun I5 f5 => hQ I5 (((FS.ofB (((BFc.row f2 (by decide)).trans (BFc.up I2 (nI 99) (by decide))).trans f3)).trans (FS.ofP f4)).trans f5))
        · skip
          refine E_iload dX6_spread_9 rfl ?_
          refine E_bp (nI 6) dX6_spread_11 (by decide) ?_
          refine E_cN_ge (a := dd) (b := 6) (tgt := 97) dX6_spread_13 (by omega) (by decide) (by decide) (fun cw13 => absurd cw13 (by omega)) (fun cw13 => ?_)
          refine E_iload_n dX6_spread_16 rfl ?_
          refine E_ic (nI 3) dX6_spread_17 (by decide) ?_
          refine E_ishr dX6_spread_18 ?_
          refine E.top (pk_shr3 hs hf) ?_
          refine E_aload dX6_spread_19 rfl ?_
          refine E_callS (As := [_, _]) (kc' := 0) (ks' := 0) (kc := 0) (ks := 0) dX6_spread_21 ok_X6_unpack w_X6_59 st_X6_unpack rfl rfl rfl (Nat.le_of_ble_eq_true rfl) (Nat.le_of_ble_eq_true rfl) (Nat.le_refl _) (x_unpack (s := s) (Nat.le_of_succ_le hN) hs (fun I2 f2 u2 => ?_))
          refine E_aload_n dX6_spread_24 rfl ?_
          refine E_bp (nI 99) dX6_spread_25 (by decide) ?_
          refine E_putI dX6_spread_27 f_X6_63 rfl (Nat.lt_of_lt_of_le (by decide) hN) rfl ?_
          refine E_aload_n dX6_spread_30 rfl ?_
          refine E_iload dX6_spread_31 rfl ?_
          refine E_ic (nI 0) dX6_spread_33 (by decide) ?_
          refine E_ic (nI 0) dX6_spread_34 (by decide) ?_
          refine E_callV (As := [_, _, _]) (ci := 0) (kc' := 0) (ks' := 0) (kc := 0) (ks := 0) dX6_spread_35 ok_X0_perform w_X6_66 i_X0_perform s_X0_perform rfl (by decide) rfl (Nat.lt_of_lt_of_le (by decide) hN) rfl rfl rfl (Nat.le_of_ble_eq_true rfl) (Nat.le_of_ble_eq_true rfl) (Nat.le_refl _) (x_perform (d := d) (dd := dd) (i := 0) (w := 0) (D := up1 (unD s) 7 c7) (by omega) (Nat.le_of_succ_le hN) hR hk hq hLN (hX.keep ((BFc.row f2 (by decide)).trans (BFc.up I2 (nI 99) (by decide)))) (unD_ok hv) ⟨up2_s _ _ _ _, (up2_k _ _ (by decide)).trans ((congrFun (f2 22 (by decide)) 6).trans hc7), fun j hj => (congrFun (up2_o I2 22 4 _ 23 (by decide)) j).trans ((u2 j hj).trans (congrArg nI (up1_n (show j ≠ 7 by omega)).symm))⟩ (fun I3 f3 d3 => ?_))
          refine E_iload_n dX6_spread_38 rfl ?_
          refine E_ic (nI 1) dX6_spread_39 (by decide) ?_
          refine E_cN_ne (a := l + 1) (b := 1) (tgt := 48) dX6_spread_40 (by omega) (by decide) (by decide) (fun cw40 => absurd cw40 (by omega)) (fun cw40 => ?_)
          refine E_iload dX6_spread_43 rfl ?_
          refine E_goto (tgt := 52) dX6_spread_45 (by decide) ?_
          refine E.top (show nI dd = nI fd from congrArg nI hfe) ?_
          refine E_istore dX6_spread_52 (Nat.le_of_ble_eq_true rfl) ?_
          refine E_aload dX6_spread_54 rfl ?_
          refine E_getI dX6_spread_56 f_X6_70 rfl (Nat.lt_of_lt_of_le (by decide) hN) rfl ?_
          refine E.top ((d3.2.2 3 (by decide)).trans (congrArg nI (e7 3 (by decide)))) ?_
          refine E_iload dX6_spread_59 rfl ?_
          refine E_cN_le (a := D1 3) (b := T) (tgt := 72) dX6_spread_61 (by omega) (by omega) (by decide) (fun cw61 => ?_) (fun cw61 => absurd cw61 (by omega))
          refine E_aload dX6_spread_72 rfl ?_
          refine E_getI dX6_spread_74 f_X6_75 rfl (Nat.lt_of_lt_of_le (by decide) hN) rfl ?_
          refine E.top ((d3.2.2 5 (by decide)).trans (congrArg nI (e7 5 (by decide)))) ?_
          refine E_zN_ne (a := D1 5) (tgt := 91) dX6_spread_77 (by omega) (by decide) (fun cw77 => ?_) (fun cw77 => absurd cw77 (by omega))
          refine E_incN dX6_spread_91 rfl ?_
          refine E_goto (tgt := 9) dX6_spread_94 (by decide) ?_
          have e1 : spP (nxP q k LN Y S) (ouP q k LN Y S T) (brP q k LN Y S) b h (dd + 1) = ((spP (nxP q k LN Y S) (ouP q k LN Y S T) (brP q k LN Y S) b h dd).1, 0) := spP_b h0 (ho0 (by omega)) (hb1 (by omega))
          refine E.mask [true, true, true, true, true, true, true, false] ?_
          exact ih (dd + 1) I3 (by omega) (by rw [e1]) (by rw [e1]; exact (hP.keep (congrFun ((((BFc.row f2 (by decide)).trans (BFc.up I2 (nI 99) (by decide))).trans f3).1 37 (by decide) (by decide) (by decide) (by decide)) 2) ((((BFc.row f2 (by decide)).trans (BFc.up I2 (nI 99) (by decide))).trans f3).1 38 (by decide) (by decide) (by decide) (by decide)) ((((BFc.row f2 (by decide)).trans (BFc.up I2 (nI 99) (by decide))).trans f3).1 152 (by decide) (by decide) (by decide) (by decide)))) (hX.keep (((BFc.row f2 (by decide)).trans (BFc.up I2 (nI 99) (by decide))).trans f3)) ⟨_, d3.2.1⟩ (fun I5 f5 => hQ I5 ((FS.ofB (((BFc.row f2 (by decide)).trans (BFc.up I2 (nI 99) (by decide))).trans f3)).trans f5))
    · have hfe : f = fd := by rw [← hfd]; exact (if_neg lz).symm
      by_cases co : T < D1 3
      · skip
        refine E_iload dX6_spread_9 rfl ?_
        refine E_bp (nI 6) dX6_spread_11 (by decide) ?_
        refine E_cN_ge (a := dd) (b := 6) (tgt := 97) dX6_spread_13 (by omega) (by decide) (by decide) (fun cw13 => absurd cw13 (by omega)) (fun cw13 => ?_)
        refine E_iload_n dX6_spread_16 rfl ?_
        refine E_ic (nI 3) dX6_spread_17 (by decide) ?_
        refine E_ishr dX6_spread_18 ?_
        refine E.top (pk_shr3 hs hf) ?_
        refine E_aload dX6_spread_19 rfl ?_
        refine E_callS (As := [_, _]) (kc' := 0) (ks' := 0) (kc := 0) (ks := 0) dX6_spread_21 ok_X6_unpack w_X6_59 st_X6_unpack rfl rfl rfl (Nat.le_of_ble_eq_true rfl) (Nat.le_of_ble_eq_true rfl) (Nat.le_refl _) (x_unpack (s := s) (Nat.le_of_succ_le hN) hs (fun I2 f2 u2 => ?_))
        refine E_aload_n dX6_spread_24 rfl ?_
        refine E_bp (nI 99) dX6_spread_25 (by decide) ?_
        refine E_putI dX6_spread_27 f_X6_63 rfl (Nat.lt_of_lt_of_le (by decide) hN) rfl ?_
        refine E_aload_n dX6_spread_30 rfl ?_
        refine E_iload dX6_spread_31 rfl ?_
        refine E_ic (nI 0) dX6_spread_33 (by decide) ?_
        refine E_ic (nI 0) dX6_spread_34 (by decide) ?_
        refine E_callV (As := [_, _, _]) (ci := 0) (kc' := 0) (ks' := 0) (kc := 0) (ks := 0) dX6_spread_35 ok_X0_perform w_X6_66 i_X0_perform s_X0_perform rfl (by decide) rfl (Nat.lt_of_lt_of_le (by decide) hN) rfl rfl rfl (Nat.le_of_ble_eq_true rfl) (Nat.le_of_ble_eq_true rfl) (Nat.le_refl _) (x_perform (d := d) (dd := dd) (i := 0) (w := 0) (D := up1 (unD s) 7 c7) (by omega) (Nat.le_of_succ_le hN) hR hk hq hLN (hX.keep ((BFc.row f2 (by decide)).trans (BFc.up I2 (nI 99) (by decide)))) (unD_ok hv) ⟨up2_s _ _ _ _, (up2_k _ _ (by decide)).trans ((congrFun (f2 22 (by decide)) 6).trans hc7), fun j hj => (congrFun (up2_o I2 22 4 _ 23 (by decide)) j).trans ((u2 j hj).trans (congrArg nI (up1_n (show j ≠ 7 by omega)).symm))⟩ (fun I3 f3 d3 => ?_))
        refine E_iload_n dX6_spread_38 rfl ?_
        refine E_ic (nI 1) dX6_spread_39 (by decide) ?_
        refine E_cN_ne (a := l + 1) (b := 1) (tgt := 48) dX6_spread_40 (by omega) (by decide) (by decide) (fun cw40 => ?_) (fun cw40 => absurd cw40 (by omega))
        refine E_iload_n dX6_spread_48 rfl ?_
        refine E_bp (nI 7) dX6_spread_49 (by decide) ?_
        refine E_iand dX6_spread_51 ?_
        refine E.top (pk_and3 hs hf) ?_
        refine E.top (show nI f = nI fd from congrArg nI hfe) ?_
        refine E_istore dX6_spread_52 (Nat.le_of_ble_eq_true rfl) ?_
        refine E_aload dX6_spread_54 rfl ?_
        refine E_getI dX6_spread_56 f_X6_70 rfl (Nat.lt_of_lt_of_le (by decide) hN) rfl ?_
        refine E.top ((d3.2.2 3 (by decide)).trans (congrArg nI (e7 3 (by decide)))) ?_
        refine E_iload dX6_spread_59 rfl ?_
        refine E_cN_le (a := D1 3) (b := T) (tgt := 72) dX6_spread_61 (by omega) (by omega) (by decide) (fun cw61 => absurd cw61 (by omega)) (fun cw61 => ?_)
        refine E_aload_n dX6_spread_64 rfl ?_
        refine E_iload dX6_spread_65 rfl ?_
        refine E_putI dX6_spread_67 f_X6_25 rfl (Nat.lt_of_lt_of_le (by decide) hN) rfl ?_
        refine E_ic (nI 1) dX6_spread_70 (by decide) ?_
        exact E_zret dX6_spread_71 rfl (by decide) (by
          have e1 : spP (nxP q k LN Y S) (ouP q k LN Y S T) (brP q k LN Y S) b h (dd + 1) = ((spP (nxP q k LN Y S) (ouP q k LN Y S T) (brP q k LN Y S) b h dd).1, mkP (l + 1) fd) := (spP_o h0 (ho1 (by omega))).trans (by rw [hl0, hf0, hfd])
          have e6 : spP (nxP q k LN Y S) (ouP q k LN Y S T) (brP q k LN Y S) b h 6 = ((spP (nxP q k LN Y S) (ouP q k LN Y S T) (brP q k LN Y S) b h dd).1, mkP (l + 1) fd) := by
            rw [show 6 = dd + 1 + e by omega, spP_stay (by rw [e1]; unfold mkP; omega) e, e1]
          rw [e6] at hQ
          have nz : ¬ mkP (l + 1) fd = 0 := by unfold mkP; omega
          rw [if_neg nz] at hQ
          exact hQ _ ((FS.ofB (((BFc.row f2 (by decide)).trans (BFc.up I2 (nI 99) (by decide))).trans f3)).trans (fun x _ _ _ _ z _ _ => up2_o I3 37 4 _ x z)) ((hP.keep (congrFun ((((BFc.row f2 (by decide)).trans (BFc.up I2 (nI 99) (by decide))).trans f3).1 37 (by decide) (by decide) (by decide) (by decide)) 2) ((((BFc.row f2 (by decide)).trans (BFc.up I2 (nI 99) (by decide))).trans f3).1 38 (by decide) (by decide) (by decide) (by decide)) ((((BFc.row f2 (by decide)).trans (BFc.up I2 (nI 99) (by decide))).trans f3).1 152 (by decide) (by decide) (by decide) (by decide))).keep (up2_k _ _ (by decide)) (up2_o _ 37 _ _ 38 (by decide)) (up2_o _ 37 _ _ 152 (by decide))) ((hX.keep (((BFc.row f2 (by decide)).trans (BFc.up I2 (nI 99) (by decide))).trans f3)).keepP hk (fun x z _ _ => up2_o I3 37 4 _ x z)) ⟨_, (congrFun (up2_o _ 37 _ _ 22 (by decide)) 6).trans d3.2.1⟩ (fun _ => (up2_s _ _ _ _).trans (congrArg nI (by unfold mkP; omega))))
      · by_cases cb : D1 5 = 0
        · skip
          refine E_iload dX6_spread_9 rfl ?_
          refine E_bp (nI 6) dX6_spread_11 (by decide) ?_
          refine E_cN_ge (a := dd) (b := 6) (tgt := 97) dX6_spread_13 (by omega) (by decide) (by decide) (fun cw13 => absurd cw13 (by omega)) (fun cw13 => ?_)
          refine E_iload_n dX6_spread_16 rfl ?_
          refine E_ic (nI 3) dX6_spread_17 (by decide) ?_
          refine E_ishr dX6_spread_18 ?_
          refine E.top (pk_shr3 hs hf) ?_
          refine E_aload dX6_spread_19 rfl ?_
          refine E_callS (As := [_, _]) (kc' := 0) (ks' := 0) (kc := 0) (ks := 0) dX6_spread_21 ok_X6_unpack w_X6_59 st_X6_unpack rfl rfl rfl (Nat.le_of_ble_eq_true rfl) (Nat.le_of_ble_eq_true rfl) (Nat.le_refl _) (x_unpack (s := s) (Nat.le_of_succ_le hN) hs (fun I2 f2 u2 => ?_))
          refine E_aload_n dX6_spread_24 rfl ?_
          refine E_bp (nI 99) dX6_spread_25 (by decide) ?_
          refine E_putI dX6_spread_27 f_X6_63 rfl (Nat.lt_of_lt_of_le (by decide) hN) rfl ?_
          refine E_aload_n dX6_spread_30 rfl ?_
          refine E_iload dX6_spread_31 rfl ?_
          refine E_ic (nI 0) dX6_spread_33 (by decide) ?_
          refine E_ic (nI 0) dX6_spread_34 (by decide) ?_
          refine E_callV (As := [_, _, _]) (ci := 0) (kc' := 0) (ks' := 0) (kc := 0) (ks := 0) dX6_spread_35 ok_X0_perform w_X6_66 i_X0_perform s_X0_perform rfl (by decide) rfl (Nat.lt_of_lt_of_le (by decide) hN) rfl rfl rfl (Nat.le_of_ble_eq_true rfl) (Nat.le_of_ble_eq_true rfl) (Nat.le_refl _) (x_perform (d := d) (dd := dd) (i := 0) (w := 0) (D := up1 (unD s) 7 c7) (by omega) (Nat.le_of_succ_le hN) hR hk hq hLN (hX.keep ((BFc.row f2 (by decide)).trans (BFc.up I2 (nI 99) (by decide)))) (unD_ok hv) ⟨up2_s _ _ _ _, (up2_k _ _ (by decide)).trans ((congrFun (f2 22 (by decide)) 6).trans hc7), fun j hj => (congrFun (up2_o I2 22 4 _ 23 (by decide)) j).trans ((u2 j hj).trans (congrArg nI (up1_n (show j ≠ 7 by omega)).symm))⟩ (fun I3 f3 d3 => ?_))
          refine E_iload_n dX6_spread_38 rfl ?_
          refine E_ic (nI 1) dX6_spread_39 (by decide) ?_
          refine E_cN_ne (a := l + 1) (b := 1) (tgt := 48) dX6_spread_40 (by omega) (by decide) (by decide) (fun cw40 => ?_) (fun cw40 => absurd cw40 (by omega))
          refine E_iload_n dX6_spread_48 rfl ?_
          refine E_bp (nI 7) dX6_spread_49 (by decide) ?_
          refine E_iand dX6_spread_51 ?_
          refine E.top (pk_and3 hs hf) ?_
          refine E.top (show nI f = nI fd from congrArg nI hfe) ?_
          refine E_istore dX6_spread_52 (Nat.le_of_ble_eq_true rfl) ?_
          refine E_aload dX6_spread_54 rfl ?_
          refine E_getI dX6_spread_56 f_X6_70 rfl (Nat.lt_of_lt_of_le (by decide) hN) rfl ?_
          refine E.top ((d3.2.2 3 (by decide)).trans (congrArg nI (e7 3 (by decide)))) ?_
          refine E_iload dX6_spread_59 rfl ?_
          refine E_cN_le (a := D1 3) (b := T) (tgt := 72) dX6_spread_61 (by omega) (by omega) (by decide) (fun cw61 => ?_) (fun cw61 => absurd cw61 (by omega))
          refine E_aload dX6_spread_72 rfl ?_
          refine E_getI dX6_spread_74 f_X6_75 rfl (Nat.lt_of_lt_of_le (by decide) hN) rfl ?_
          refine E.top ((d3.2.2 5 (by decide)).trans (congrArg nI (e7 5 (by decide)))) ?_
          refine E_zN_ne (a := D1 5) (tgt := 91) dX6_spread_77 (by omega) (by decide) (fun cw77 => absurd cw77 (by omega)) (fun cw77 => ?_)
          refine E_aload_n dX6_spread_80 rfl ?_
          refine E_aload dX6_spread_81 rfl ?_
          refine E_callS (As := [_]) (kc' := 0) (ks' := 0) (kc := 0) (ks := 0) dX6_spread_83 ok_X6_packed w_X6_41 st_X6_packed rfl rfl rfl (Nat.le_of_ble_eq_true rfl) (Nat.le_of_ble_eq_true rfl) (Nat.le_refl _) (x_packed (LN := LN) (D := ddS q k LN Y S dd 0 0 (up1 (unD s) 7 c7)) (Nat.le_of_succ_le hN) hLN (ddS_ok (unD_ok hv)) ((e7 5 (by decide)).trans (by omega)) d3 ?_)
          refine E.top (congrArg nI (pk_7 e7)) ?_
          refine E_iload dX6_spread_86 rfl ?_
          refine E_callV (As := [_, _]) (ci := 5) (kc' := 0) (ks' := 0) (kc := 0) (ks := 0) dX6_spread_88 ok_X6_note w_X6_45 i_X6_note s_X6_note rfl (by decide) rfl (Nat.lt_of_lt_of_le (by decide) hN) rfl rfl rfl (Nat.le_of_ble_eq_true rfl) (Nat.le_of_ble_eq_true rfl) (Nat.le_refl _) (x_note (V := vP LN) (b := (spP (nxP q k LN Y S) (ouP q k LN Y S T) (brP q k LN Y S) b h dd).1) (s := pkD D1) (f := fd) (v := mkP (l + 1) fd) hn3 hR hw hWd (hP.keep (congrFun ((((BFc.row f2 (by decide)).trans (BFc.up I2 (nI 99) (by decide))).trans f3).1 37 (by decide) (by decide) (by decide) (by decide)) 2) ((((BFc.row f2 (by decide)).trans (BFc.up I2 (nI 99) (by decide))).trans f3).1 38 (by decide) (by decide) (by decide) (by decide)) ((((BFc.row f2 (by decide)).trans (BFc.up I2 (nI 99) (by decide))).trans f3).1 152 (by decide) (by decide) (by decide) (by decide))) (pk_vP hLN oD1 (by omega)).1 (by unfold mkP; omega) (by unfold mkP; omega) (fun I4 f4 p4 g4 => ?_))
          refine E_incN dX6_spread_91 rfl ?_
          refine E_goto (tgt := 9) dX6_spread_94 (by decide) ?_
          have e1 : spP (nxP q k LN Y S) (ouP q k LN Y S T) (brP q k LN Y S) b h (dd + 1) = (nt (spP (nxP q k LN Y S) (ouP q k LN Y S T) (brP q k LN Y S) b h dd).1 (pkD D1) (mkP (l + 1) fd), 0) := (spP_n h0 (ho0 (by omega)) (hb0 (by omega))).trans (by rw [hl0, hf0, hs0, hfd, show nxP q k LN Y S s dd = pkD D1 from congrArg pkD hD1])
          refine E.mask [true, true, true, true, true, true, true, false] ?_
          exact ih (dd + 1) I4 (by omega) (by rw [e1]) (by rw [e1]; exact p4) ((hX.keep (((BFc.row f2 (by decide)).trans (BFc.up I2 (nI 99) (by decide))).trans f3)).keepP hk f4) ⟨_, (congrFun (f4 22 (by decide) (by decide) (by decide)) 6).trans d3.2.1⟩ (fun I5 f5 => hQ I5 (((FS.ofB (((BFc.row f2 (by decide)).trans (BFc.up I2 (nI 99) (by decide))).trans f3)).trans (FS.ofP f4)).trans f5))
        · skip
          refine E_iload dX6_spread_9 rfl ?_
          refine E_bp (nI 6) dX6_spread_11 (by decide) ?_
          refine E_cN_ge (a := dd) (b := 6) (tgt := 97) dX6_spread_13 (by omega) (by decide) (by decide) (fun cw13 => absurd cw13 (by omega)) (fun cw13 => ?_)
          refine E_iload_n dX6_spread_16 rfl ?_
          refine E_ic (nI 3) dX6_spread_17 (by decide) ?_
          refine E_ishr dX6_spread_18 ?_
          refine E.top (pk_shr3 hs hf) ?_
          refine E_aload dX6_spread_19 rfl ?_
          refine E_callS (As := [_, _]) (kc' := 0) (ks' := 0) (kc := 0) (ks := 0) dX6_spread_21 ok_X6_unpack w_X6_59 st_X6_unpack rfl rfl rfl (Nat.le_of_ble_eq_true rfl) (Nat.le_of_ble_eq_true rfl) (Nat.le_refl _) (x_unpack (s := s) (Nat.le_of_succ_le hN) hs (fun I2 f2 u2 => ?_))
          refine E_aload_n dX6_spread_24 rfl ?_
          refine E_bp (nI 99) dX6_spread_25 (by decide) ?_
          refine E_putI dX6_spread_27 f_X6_63 rfl (Nat.lt_of_lt_of_le (by decide) hN) rfl ?_
          refine E_aload_n dX6_spread_30 rfl ?_
          refine E_iload dX6_spread_31 rfl ?_
          refine E_ic (nI 0) dX6_spread_33 (by decide) ?_
          refine E_ic (nI 0) dX6_spread_34 (by decide) ?_
          refine E_callV (As := [_, _, _]) (ci := 0) (kc' := 0) (ks' := 0) (kc := 0) (ks := 0) dX6_spread_35 ok_X0_perform w_X6_66 i_X0_perform s_X0_perform rfl (by decide) rfl (Nat.lt_of_lt_of_le (by decide) hN) rfl rfl rfl (Nat.le_of_ble_eq_true rfl) (Nat.le_of_ble_eq_true rfl) (Nat.le_refl _) (x_perform (d := d) (dd := dd) (i := 0) (w := 0) (D := up1 (unD s) 7 c7) (by omega) (Nat.le_of_succ_le hN) hR hk hq hLN (hX.keep ((BFc.row f2 (by decide)).trans (BFc.up I2 (nI 99) (by decide)))) (unD_ok hv) ⟨up2_s _ _ _ _, (up2_k _ _ (by decide)).trans ((congrFun (f2 22 (by decide)) 6).trans hc7), fun j hj => (congrFun (up2_o I2 22 4 _ 23 (by decide)) j).trans ((u2 j hj).trans (congrArg nI (up1_n (show j ≠ 7 by omega)).symm))⟩ (fun I3 f3 d3 => ?_))
          refine E_iload_n dX6_spread_38 rfl ?_
          refine E_ic (nI 1) dX6_spread_39 (by decide) ?_
          refine E_cN_ne (a := l + 1) (b := 1) (tgt := 48) dX6_spread_40 (by omega) (by decide) (by decide) (fun cw40 => ?_) (fun cw40 => absurd cw40 (by omega))
          refine E_iload_n dX6_spread_48 rfl ?_
          refine E_bp (nI 7) dX6_spread_49 (by decide) ?_
          refine E_iand dX6_spread_51 ?_
          refine E.top (pk_and3 hs hf) ?_
          refine E.top (show nI f = nI fd from congrArg nI hfe) ?_
          refine E_istore dX6_spread_52 (Nat.le_of_ble_eq_true rfl) ?_
          refine E_aload dX6_spread_54 rfl ?_
          refine E_getI dX6_spread_56 f_X6_70 rfl (Nat.lt_of_lt_of_le (by decide) hN) rfl ?_
          refine E.top ((d3.2.2 3 (by decide)).trans (congrArg nI (e7 3 (by decide)))) ?_
          refine E_iload dX6_spread_59 rfl ?_
          refine E_cN_le (a := D1 3) (b := T) (tgt := 72) dX6_spread_61 (by omega) (by omega) (by decide) (fun cw61 => ?_) (fun cw61 => absurd cw61 (by omega))
          refine E_aload dX6_spread_72 rfl ?_
          refine E_getI dX6_spread_74 f_X6_75 rfl (Nat.lt_of_lt_of_le (by decide) hN) rfl ?_
          refine E.top ((d3.2.2 5 (by decide)).trans (congrArg nI (e7 5 (by decide)))) ?_
          refine E_zN_ne (a := D1 5) (tgt := 91) dX6_spread_77 (by omega) (by decide) (fun cw77 => ?_) (fun cw77 => absurd cw77 (by omega))
          refine E_incN dX6_spread_91 rfl ?_
          refine E_goto (tgt := 9) dX6_spread_94 (by decide) ?_
          have e1 : spP (nxP q k LN Y S) (ouP q k LN Y S T) (brP q k LN Y S) b h (dd + 1) = ((spP (nxP q k LN Y S) (ouP q k LN Y S T) (brP q k LN Y S) b h dd).1, 0) := spP_b h0 (ho0 (by omega)) (hb1 (by omega))
          refine E.mask [true, true, true, true, true, true, true, false] ?_
          exact ih (dd + 1) I3 (by omega) (by rw [e1]) (by rw [e1]; exact (hP.keep (congrFun ((((BFc.row f2 (by decide)).trans (BFc.up I2 (nI 99) (by decide))).trans f3).1 37 (by decide) (by decide) (by decide) (by decide)) 2) ((((BFc.row f2 (by decide)).trans (BFc.up I2 (nI 99) (by decide))).trans f3).1 38 (by decide) (by decide) (by decide) (by decide)) ((((BFc.row f2 (by decide)).trans (BFc.up I2 (nI 99) (by decide))).trans f3).1 152 (by decide) (by decide) (by decide) (by decide)))) (hX.keep (((BFc.row f2 (by decide)).trans (BFc.up I2 (nI 99) (by decide))).trans f3)) ⟨_, d3.2.1⟩ (fun I5 f5 => hQ I5 ((FS.ofB (((BFc.row f2 (by decide)).trans (BFc.up I2 (nI 99) (by decide))).trans f3)).trans f5))
set_option maxRecDepth 100000 in
set_option maxHeartbeats 2000000 in
theorem x_spread {I : IM} (hn3 : n = 153) (hR : RS R) (hw : R 37 1 = some 152) (hk : k < 12) (hq : LWF q) (hLN : LN ≤ 24) (hT : T ≤ 24) (hW : WP (vP LN) 49500 b) (hh : h < b.1) (hs0 : b.2.1 h = s) (hf0 : fsP b h = f) (hl0 : lvP b h = l) (hl : l < 20) (hP : XP b I) (hX : BXc k LN Y S q I R) (hc : ∃ c7, I 22 6 = nI c7) (hQ : (∀ I2 : IM, FS I I2 → XP (spP (nxP q k LN Y S) (ouP q k LN Y S T) (brP q k LN Y S) b h 6).1 I2 → BXc k LN Y S q I2 R → (∃ c7, I2 22 6 = nI c7) → (¬ (spP (nxP q k LN Y S) (ouP q k LN Y S T) (brP q k LN Y S) b h 6).2 = 0 → I2 37 4 = nI (((spP (nxP q k LN Y S) (ouP q k LN Y S T) (brP q k LN Y S) b h 6).2 - 1) % 8)) → Q (some (.int (nI (if (spP (nxP q k LN Y S) (ouP q k LN Y S T) (brP q k LN Y S) b h 6).2 = 0 then 0 else 1)))) n I2 J R)) : E g mX6_spread (d + 6) 0 0 0 (ent 8 [.ref 37, .ref 22, .int (nI (8 * s + f)), .int (nI (l + 1)), .int (nI T)]) [] n I J R Q := by
  have hN : 153 ≤ n := by omega
  refine E_aload_n dX6_spread_0 rfl ?_
  refine E_getR dX6_spread_1 f_X6_35 rfl (Nat.lt_of_lt_of_le (by decide) hN) rfl (hR _ _ _ rfl) ?_
  refine E_astore dX6_spread_4 (Nat.le_of_ble_eq_true rfl) ?_
  refine E_ic (nI 0) dX6_spread_6 (by decide) ?_
  refine E_istore dX6_spread_7 (Nat.le_of_ble_eq_true rfl) ?_
  exact x_spreadL hn3 hR hw hk hq hLN hT hW hh hs0 hf0 hl0 hl 6 0 I rfl rfl hP hX hc hQ
end PSpread
