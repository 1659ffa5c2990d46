/-! ===== atOdds, agree ===== -/
section POdds
variable {g : GL} {d n : Nat} {I : IM} {J : JM} {R : RM} {Q : PQ} {σ : ST}
set_option maxRecDepth 100000 in
set_option maxHeartbeats 2000000 in
theorem x_gatherS {k sh : Nat} {G : Nat → Nat} (hB : BND σ) (hX : XR σ n I R) (hk : k < 12) (hsh : sh ≤ 16) (hG : ∀ y, G y < 2 ^ sh) (hv : ∀ y m, m ≤ σ 0 k 0 → G y + 2 ^ sh * syS (σ 1 k) (σ 2 k) y 0 m < 2 ^ 32) (hQ : Q none n (put I 52 100 (fun y => nI (G y + 2 ^ sh * syS (σ 1 k) (σ 2 k) y 0 (σ 0 k 0)))) J R) : E g mX11_gatherSins d 0 0 0 (ent 4 [.ref 0, .ref (54 + 5 * k), .int (nI sh)]) [] n (put I 52 100 (fun y => nI (G y))) J R Q := by
  have hN := hX.2.2.2.1.n.1
  have hR := hX.2.2.2.1.1
  have b := hB.1 k hk
  have L : ∀ m, m ≤ (σ 0 k 0) → E g mX11_gatherSins d 0 0 2 [.ref 0, .ref (54 + 5 * k), .int (nI sh), .int (nI (0 + m))] [] n (put I 52 100 (fun y => nI (G y + 2 ^ sh * syS (σ 1 k) (σ 2 k) y 0 m))) J R Q := by
    refine loopU (σ 0 k 0) ?_ (fun m hm ih => ?_)
    · have hX := hX.put 52 100 (fun y => nI (G y + 2 ^ sh * syS (σ 1 k) (σ 2 k) y 0 (σ 0 k 0))) (by omega)
      refine E_iload_n dX11_gatherSins_2 rfl ?_
      refine E_aload_n dX11_gatherSins_3 rfl ?_
      refine E_getI dX11_gatherSins_4 f_X11_187 (LYw k (by first | assumption | omega)).1 (by first | assumption | omega) rfl ?_
      refine E.top ((hX.1 k (by first | assumption | omega)).1) ?_
      refine E_cN_ge (a := 0 + (σ 0 k 0)) (b := σ 0 k 0) (tgt := 40) dX11_gatherSins_7 (by omega) (by omega) (by decide) (fun c7 => ?_) (fun c7 => absurd c7 (by omega))
      exact E_ret dX11_gatherSins_40 rfl (hQ)
    · have hX := hX.put 52 100 (fun y => nI (G y + 2 ^ sh * syS (σ 1 k) (σ 2 k) y 0 m)) (by omega)
      have hyy := b.2.1 (0 + m) (by omega)
      have h1 := hv (σ 1 k (0 + m)) m (by omega)
      have h2 := p32 (show σ 2 k (0 + m) + sh < 32 by omega)
      refine E_iload_n dX11_gatherSins_2 rfl ?_
      refine E_aload_n dX11_gatherSins_3 rfl ?_
      refine E_getI dX11_gatherSins_4 f_X11_187 (LYw k (by first | assumption | omega)).1 (by first | assumption | omega) rfl ?_
      refine E.top ((hX.1 k (by first | assumption | omega)).1) ?_
      refine E_cN_ge (a := 0 + m) (b := σ 0 k 0) (tgt := 40) dX11_gatherSins_7 (by omega) (by omega) (by decide) (fun c7 => absurd c7 (by omega)) (fun c7 => ?_)
      refine E_aload_n dX11_gatherSins_10 rfl ?_
      refine E_getR dX11_gatherSins_11 f_X11_79 rfl (Nat.lt_of_lt_of_le (by decide) hN) rfl (hR _ _ _ rfl) ?_
      refine E_aload_n dX11_gatherSins_14 rfl ?_
      refine E_getR dX11_gatherSins_15 f_X11_205 (LYw k (by first | assumption | omega)).1 (by first | assumption | omega) rfl (hR _ _ _ (RTw k (by first | assumption | omega)).1) ?_
      refine E_iload_n dX11_gatherSins_18 rfl ?_
      refine E_ialdN dX11_gatherSins_19 (LYw k (by first | assumption | omega)).2.1 (by first | assumption | omega) (by first | assumption | omega) ?_
      refine E.top (((hX.1 k (by first | assumption | omega)).2.2.1 (0 + m) (by first | assumption | omega)).1) ?_
      refine E_dup2 dX11_gatherSins_20 rfl rfl ?_
      refine E_ialdN dX11_gatherSins_21 rfl (Nat.lt_of_lt_of_le (by decide) hN) (by first | assumption | omega) ?_
      refine E.top (put_r I (fun y => nI (G y + 2 ^ sh * syS (σ 1 k) (σ 2 k) y 0 m)) (by omega)) ?_
      refine E_ic (nI 1) dX11_gatherSins_22 (by decide) ?_
      refine E_aload_n dX11_gatherSins_23 rfl ?_
      refine E_getR dX11_gatherSins_24 f_X11_208 (LYw k (by first | assumption | omega)).1 (by first | assumption | omega) rfl (hR _ _ _ (RTw k (by first | assumption | omega)).2.1) ?_
      refine E_iload_n dX11_gatherSins_27 rfl ?_
      refine E_ialdN dX11_gatherSins_28 (LYw k (by first | assumption | omega)).2.2.1 (by first | assumption | omega) (by first | assumption | omega) ?_
      refine E.top (((hX.1 k (by first | assumption | omega)).2.2.1 (0 + m) (by first | assumption | omega)).2) ?_
      refine E_iload_n dX11_gatherSins_29 rfl ?_
      refine E_iadd dX11_gatherSins_30 ?_
      refine E.top (nI_add (σ 2 k (0 + m)) sh) ?_
      refine E_ishl dX11_gatherSins_31 ?_
      refine E.top (shl1 (σ 2 k (0 + m) + sh) (by omega)) ?_
      refine E_ior dX11_gatherSins_32 ?_
      refine E.top ((nI_or h1 h2).trans (congrArg nI (or_sh (hG _)))) ?_
      refine E_iastN dX11_gatherSins_33 rfl (Nat.lt_of_lt_of_le (by decide) hN) (by first | assumption | omega) ?_
      refine E.mem (put_s (f' := (fun y => nI (G y + 2 ^ sh * syS (σ 1 k) (σ 2 k) y 0 (m + 1)))) I _ (by omega) (fun y hy => ?_)) ?_
      · by_cases e : y = σ 1 k (0 + m)
        · subst e
          rw [if_pos rfl]
          show nI (G _ + 2 ^ sh * syS (σ 1 k) (σ 2 k) _ 0 (m + 1)) = _
          rw [syS_t rfl]
        · rw [if_neg e]
          show nI (G _ + 2 ^ sh * syS (σ 1 k) (σ 2 k) _ 0 (m + 1)) = _
          rw [syS_f (fun q => e q.symm)]
      refine E_incN dX11_gatherSins_34 rfl ?_
      refine E_goto (tgt := 2) dX11_gatherSins_37 (by decide) ?_
      exact ih
  refine E_ic (nI 0) dX11_gatherSins_0 (by decide) ?_
  refine E_istore_n dX11_gatherSins_1 (Nat.le_of_ble_eq_true rfl) ?_
  exact L 0 (Nat.zero_le _)
set_option maxRecDepth 100000 in
set_option maxHeartbeats 2000000 in
theorem sx_atOdds (x w : Int32) : SX mX11_atOdds [.int x, .int w] (r_atOdds x w) id := by
  intro g n I J R σ Q hB hX hQ
  have hN := hX.2.2.2.1.n.1
  have hR := hX.2.2.2.1.1
  unfold r_atOdds at hQ
  refine E_aload_n dX11_atOdds_0 rfl ?_
  refine E_iload_n dX11_atOdds_1 rfl ?_
  refine E_callV (As := [_]) (ci := 10) (kc' := 0) (ks' := 0) (kc := 0) (ks := 0) dX11_atOdds_2 ok_X11_isTold w_X11_138 i_X11_isTold s_X11_isTold rfl (by decide) rfl (Nat.lt_of_lt_of_le (by decide) hN) rfl rfl rfl (Nat.le_of_ble_eq_true rfl) (Nat.le_of_ble_eq_true rfl) (Nat.le_refl _) (X_isTold (d := 899) hB hX (fun k hk e p1 => ?_) (fun z => ?_))
  · subst e
    refine E_zN_eq (a := 1) (tgt := 16) dX11_atOdds_5 (by decide) (by decide) (fun c5 => absurd c5 (by omega)) (fun c5 => ?_)
    refine E_aload_n dX11_atOdds_8 rfl ?_
    refine E_iload_n dX11_atOdds_9 rfl ?_
    refine E_callV (As := [_]) (ci := 10) (kc' := 0) (ks' := 0) (kc := 0) (ks := 0) dX11_atOdds_10 ok_X11_isTold w_X11_138 i_X11_isTold s_X11_isTold rfl (by decide) rfl (Nat.lt_of_lt_of_le (by decide) hN) rfl rfl rfl (Nat.le_of_ble_eq_true rfl) (Nat.le_of_ble_eq_true rfl) (Nat.le_refl _) (X_isTold (d := 899) hB hX (fun l hl e p2 => ?_) (fun z => ?_))
    · have e2 := e
      subst e2
      have hg : tk σ (nI k) ∧ tk σ (nI l) := ⟨tk_of hk p1, tk_of hl p2⟩
      rw [gd_t hg, nI_clamp (n := k) (by omega), nI_clamp (n := l) (by omega)] at hQ
      have hX2 := hX.put 52 100 (fun y => nI (syS (σ 1 k) (σ 2 k) y 0 (σ 0 k 0) + 2 ^ 16 * syS (σ 1 l) (σ 2 l) y 0 (σ 0 l 0))) (by omega)
      have hq := hQ (put I 52 100 (fun y => nI (syS (σ 1 k) (σ 2 k) y 0 (σ 0 k 0) + 2 ^ 16 * syS (σ 1 l) (σ 2 l) y 0 (σ 0 l 0)))) J hX2 (fun a a1 _ => put_o I 52 100 _ (by omega)) (fun a a1 _ => put_o I 52 100 _ (by omega))
      have sl : ∀ k, k < 12 → ∀ y, syS (σ 1 k) (σ 2 k) y 0 (σ 0 k 0) < 65536 := fun k hk y => syS_lt _ (fun i hi => ((hB.1 k hk).2.1 _ (by omega)).2)
      have sm : ∀ k, k < 12 → ∀ y m, m ≤ σ 0 k 0 → syS (σ 1 k) (σ 2 k) y 0 m < 65536 := fun k hk y m hm => syS_lt _ (fun i hi => ((hB.1 k hk).2.1 _ (by omega)).2)
      have L : ∀ y, y ≤ 100 → E g mX11_atOdds 900 0 0 54 [.ref 0, .int (nI k), .int (nI l), .int (nI (odS (fun y => syS (σ 1 k) (σ 2 k) y 0 (σ 0 k 0)) (fun y => syS (σ 1 l) (σ 2 l) y 0 (σ 0 l 0)) y)), .int (nI y), jk, jk] [] n (put I 52 100 (fun y => nI (syS (σ 1 k) (σ 2 k) y 0 (σ 0 k 0) + 2 ^ 16 * syS (σ 1 l) (σ 2 l) y 0 (σ 0 l 0)))) J R Q := by
        refine loopU 100 ?_ (fun y hy ih => ?_)
        · refine E_iload dX11_atOdds_54 rfl ?_
          refine E_bp (nI 100) dX11_atOdds_56 (by decide) ?_
          refine E_cN_ge (a := 100) (b := 100) (tgt := 112) dX11_atOdds_58 (by decide) (by decide) (by decide) (fun c58 => ?_) (fun c58 => absurd c58 (by omega))
          refine E_iload_n dX11_atOdds_112 rfl ?_
          exact E_iret dX11_atOdds_113 rfl (hq)
        · have A := sl k hk y
          have B := sl l hl y
          have oo := odS_le (fun y => syS (σ 1 k) (σ 2 k) y 0 (σ 0 k 0)) (fun y => syS (σ 1 l) (σ 2 l) y 0 (σ 0 l 0)) y
          refine E_iload dX11_atOdds_54 rfl ?_
          refine E_bp (nI 100) dX11_atOdds_56 (by decide) ?_
          refine E_cN_ge (a := y) (b := 100) (tgt := 112) dX11_atOdds_58 (by omega) (by decide) (by decide) (fun c58 => absurd c58 (by omega)) (fun c58 => ?_)
          refine E_aload_n dX11_atOdds_61 rfl ?_
          refine E_getR dX11_atOdds_62 f_X11_79 rfl (Nat.lt_of_lt_of_le (by decide) hN) rfl (hR _ _ _ rfl) ?_
          refine E_iload dX11_atOdds_65 rfl ?_
          refine E_ialdN dX11_atOdds_67 rfl (Nat.lt_of_lt_of_le (by decide) hN) (by first | assumption | omega) ?_
          refine E.top (put_r I (fun y => nI (syS (σ 1 k) (σ 2 k) y 0 (σ 0 k 0) + 2 ^ 16 * syS (σ 1 l) (σ 2 l) y 0 (σ 0 l 0))) (by omega)) ?_
          refine E_ldc (nI 65535) dX11_atOdds_68 k_X11_250 ?_
          refine E_iand dX11_atOdds_70 ?_
          refine E.top (lo16 A B) ?_
          refine E_istore dX11_atOdds_71 (Nat.le_of_ble_eq_true rfl) ?_
          refine E_aload_n dX11_atOdds_73 rfl ?_
          refine E_getR dX11_atOdds_74 f_X11_79 rfl (Nat.lt_of_lt_of_le (by decide) hN) rfl (hR _ _ _ rfl) ?_
          refine E_iload dX11_atOdds_77 rfl ?_
          refine E_ialdN dX11_atOdds_79 rfl (Nat.lt_of_lt_of_le (by decide) hN) (by first | assumption | omega) ?_
          refine E.top (put_r I (fun y => nI (syS (σ 1 k) (σ 2 k) y 0 (σ 0 k 0) + 2 ^ 16 * syS (σ 1 l) (σ 2 l) y 0 (σ 0 l 0))) (by omega)) ?_
          refine E_bp (nI 16) dX11_atOdds_80 (by decide) ?_
          refine E_iushr dX11_atOdds_82 ?_
          refine E.top (hi16 A B) ?_
          refine E_istore dX11_atOdds_83 (Nat.le_of_ble_eq_true rfl) ?_
          refine E_iload dX11_atOdds_85 rfl ?_
          refine E_zN_eq (a := syS (σ 1 k) (σ 2 k) y 0 (σ 0 k 0)) (tgt := 106) dX11_atOdds_87 (by omega) (by decide) (fun c87 => ?_) (fun c87 => ?_)
          · refine E_incN dX11_atOdds_106 rfl ?_
            refine E_goto (tgt := 54) dX11_atOdds_109 (by decide) ?_
            refine E.mask [true, true, true, true, true, false, false] ?_
            rw [show odS (fun y => syS (σ 1 k) (σ 2 k) y 0 (σ 0 k 0)) (fun y => syS (σ 1 l) (σ 2 l) y 0 (σ 0 l 0)) (y + 1) = odS (fun y => syS (σ 1 k) (σ 2 k) y 0 (σ 0 k 0)) (fun y => syS (σ 1 l) (σ 2 l) y 0 (σ 0 l 0)) y from if_neg (fun (q : 0 < syS (σ 1 k) (σ 2 k) y 0 (σ 0 k 0) ∧ 0 < syS (σ 1 l) (σ 2 l) y 0 (σ 0 l 0) ∧ nI (syS (σ 1 k) (σ 2 k) y 0 (σ 0 k 0)) &&& nI (syS (σ 1 l) (σ 2 l) y 0 (σ 0 l 0)) = 0) => by first | exact absurd q.1 (by omega) | exact absurd q.2.1 (by omega) | exact c100 q.2.2)] at ih
            exact ih
          · refine E_iload dX11_atOdds_90 rfl ?_
            refine E_zN_eq (a := syS (σ 1 l) (σ 2 l) y 0 (σ 0 l 0)) (tgt := 106) dX11_atOdds_92 (by omega) (by decide) (fun c92 => ?_) (fun c92 => ?_)
            · refine E_incN dX11_atOdds_106 rfl ?_
              refine E_goto (tgt := 54) dX11_atOdds_109 (by decide) ?_
              refine E.mask [true, true, true, true, true, false, false] ?_
              rw [show odS (fun y => syS (σ 1 k) (σ 2 k) y 0 (σ 0 k 0)) (fun y => syS (σ 1 l) (σ 2 l) y 0 (σ 0 l 0)) (y + 1) = odS (fun y => syS (σ 1 k) (σ 2 k) y 0 (σ 0 k 0)) (fun y => syS (σ 1 l) (σ 2 l) y 0 (σ 0 l 0)) y from if_neg (fun (q : 0 < syS (σ 1 k) (σ 2 k) y 0 (σ 0 k 0) ∧ 0 < syS (σ 1 l) (σ 2 l) y 0 (σ 0 l 0) ∧ nI (syS (σ 1 k) (σ 2 k) y 0 (σ 0 k 0)) &&& nI (syS (σ 1 l) (σ 2 l) y 0 (σ 0 l 0)) = 0) => by first | exact absurd q.1 (by omega) | exact absurd q.2.1 (by omega) | exact c100 q.2.2)] at ih
              exact ih
            · refine E_iload dX11_atOdds_95 rfl ?_
              refine E_iload dX11_atOdds_97 rfl ?_
              refine E_iand dX11_atOdds_99 ?_
              refine E_if_ne (tgt := 106) dX11_atOdds_100 (by decide) (fun c100 => ?_) (fun c100 => ?_)
              · refine E_incN dX11_atOdds_106 rfl ?_
                refine E_goto (tgt := 54) dX11_atOdds_109 (by decide) ?_
                refine E.mask [true, true, true, true, true, false, false] ?_
                rw [show odS (fun y => syS (σ 1 k) (σ 2 k) y 0 (σ 0 k 0)) (fun y => syS (σ 1 l) (σ 2 l) y 0 (σ 0 l 0)) (y + 1) = odS (fun y => syS (σ 1 k) (σ 2 k) y 0 (σ 0 k 0)) (fun y => syS (σ 1 l) (σ 2 l) y 0 (σ 0 l 0)) y from if_neg (fun (q : 0 < syS (σ 1 k) (σ 2 k) y 0 (σ 0 k 0) ∧ 0 < syS (σ 1 l) (σ 2 l) y 0 (σ 0 l 0) ∧ nI (syS (σ 1 k) (σ 2 k) y 0 (σ 0 k 0)) &&& nI (syS (σ 1 l) (σ 2 l) y 0 (σ 0 l 0)) = 0) => by first | exact absurd q.1 (by omega) | exact absurd q.2.1 (by omega) | exact c100 q.2.2)] at ih
                exact ih
              · refine E_incN dX11_atOdds_103 rfl ?_
                refine E_incN dX11_atOdds_106 rfl ?_
                refine E_goto (tgt := 54) dX11_atOdds_109 (by decide) ?_
                refine E.mask [true, true, true, true, true, false, false] ?_
                rw [show odS (fun y => syS (σ 1 k) (σ 2 k) y 0 (σ 0 k 0)) (fun y => syS (σ 1 l) (σ 2 l) y 0 (σ 0 l 0)) (y + 1) = odS (fun y => syS (σ 1 k) (σ 2 k) y 0 (σ 0 k 0)) (fun y => syS (σ 1 l) (σ 2 l) y 0 (σ 0 l 0)) y + 1 from if_pos ⟨c87, c92, c100⟩] at ih
                exact ih
      refine E_zN_ne (a := 1) (tgt := 18) dX11_atOdds_13 (by decide) (by decide) (fun c13 => ?_) (fun c13 => absurd c13 (by omega))
      refine E_aload_n dX11_atOdds_18 rfl ?_
      refine E_getR dX11_atOdds_19 f_X11_79 rfl (Nat.lt_of_lt_of_le (by decide) hN) rfl (hR _ _ _ rfl) ?_
      refine E_ic (nI 0) dX11_atOdds_22 (by decide) ?_
      refine E_callS (As := [_, _]) (kc' := 0) (ks' := 0) (kc := 0) (ks := 0) dX11_atOdds_23 ok_J7_fill_53178 w_X11_238 st_J7_fill_53178 rfl rfl rfl (Nat.le_of_ble_eq_true rfl) (Nat.le_of_ble_eq_true rfl) (Nat.le_refl _) (c_fillI (L := 100) rfl (Nat.lt_of_lt_of_le (by decide) hN) ?_)
      refine E.mem (put_fil I 52 100 (nI 0) (f := fun y => nI ((fun _ => 0) y)) (fun _ => rfl)) ?_
      have hX0 := hX
      have hX := hX.put 52 100 (fun y => nI ((fun _ => 0) y)) (by omega)
      refine E_aload_n dX11_atOdds_26 rfl ?_
      refine E_aload_n dX11_atOdds_27 rfl ?_
      refine E_getR dX11_atOdds_28 f_X11_11 rfl (Nat.lt_of_lt_of_le (by decide) hN) rfl (hR _ _ _ rfl) ?_
      refine E_iload_n dX11_atOdds_31 rfl ?_
      refine E_aaldN dX11_atOdds_32 rfl (Nat.lt_of_lt_of_le (by decide) hN) (by first | assumption | omega) (hR _ _ _ (RT1 k (by first | assumption | omega))) ?_
      refine E_ic (nI 0) dX11_atOdds_33 (by decide) ?_
      refine E_callV (As := [_, _]) (ci := 10) (kc' := 0) (ks' := 0) (kc := 0) (ks := 0) dX11_atOdds_34 ok_X11_gatherSins w_X11_246 i_X11_gatherSins s_X11_gatherSins rfl (by decide) rfl (Nat.lt_of_lt_of_le (by decide) hN) rfl rfl rfl (Nat.le_of_ble_eq_true rfl) (Nat.le_of_ble_eq_true rfl) (Nat.le_refl _) (x_gatherS (d := 899) (sh := 0) (G := fun _ => 0) hB hX0 hk (by decide) (fun _ => by decide) (fun y m hm => by have := sm k hk y m hm; show 0 + 2 ^ 0 * syS _ _ _ _ _ < _; omega) ?_)
      refine E.mem (put_e I 52 100 (f' := fun y => nI ((fun y => syS (σ 1 k) (σ 2 k) y 0 (σ 0 k 0)) y)) (fun y hy => by show nI (0 + 2 ^ 0 * _) = _; rw [Nat.pow_zero, Nat.one_mul, Nat.zero_add])) ?_
      have hX := hX0.put 52 100 (fun y => nI ((fun y => syS (σ 1 k) (σ 2 k) y 0 (σ 0 k 0)) y)) (by omega)
      refine E_aload_n dX11_atOdds_37 rfl ?_
      refine E_aload_n dX11_atOdds_38 rfl ?_
      refine E_getR dX11_atOdds_39 f_X11_11 rfl (Nat.lt_of_lt_of_le (by decide) hN) rfl (hR _ _ _ rfl) ?_
      refine E_iload_n dX11_atOdds_42 rfl ?_
      refine E_aaldN dX11_atOdds_43 rfl (Nat.lt_of_lt_of_le (by decide) hN) (by first | assumption | omega) (hR _ _ _ (RT1 l (by first | assumption | omega))) ?_
      refine E_bp (nI 16) dX11_atOdds_44 (by decide) ?_
      refine E_callV (As := [_, _]) (ci := 10) (kc' := 0) (ks' := 0) (kc := 0) (ks := 0) dX11_atOdds_46 ok_X11_gatherSins w_X11_246 i_X11_gatherSins s_X11_gatherSins rfl (by decide) rfl (Nat.lt_of_lt_of_le (by decide) hN) rfl rfl rfl (Nat.le_of_ble_eq_true rfl) (Nat.le_of_ble_eq_true rfl) (Nat.le_refl _) (x_gatherS (d := 899) (sh := 16) (G := (fun y => syS (σ 1 k) (σ 2 k) y 0 (σ 0 k 0))) hB hX0 hl (by decide) (fun y => sl k hk y) (fun y m hm => by have h1 := sl k hk y; have h2 := sm l hl y m hm; show syS (σ 1 k) (σ 2 k) y 0 (σ 0 k 0) + 2 ^ 16 * syS _ _ _ _ _ < _; omega) ?_)
      refine E_ic (nI 0) dX11_atOdds_49 (by decide) ?_
      refine E_istore_n dX11_atOdds_50 (Nat.le_of_ble_eq_true rfl) ?_
      refine E_ic (nI 0) dX11_atOdds_51 (by decide) ?_
      refine E_istore dX11_atOdds_52 (Nat.le_of_ble_eq_true rfl) ?_
      exact L 0 (by omega)
    · rw [gd_f (fun y => z y.2)] at hQ
      have hq := hQ I J hX (fun _ _ _ => rfl) (fun _ _ _ => rfl)
      refine E_zN_ne (a := 0) (tgt := 18) dX11_atOdds_13 (by decide) (by decide) (fun c13 => absurd c13 (by omega)) (fun c13 => ?_)
      refine E_ic (-1) dX11_atOdds_16 (by decide) ?_
      exact E_iret dX11_atOdds_17 rfl (hq)
  · rw [gd_f (fun y => z y.1)] at hQ
    have hq := hQ I J hX (fun _ _ _ => rfl) (fun _ _ _ => rfl)
    refine E_zN_eq (a := 0) (tgt := 16) dX11_atOdds_5 (by decide) (by decide) (fun c5 => ?_) (fun c5 => absurd c5 (by omega))
    refine E_ic (-1) dX11_atOdds_16 (by decide) ?_
    exact E_iret dX11_atOdds_17 rfl (hq)
set_option maxRecDepth 100000 in
set_option maxHeartbeats 2000000 in
theorem sm_atOdds (x w : Int32) : SM mX12_atOdds [.int x, .int w] (r_atOdds x w) id := by
  intro g n I J R σ Q hB hM hN hR hQ
  have hq := hQ I J hM (fun _ _ => rfl) rfl (fun _ _ _ => rfl)
  unfold r_atOdds at hq
  refine E_aload_n dX12_atOdds_0 rfl ?_
  refine E_iload_n dX12_atOdds_1 rfl ?_
  refine E_callV (As := [_]) (ci := 11) (kc' := 0) (ks' := 0) (kc := 0) (ks := 0) dX12_atOdds_2 ok_X12_isTold w_X12_340 i_X12_isTold s_X12_isTold rfl (by decide) rfl (Nat.lt_of_lt_of_le (by decide) hN) rfl rfl rfl (Nat.le_of_ble_eq_true rfl) (Nat.le_of_ble_eq_true rfl) (Nat.le_refl _) (M_isTold (d := 898) hB hM hN hR (fun k hk e p1 => ?_) (fun z => ?_))
  · subst e
    refine E_zN_eq (a := 1) (tgt := 16) dX12_atOdds_5 (by decide) (by decide) (fun c5 => absurd c5 (by omega)) (fun c5 => ?_)
    refine E_aload_n dX12_atOdds_8 rfl ?_
    refine E_iload_n dX12_atOdds_9 rfl ?_
    refine E_callV (As := [_]) (ci := 11) (kc' := 0) (ks' := 0) (kc := 0) (ks := 0) dX12_atOdds_10 ok_X12_isTold w_X12_340 i_X12_isTold s_X12_isTold rfl (by decide) rfl (Nat.lt_of_lt_of_le (by decide) hN) rfl rfl rfl (Nat.le_of_ble_eq_true rfl) (Nat.le_of_ble_eq_true rfl) (Nat.le_refl _) (M_isTold (d := 898) hB hM hN hR (fun l hl e p2 => ?_) (fun z => ?_))
    · subst e
      have hg : tk σ (nI k) ∧ tk σ (nI l) := ⟨tk_of hk p1, tk_of hl p2⟩
      rw [gd_t hg, nI_clamp (n := k) (by omega), nI_clamp (n := l) (by omega)] at hq
      have sl : ∀ k, k < 12 → ∀ y, syS (σ 1 k) (σ 2 k) y 0 (σ 0 k 0) < 65536 := fun k hk y => syS_lt _ (fun i hi => ((hB.1 k hk).2.1 _ (by omega)).2)
      have L : ∀ y, y ≤ 100 → E g mX12_atOdds 900 0 0 23 [.ref 114, .int (nI k), .int (nI l), .int (nI (odS (fun y => syS (σ 1 k) (σ 2 k) y 0 (σ 0 k 0)) (fun y => syS (σ 1 l) (σ 2 l) y 0 (σ 0 l 0)) y)), .int (nI y), jk, jk] [] n I J R Q := by
        refine loopU 100 ?_ (fun y hy ih => ?_)
        · refine E_iload dX12_atOdds_23 rfl ?_
          refine E_bp (nI 100) dX12_atOdds_25 (by decide) ?_
          refine E_cN_ge (a := 100) (b := 100) (tgt := 78) dX12_atOdds_27 (by decide) (by decide) (by decide) (fun c27 => ?_) (fun c27 => absurd c27 (by omega))
          refine E_iload_n dX12_atOdds_78 rfl ?_
          exact E_iret dX12_atOdds_79 rfl (hq)
        · have A := sl k hk y
          have B := sl l hl y
          have oo := odS_le (fun y => syS (σ 1 k) (σ 2 k) y 0 (σ 0 k 0)) (fun y => syS (σ 1 l) (σ 2 l) y 0 (σ 0 l 0)) y
          refine E_iload dX12_atOdds_23 rfl ?_
          refine E_bp (nI 100) dX12_atOdds_25 (by decide) ?_
          refine E_cN_ge (a := y) (b := 100) (tgt := 78) dX12_atOdds_27 (by omega) (by decide) (by decide) (fun c27 => absurd c27 (by omega)) (fun c27 => ?_)
          refine E_aload_n dX12_atOdds_30 rfl ?_
          refine E_iload_n dX12_atOdds_31 rfl ?_
          refine E_iload dX12_atOdds_32 rfl ?_
          refine E_ic (nI 0) dX12_atOdds_34 (by decide) ?_
          refine E_callV (As := [_, _, _]) (ci := 11) (kc' := 0) (ks' := 0) (kc := 0) (ks := 0) dX12_atOdds_35 ok_X12_sinsOfYear w_X12_382 i_X12_sinsOfYear s_X12_sinsOfYear rfl (by decide) rfl (Nat.lt_of_lt_of_le (by decide) hN) rfl rfl rfl (Nat.le_of_ble_eq_true rfl) (Nat.le_of_ble_eq_true rfl) (Nat.le_refl _) (m_soy (d := 898) hB hM hN hR hk hy (Nat.zero_le _) ?_)
          refine E_istore dX12_atOdds_38 (Nat.le_of_ble_eq_true rfl) ?_
          refine E_aload_n dX12_atOdds_40 rfl ?_
          refine E_iload_n dX12_atOdds_41 rfl ?_
          refine E_iload dX12_atOdds_42 rfl ?_
          refine E_ic (nI 0) dX12_atOdds_44 (by decide) ?_
          refine E_callV (As := [_, _, _]) (ci := 11) (kc' := 0) (ks' := 0) (kc := 0) (ks := 0) dX12_atOdds_45 ok_X12_sinsOfYear w_X12_382 i_X12_sinsOfYear s_X12_sinsOfYear rfl (by decide) rfl (Nat.lt_of_lt_of_le (by decide) hN) rfl rfl rfl (Nat.le_of_ble_eq_true rfl) (Nat.le_of_ble_eq_true rfl) (Nat.le_refl _) (m_soy (d := 898) hB hM hN hR hl hy (Nat.zero_le _) ?_)
          refine E_istore dX12_atOdds_48 (Nat.le_of_ble_eq_true rfl) ?_
          refine E_iload dX12_atOdds_50 rfl ?_
          refine E_zN_eq (a := syS (σ 1 k) (σ 2 k) y 0 (σ 0 k 0)) (tgt := 72) dX12_atOdds_52 (by omega) (by decide) (fun c52 => ?_) (fun c52 => ?_)
          · refine E_incN dX12_atOdds_72 rfl ?_
            refine E_goto (tgt := 23) dX12_atOdds_75 (by decide) ?_
            refine E.mask [true, true, true, true, true, false, false] ?_
            rw [show odS (fun y => syS (σ 1 k) (σ 2 k) y 0 (σ 0 k 0)) (fun y => syS (σ 1 l) (σ 2 l) y 0 (σ 0 l 0)) (y + 1) = odS (fun y => syS (σ 1 k) (σ 2 k) y 0 (σ 0 k 0)) (fun y => syS (σ 1 l) (σ 2 l) y 0 (σ 0 l 0)) y from if_neg (fun (q : 0 < syS (σ 1 k) (σ 2 k) y 0 (σ 0 k 0) ∧ 0 < syS (σ 1 l) (σ 2 l) y 0 (σ 0 l 0) ∧ nI (syS (σ 1 k) (σ 2 k) y 0 (σ 0 k 0)) &&& nI (syS (σ 1 l) (σ 2 l) y 0 (σ 0 l 0)) = 0) => by first | exact absurd q.1 (by omega) | exact absurd q.2.1 (by omega) | exact c65 q.2.2)] at ih
            exact ih
          · refine E_iload dX12_atOdds_55 rfl ?_
            refine E_zN_eq (a := syS (σ 1 l) (σ 2 l) y 0 (σ 0 l 0)) (tgt := 72) dX12_atOdds_57 (by omega) (by decide) (fun c57 => ?_) (fun c57 => ?_)
            · refine E_incN dX12_atOdds_72 rfl ?_
              refine E_goto (tgt := 23) dX12_atOdds_75 (by decide) ?_
              refine E.mask [true, true, true, true, true, false, false] ?_
              rw [show odS (fun y => syS (σ 1 k) (σ 2 k) y 0 (σ 0 k 0)) (fun y => syS (σ 1 l) (σ 2 l) y 0 (σ 0 l 0)) (y + 1) = odS (fun y => syS (σ 1 k) (σ 2 k) y 0 (σ 0 k 0)) (fun y => syS (σ 1 l) (σ 2 l) y 0 (σ 0 l 0)) y from if_neg (fun (q : 0 < syS (σ 1 k) (σ 2 k) y 0 (σ 0 k 0) ∧ 0 < syS (σ 1 l) (σ 2 l) y 0 (σ 0 l 0) ∧ nI (syS (σ 1 k) (σ 2 k) y 0 (σ 0 k 0)) &&& nI (syS (σ 1 l) (σ 2 l) y 0 (σ 0 l 0)) = 0) => by first | exact absurd q.1 (by omega) | exact absurd q.2.1 (by omega) | exact c65 q.2.2)] at ih
              exact ih
            · refine E_iload dX12_atOdds_60 rfl ?_
              refine E_iload dX12_atOdds_62 rfl ?_
              refine E_iand dX12_atOdds_64 ?_
              refine E_if_ne (tgt := 72) dX12_atOdds_65 (by decide) (fun c65 => ?_) (fun c65 => ?_)
              · refine E_incN dX12_atOdds_72 rfl ?_
                refine E_goto (tgt := 23) dX12_atOdds_75 (by decide) ?_
                refine E.mask [true, true, true, true, true, false, false] ?_
                rw [show odS (fun y => syS (σ 1 k) (σ 2 k) y 0 (σ 0 k 0)) (fun y => syS (σ 1 l) (σ 2 l) y 0 (σ 0 l 0)) (y + 1) = odS (fun y => syS (σ 1 k) (σ 2 k) y 0 (σ 0 k 0)) (fun y => syS (σ 1 l) (σ 2 l) y 0 (σ 0 l 0)) y from if_neg (fun (q : 0 < syS (σ 1 k) (σ 2 k) y 0 (σ 0 k 0) ∧ 0 < syS (σ 1 l) (σ 2 l) y 0 (σ 0 l 0) ∧ nI (syS (σ 1 k) (σ 2 k) y 0 (σ 0 k 0)) &&& nI (syS (σ 1 l) (σ 2 l) y 0 (σ 0 l 0)) = 0) => by first | exact absurd q.1 (by omega) | exact absurd q.2.1 (by omega) | exact c65 q.2.2)] at ih
                exact ih
              · refine E_iload_n dX12_atOdds_68 rfl ?_
                refine E_ic (nI 1) dX12_atOdds_69 (by decide) ?_
                refine E_iadd dX12_atOdds_70 ?_
                refine E.top (nI_add (odS (fun y => syS (σ 1 k) (σ 2 k) y 0 (σ 0 k 0)) (fun y => syS (σ 1 l) (σ 2 l) y 0 (σ 0 l 0)) y) 1) ?_
                refine E_istore_n dX12_atOdds_71 (Nat.le_of_ble_eq_true rfl) ?_
                refine E_incN dX12_atOdds_72 rfl ?_
                refine E_goto (tgt := 23) dX12_atOdds_75 (by decide) ?_
                refine E.mask [true, true, true, true, true, false, false] ?_
                rw [show odS (fun y => syS (σ 1 k) (σ 2 k) y 0 (σ 0 k 0)) (fun y => syS (σ 1 l) (σ 2 l) y 0 (σ 0 l 0)) (y + 1) = odS (fun y => syS (σ 1 k) (σ 2 k) y 0 (σ 0 k 0)) (fun y => syS (σ 1 l) (σ 2 l) y 0 (σ 0 l 0)) y + 1 from if_pos ⟨c52, c57, c65⟩] at ih
                exact ih
      refine E_zN_ne (a := 1) (tgt := 18) dX12_atOdds_13 (by decide) (by decide) (fun c13 => ?_) (fun c13 => absurd c13 (by omega))
      refine E_ic (nI 0) dX12_atOdds_18 (by decide) ?_
      refine E_istore_n dX12_atOdds_19 (Nat.le_of_ble_eq_true rfl) ?_
      refine E_ic (nI 0) dX12_atOdds_20 (by decide) ?_
      refine E_istore dX12_atOdds_21 (Nat.le_of_ble_eq_true rfl) ?_
      exact L 0 (by omega)
    · rw [gd_f (fun y => z y.2)] at hq
      refine E_zN_ne (a := 0) (tgt := 18) dX12_atOdds_13 (by decide) (by decide) (fun c13 => absurd c13 (by omega)) (fun c13 => ?_)
      refine E_ic (-1) dX12_atOdds_16 (by decide) ?_
      exact E_iret dX12_atOdds_17 rfl (hq)
  · rw [gd_f (fun y => z y.1)] at hq
    refine E_zN_eq (a := 0) (tgt := 16) dX12_atOdds_5 (by decide) (by decide) (fun c5 => ?_) (fun c5 => absurd c5 (by omega))
    refine E_ic (-1) dX12_atOdds_16 (by decide) ?_
    exact E_iret dX12_atOdds_17 rfl (hq)
end POdds
/-- the table of what two rows have alike: one row of it, the next -/
def agJ (sm : Nat → Prop) [DecidablePred sm] (f : Nat → Nat) : Nat → (Nat → Nat) × Nat
  | 0 => (f, 0)
  | j + 1 => (fun y => if y = j + 1 then (if sm j then (agJ sm f j).2 + 1 else max ((agJ sm f j).1 (j + 1)) ((agJ sm f j).1 j)) else (agJ sm f j).1 y, (agJ sm f j).1 (j + 1))
theorem agJ_o (sm : Nat → Prop) [DecidablePred sm] (f : Nat → Nat) : ∀ j y, j < y → (agJ sm f j).1 y = f y
  | 0, _, _ => rfl
  | j + 1, y, h => by
    show (if y = j + 1 then _ else (agJ sm f j).1 y) = _
    rw [if_neg (by omega)]
    exact agJ_o sm f j y (by omega)
theorem agJ_le (sm : Nat → Prop) [DecidablePred sm] {f : Nat → Nat} {b : Nat} (h : ∀ y, f y ≤ b) : ∀ j, (∀ y, (agJ sm f j).1 y ≤ b + 1) ∧ (agJ sm f j).2 ≤ b
  | 0 => ⟨fun y => Nat.le_succ_of_le (h y), Nat.zero_le _⟩
  | j + 1 => by
    obtain ⟨h1, h2⟩ := agJ_le sm h j
    refine ⟨fun y => ?_, ?_⟩
    · show (if y = j + 1 then (if sm j then (agJ sm f j).2 + 1 else max ((agJ sm f j).1 (j + 1)) ((agJ sm f j).1 j)) else (agJ sm f j).1 y) ≤ _
      have h3 := h1 (j + 1)
      have h4 := h1 j
      split
      · split
        · omega
        · exact Nat.max_le.mpr ⟨h3, h4⟩
      · exact h1 y
    · show (agJ sm f j).1 (j + 1) ≤ b
      rw [agJ_o sm f j (j + 1) (by omega)]
      exact h _
theorem agJ_t {sm : Nat → Prop} [DecidablePred sm] {f : Nat → Nat} {j : Nat} (h : sm j) (y : Nat) : nI ((agJ sm f (j + 1)).1 y) = if y = j + 1 then nI ((agJ sm f j).2 + 1) else nI ((agJ sm f j).1 y) := by
  show nI (if y = j + 1 then (if sm j then _ else _) else _) = _
  rw [if_pos h]
  split <;> rfl
theorem agJ_f {sm : Nat → Prop} [DecidablePred sm] {f : Nat → Nat} {j : Nat} (h : ¬ sm j) (y : Nat) : nI ((agJ sm f (j + 1)).1 y) = if y = j + 1 then nI (max ((agJ sm f j).1 (j + 1)) ((agJ sm f j).1 j)) else nI ((agJ sm f j).1 y) := by
  show nI (if y = j + 1 then (if sm j then _ else _) else _) = _
  rw [if_neg h]
  split <;> rfl
abbrev smS (σ : ST) (k l i : Nat) : Nat → Prop := fun j => σ 1 k i = σ 1 l j ∧ σ 2 k i = σ 2 l j
def agR (σ : ST) (k l : Nat) : Nat → Nat → Nat
  | 0 => fun _ => 0
  | i + 1 => (agJ (smS σ k l i) (agR σ k l i) (σ 0 l 0)).1
theorem agR_le (σ : ST) (k l : Nat) : ∀ i y, agR σ k l i y ≤ i
  | 0, _ => Nat.le_refl _
  | i + 1, y => (agJ_le (smS σ k l i) (agR_le σ k l i) (σ 0 l 0)).1 y
noncomputable def r_agree (x w : Int32) (σ : ST) : Value := .int (gd (tk σ x ∧ tk σ w) (nI (agR σ x.toNatClampNeg w.toNatClampNeg (σ 0 x.toNatClampNeg 0) (σ 0 w.toNatClampNeg 0))) (-1))
section PAgree
variable {g : GL} {d n : Nat} {I : IM} {J : JM} {R : RM} {Q : PQ} {σ : ST}
set_option maxRecDepth 100000 in
set_option maxHeartbeats 2000000 in
theorem sx_agree (x w : Int32) : SX mX11_agree [.int x, .int w] (r_agree x w) id := by
  intro g n I J R σ Q hB hX hQ
  have hN := hX.2.2.2.1.n.1
  have hR := hX.2.2.2.1.1
  unfold r_agree at hQ
  refine E_aload_n dX11_agree_0 rfl ?_
  refine E_iload_n dX11_agree_1 rfl ?_
  refine E_callV (As := [_]) (ci := 10) (kc' := 0) (ks' := 0) (kc := 0) (ks := 0) dX11_agree_2 ok_X11_isTold w_X11_138 i_X11_isTold s_X11_isTold rfl (by decide) rfl (Nat.lt_of_lt_of_le (by decide) hN) rfl rfl rfl (Nat.le_of_ble_eq_true rfl) (Nat.le_of_ble_eq_true rfl) (Nat.le_refl _) (X_isTold (d := 899) hB hX (fun k hk e p1 => ?_) (fun z => ?_))
  · subst e
    refine E_zN_eq (a := 1) (tgt := 16) dX11_agree_5 (by decide) (by decide) (fun c5 => absurd c5 (by omega)) (fun c5 => ?_)
    refine E_aload_n dX11_agree_8 rfl ?_
    refine E_iload_n dX11_agree_9 rfl ?_
    refine E_callV (As := [_]) (ci := 10) (kc' := 0) (ks' := 0) (kc := 0) (ks := 0) dX11_agree_10 ok_X11_isTold w_X11_138 i_X11_isTold s_X11_isTold rfl (by decide) rfl (Nat.lt_of_lt_of_le (by decide) hN) rfl rfl rfl (Nat.le_of_ble_eq_true rfl) (Nat.le_of_ble_eq_true rfl) (Nat.le_refl _) (X_isTold (d := 899) hB hX (fun l hl e p2 => ?_) (fun z => ?_))
    · subst e
      have hg : tk σ (nI k) ∧ tk σ (nI l) := ⟨tk_of hk p1, tk_of hl p2⟩
      rw [gd_t hg, nI_clamp (n := k) (by omega), nI_clamp (n := l) (by omega)] at hQ
      have hX2 := hX.put 52 100 (fun y => nI (agR σ k l (σ 0 k 0) y)) (by omega)
      have hq := hQ (put I 52 100 (fun y => nI (agR σ k l (σ 0 k 0) y))) J hX2 (fun a a1 _ => put_o I 52 100 _ (by omega)) (fun a a1 _ => put_o I 52 100 _ (by omega))
      have bk := hB.1 k hk
      have bl := hB.1 l hl
      have L : ∀ i, i ≤ (σ 0 k 0) → E g mX11_agree 900 0 0 44 [.ref 0, .int (nI k), .int (nI l), .ref (54 + 5 * k), .ref (54 + 5 * l), .int (nI i), jk, jk, jk, jk] [] n (put I 52 100 (fun y => nI (agR σ k l i y))) J R Q := by
        refine loopU (σ 0 k 0) ?_ (fun i hi ihi => ?_)
        · have hX := hX.put 52 100 (fun y => nI (agR σ k l (σ 0 k 0) y)) (by omega)
          refine E_iload dX11_agree_44 rfl ?_
          refine E_aload_n dX11_agree_46 rfl ?_
          refine E_getI dX11_agree_47 f_X11_187 (LYw k (by first | assumption | omega)).1 (by first | assumption | omega) rfl ?_
          refine E.top ((hX.1 k (by first | assumption | omega)).1) ?_
          refine E_cN_ge (a := σ 0 k 0) (b := σ 0 k 0) (tgt := 172) dX11_agree_50 (by omega) (by omega) (by decide) (fun c50 => ?_) (fun c50 => absurd c50 (by omega))
          refine E_aload_n dX11_agree_172 rfl ?_
          refine E_getR dX11_agree_173 f_X11_79 rfl (Nat.lt_of_lt_of_le (by decide) hN) rfl (hR _ _ _ rfl) ?_
          refine E_aload dX11_agree_176 rfl ?_
          refine E_getI dX11_agree_178 f_X11_187 (LYw l (by first | assumption | omega)).1 (by first | assumption | omega) rfl ?_
          refine E.top ((hX.1 l (by first | assumption | omega)).1) ?_
          refine E_ialdN dX11_agree_181 rfl (Nat.lt_of_lt_of_le (by decide) hN) (by first | assumption | omega) ?_
          refine E.top (put_r I (fun y => nI (agR σ k l (σ 0 k 0) y)) (by omega)) ?_
          exact E_iret dX11_agree_182 rfl (hq)
        · have L2 : ∀ j, j ≤ (σ 0 l 0) → E g mX11_agree 900 0 0 59 [.ref 0, .int (nI k), .int (nI l), .ref (54 + 5 * k), .ref (54 + 5 * l), .int (nI i), .int (nI ((agJ (smS σ k l i) (agR σ k l i) j).2)), .int (nI j), jk, jk] [] n (put I 52 100 (fun y => nI ((agJ (smS σ k l i) (agR σ k l i) j).1 y))) J R Q := by
            refine loopU (σ 0 l 0) ?_ (fun j hj ih => ?_)
            · have hX := hX.put 52 100 (fun y => nI ((agJ (smS σ k l i) (agR σ k l i) (σ 0 l 0)).1 y)) (by omega)
              refine E_iload dX11_agree_59 rfl ?_
              refine E_aload dX11_agree_61 rfl ?_
              refine E_getI dX11_agree_63 f_X11_187 (LYw l (by first | assumption | omega)).1 (by first | assumption | omega) rfl ?_
              refine E.top ((hX.1 l (by first | assumption | omega)).1) ?_
              refine E_cN_ge (a := σ 0 l 0) (b := σ 0 l 0) (tgt := 166) dX11_agree_66 (by omega) (by omega) (by decide) (fun c66 => ?_) (fun c66 => absurd c66 (by omega))
              refine E_incN dX11_agree_166 rfl ?_
              refine E_goto (tgt := 44) dX11_agree_169 (by decide) ?_
              refine E.mask [true, true, true, true, true, true, false, false, false, false] ?_
              exact ihi
            · have hX := hX.put 52 100 (fun y => nI ((agJ (smS σ k l i) (agR σ k l i) j).1 y)) (by omega)
              obtain ⟨a1, a2⟩ := agJ_le (smS σ k l i) (agR_le σ k l i) j
              have a3 := a1 (j + 1)
              have a4 := a1 j
              have y1 := bk.2.1 i (by omega)
              have y2 := bl.2.1 j (by omega)
              refine E_iload dX11_agree_59 rfl ?_
              refine E_aload dX11_agree_61 rfl ?_
              refine E_getI dX11_agree_63 f_X11_187 (LYw l (by first | assumption | omega)).1 (by first | assumption | omega) rfl ?_
              refine E.top ((hX.1 l (by first | assumption | omega)).1) ?_
              refine E_cN_ge (a := j) (b := σ 0 l 0) (tgt := 166) dX11_agree_66 (by omega) (by omega) (by decide) (fun c66 => absurd c66 (by omega)) (fun c66 => ?_)
              refine E_aload_n dX11_agree_69 rfl ?_
              refine E_getR dX11_agree_70 f_X11_79 rfl (Nat.lt_of_lt_of_le (by decide) hN) rfl (hR _ _ _ rfl) ?_
              refine E_iload dX11_agree_73 rfl ?_
              refine E_ic (nI 1) dX11_agree_75 (by decide) ?_
              refine E_iadd dX11_agree_76 ?_
              refine E.top (nI_add j 1) ?_
              refine E_ialdN dX11_agree_77 rfl (Nat.lt_of_lt_of_le (by decide) hN) (by first | assumption | omega) ?_
              refine E.top (put_r I (fun y => nI ((agJ (smS σ k l i) (agR σ k l i) j).1 y)) (by omega)) ?_
              refine E_istore dX11_agree_78 (Nat.le_of_ble_eq_true rfl) ?_
              refine E_aload_n dX11_agree_80 rfl ?_
              refine E_getR dX11_agree_81 f_X11_205 (LYw k (by first | assumption | omega)).1 (by first | assumption | omega) rfl (hR _ _ _ (RTw k (by first | assumption | omega)).1) ?_
              refine E_iload dX11_agree_84 rfl ?_
              refine E_ialdN dX11_agree_86 (LYw k (by first | assumption | omega)).2.1 (by first | assumption | omega) (by first | assumption | omega) ?_
              refine E.top (((hX.1 k (by first | assumption | omega)).2.2.1 i (by first | assumption | omega)).1) ?_
              refine E_aload dX11_agree_87 rfl ?_
              refine E_getR dX11_agree_89 f_X11_205 (LYw l (by first | assumption | omega)).1 (by first | assumption | omega) rfl (hR _ _ _ (RTw l (by first | assumption | omega)).1) ?_
              refine E_iload dX11_agree_92 rfl ?_
              refine E_ialdN dX11_agree_94 (LYw l (by first | assumption | omega)).2.1 (by first | assumption | omega) (by first | assumption | omega) ?_
              refine E.top (((hX.1 l (by first | assumption | omega)).2.2.1 j (by first | assumption | omega)).1) ?_
              refine E_cN_ne (a := σ 1 k i) (b := σ 1 l j) (tgt := 120) dX11_agree_95 (by omega) (by omega) (by decide) (fun c95 => ?_) (fun c95 => ?_)
              · have hs : ¬ smS σ k l i j := fun q => by first | exact c95 q.1 | exact c113 q.2
                refine E_ic (nI 0) dX11_agree_120 (by decide) ?_
                refine E_istore dX11_agree_121 (Nat.le_of_ble_eq_true rfl) ?_
                refine E_aload_n dX11_agree_123 rfl ?_
                refine E_getR dX11_agree_124 f_X11_79 rfl (Nat.lt_of_lt_of_le (by decide) hN) rfl (hR _ _ _ rfl) ?_
                refine E_iload dX11_agree_127 rfl ?_
                refine E_ic (nI 1) dX11_agree_129 (by decide) ?_
                refine E_iadd dX11_agree_130 ?_
                refine E.top (nI_add j 1) ?_
                refine E_iload dX11_agree_131 rfl ?_
                refine E_zN_eq (a := 0) (tgt := 143) dX11_agree_133 (by decide) (by decide) (fun c133 => ?_) (fun c133 => absurd c133 (by omega))
                refine E_iload dX11_agree_143 rfl ?_
                refine E_aload_n dX11_agree_145 rfl ?_
                refine E_getR dX11_agree_146 f_X11_79 rfl (Nat.lt_of_lt_of_le (by decide) hN) rfl (hR _ _ _ rfl) ?_
                refine E_iload dX11_agree_149 rfl ?_
                refine E_ialdN dX11_agree_151 rfl (Nat.lt_of_lt_of_le (by decide) hN) (by first | assumption | omega) ?_
                refine E.top (put_r I (fun y => nI ((agJ (smS σ k l i) (agR σ k l i) j).1 y)) (by omega)) ?_
                refine E_mmax dX11_agree_152 w_X11_243 (Nat.le_of_ble_eq_true rfl) (by omega) ?_
                refine E.top (nI_max ((agJ (smS σ k l i) (agR σ k l i) j).1 (j + 1)) ((agJ (smS σ k l i) (agR σ k l i) j).1 j) (by omega) (by omega)) ?_
                refine E_iastN dX11_agree_155 rfl (Nat.lt_of_lt_of_le (by decide) hN) (by omega) ?_
                refine E.mem (put_s (f' := (fun y => nI ((agJ (smS σ k l i) (agR σ k l i) (j + 1)).1 y))) I _ (by omega) (fun y hy => agJ_f hs y)) ?_
                refine E_iload dX11_agree_156 rfl ?_
                refine E_istore dX11_agree_158 (Nat.le_of_ble_eq_true rfl) ?_
                refine E_incN dX11_agree_160 rfl ?_
                refine E_goto (tgt := 59) dX11_agree_163 (by decide) ?_
                refine E.mask [true, true, true, true, true, true, true, true, false, false] ?_
                exact ih
              · refine E_aload_n dX11_agree_98 rfl ?_
                refine E_getR dX11_agree_99 f_X11_208 (LYw k (by first | assumption | omega)).1 (by first | assumption | omega) rfl (hR _ _ _ (RTw k (by first | assumption | omega)).2.1) ?_
                refine E_iload dX11_agree_102 rfl ?_
                refine E_ialdN dX11_agree_104 (LYw k (by first | assumption | omega)).2.2.1 (by first | assumption | omega) (by first | assumption | omega) ?_
                refine E.top (((hX.1 k (by first | assumption | omega)).2.2.1 i (by first | assumption | omega)).2) ?_
                refine E_aload dX11_agree_105 rfl ?_
                refine E_getR dX11_agree_107 f_X11_208 (LYw l (by first | assumption | omega)).1 (by first | assumption | omega) rfl (hR _ _ _ (RTw l (by first | assumption | omega)).2.1) ?_
                refine E_iload dX11_agree_110 rfl ?_
                refine E_ialdN dX11_agree_112 (LYw l (by first | assumption | omega)).2.2.1 (by first | assumption | omega) (by first | assumption | omega) ?_
                refine E.top (((hX.1 l (by first | assumption | omega)).2.2.1 j (by first | assumption | omega)).2) ?_
                refine E_cN_ne (a := σ 2 k i) (b := σ 2 l j) (tgt := 120) dX11_agree_113 (by omega) (by omega) (by decide) (fun c113 => ?_) (fun c113 => ?_)
                · have hs : ¬ smS σ k l i j := fun q => by first | exact c95 q.1 | exact c113 q.2
                  refine E_ic (nI 0) dX11_agree_120 (by decide) ?_
                  refine E_istore dX11_agree_121 (Nat.le_of_ble_eq_true rfl) ?_
                  refine E_aload_n dX11_agree_123 rfl ?_
                  refine E_getR dX11_agree_124 f_X11_79 rfl (Nat.lt_of_lt_of_le (by decide) hN) rfl (hR _ _ _ rfl) ?_
                  refine E_iload dX11_agree_127 rfl ?_
                  refine E_ic (nI 1) dX11_agree_129 (by decide) ?_
                  refine E_iadd dX11_agree_130 ?_
                  refine E.top (nI_add j 1) ?_
                  refine E_iload dX11_agree_131 rfl ?_
                  refine E_zN_eq (a := 0) (tgt := 143) dX11_agree_133 (by decide) (by decide) (fun c133 => ?_) (fun c133 => absurd c133 (by omega))
                  refine E_iload dX11_agree_143 rfl ?_
                  refine E_aload_n dX11_agree_145 rfl ?_
                  refine E_getR dX11_agree_146 f_X11_79 rfl (Nat.lt_of_lt_of_le (by decide) hN) rfl (hR _ _ _ rfl) ?_
                  refine E_iload dX11_agree_149 rfl ?_
                  refine E_ialdN dX11_agree_151 rfl (Nat.lt_of_lt_of_le (by decide) hN) (by first | assumption | omega) ?_
                  refine E.top (put_r I (fun y => nI ((agJ (smS σ k l i) (agR σ k l i) j).1 y)) (by omega)) ?_
                  refine E_mmax dX11_agree_152 w_X11_243 (Nat.le_of_ble_eq_true rfl) (by omega) ?_
                  refine E.top (nI_max ((agJ (smS σ k l i) (agR σ k l i) j).1 (j + 1)) ((agJ (smS σ k l i) (agR σ k l i) j).1 j) (by omega) (by omega)) ?_
                  refine E_iastN dX11_agree_155 rfl (Nat.lt_of_lt_of_le (by decide) hN) (by omega) ?_
                  refine E.mem (put_s (f' := (fun y => nI ((agJ (smS σ k l i) (agR σ k l i) (j + 1)).1 y))) I _ (by omega) (fun y hy => agJ_f hs y)) ?_
                  refine E_iload dX11_agree_156 rfl ?_
                  refine E_istore dX11_agree_158 (Nat.le_of_ble_eq_true rfl) ?_
                  refine E_incN dX11_agree_160 rfl ?_
                  refine E_goto (tgt := 59) dX11_agree_163 (by decide) ?_
                  refine E.mask [true, true, true, true, true, true, true, true, false, false] ?_
                  exact ih
                · have hs : smS σ k l i j := ⟨c95, c113⟩
                  refine E_ic (nI 1) dX11_agree_116 (by decide) ?_
                  refine E_goto (tgt := 121) dX11_agree_117 (by decide) ?_
                  refine E_istore dX11_agree_121 (Nat.le_of_ble_eq_true rfl) ?_
                  refine E_aload_n dX11_agree_123 rfl ?_
                  refine E_getR dX11_agree_124 f_X11_79 rfl (Nat.lt_of_lt_of_le (by decide) hN) rfl (hR _ _ _ rfl) ?_
                  refine E_iload dX11_agree_127 rfl ?_
                  refine E_ic (nI 1) dX11_agree_129 (by decide) ?_
                  refine E_iadd dX11_agree_130 ?_
                  refine E.top (nI_add j 1) ?_
                  refine E_iload dX11_agree_131 rfl ?_
                  refine E_zN_eq (a := 1) (tgt := 143) dX11_agree_133 (by decide) (by decide) (fun c133 => absurd c133 (by omega)) (fun c133 => ?_)
                  refine E_iload dX11_agree_136 rfl ?_
                  refine E_ic (nI 1) dX11_agree_138 (by decide) ?_
                  refine E_iadd dX11_agree_139 ?_
                  refine E.top (nI_add ((agJ (smS σ k l i) (agR σ k l i) j).2) 1) ?_
                  refine E_goto (tgt := 155) dX11_agree_140 (by decide) ?_
                  refine E_iastN dX11_agree_155 rfl (Nat.lt_of_lt_of_le (by decide) hN) (by omega) ?_
                  refine E.mem (put_s (f' := (fun y => nI ((agJ (smS σ k l i) (agR σ k l i) (j + 1)).1 y))) I _ (by omega) (fun y hy => agJ_t hs y)) ?_
                  refine E_iload dX11_agree_156 rfl ?_
                  refine E_istore dX11_agree_158 (Nat.le_of_ble_eq_true rfl) ?_
                  refine E_incN dX11_agree_160 rfl ?_
                  refine E_goto (tgt := 59) dX11_agree_163 (by decide) ?_
                  refine E.mask [true, true, true, true, true, true, true, true, false, false] ?_
                  exact ih
          have hX := hX.put 52 100 (fun y => nI (agR σ k l i y)) (by omega)
          refine E_iload dX11_agree_44 rfl ?_
          refine E_aload_n dX11_agree_46 rfl ?_
          refine E_getI dX11_agree_47 f_X11_187 (LYw k (by first | assumption | omega)).1 (by first | assumption | omega) rfl ?_
          refine E.top ((hX.1 k (by first | assumption | omega)).1) ?_
          refine E_cN_ge (a := i) (b := σ 0 k 0) (tgt := 172) dX11_agree_50 (by omega) (by omega) (by decide) (fun c50 => absurd c50 (by omega)) (fun c50 => ?_)
          refine E_ic (nI 0) dX11_agree_53 (by decide) ?_
          refine E_istore dX11_agree_54 (Nat.le_of_ble_eq_true rfl) ?_
          refine E_ic (nI 0) dX11_agree_56 (by decide) ?_
          refine E_istore dX11_agree_57 (Nat.le_of_ble_eq_true rfl) ?_
          exact L2 0 (Nat.zero_le _)
      refine E_zN_ne (a := 1) (tgt := 18) dX11_agree_13 (by decide) (by decide) (fun c13 => ?_) (fun c13 => absurd c13 (by omega))
      refine E_aload_n dX11_agree_18 rfl ?_
      refine E_getR dX11_agree_19 f_X11_11 rfl (Nat.lt_of_lt_of_le (by decide) hN) rfl (hR _ _ _ rfl) ?_
      refine E_iload_n dX11_agree_22 rfl ?_
      refine E_aaldN dX11_agree_23 rfl (Nat.lt_of_lt_of_le (by decide) hN) (by first | assumption | omega) (hR _ _ _ (RT1 k (by first | assumption | omega))) ?_
      refine E_astore_n dX11_agree_24 (Nat.le_of_ble_eq_true rfl) ?_
      refine E_aload_n dX11_agree_25 rfl ?_
      refine E_getR dX11_agree_26 f_X11_11 rfl (Nat.lt_of_lt_of_le (by decide) hN) rfl (hR _ _ _ rfl) ?_
      refine E_iload_n dX11_agree_29 rfl ?_
      refine E_aaldN dX11_agree_30 rfl (Nat.lt_of_lt_of_le (by decide) hN) (by first | assumption | omega) (hR _ _ _ (RT1 l (by first | assumption | omega))) ?_
      refine E_astore dX11_agree_31 (Nat.le_of_ble_eq_true rfl) ?_
      refine E_aload_n dX11_agree_33 rfl ?_
      refine E_getR dX11_agree_34 f_X11_79 rfl (Nat.lt_of_lt_of_le (by decide) hN) rfl (hR _ _ _ rfl) ?_
      refine E_ic (nI 0) dX11_agree_37 (by decide) ?_
      refine E_callS (As := [_, _]) (kc' := 0) (ks' := 0) (kc := 0) (ks := 0) dX11_agree_38 ok_J7_fill_53178 w_X11_238 st_J7_fill_53178 rfl rfl rfl (Nat.le_of_ble_eq_true rfl) (Nat.le_of_ble_eq_true rfl) (Nat.le_refl _) (c_fillI (L := 100) rfl (Nat.lt_of_lt_of_le (by decide) hN) ?_)
      refine E.mem (put_fil I 52 100 (nI 0) (f := (fun y => nI (agR σ k l 0 y))) (fun _ => rfl)) ?_
      refine E_ic (nI 0) dX11_agree_41 (by decide) ?_
      refine E_istore dX11_agree_42 (Nat.le_of_ble_eq_true rfl) ?_
      exact L 0 (Nat.zero_le _)
    · rw [gd_f (fun y => z y.2)] at hQ
      have hq := hQ I J hX (fun _ _ _ => rfl) (fun _ _ _ => rfl)
      refine E_zN_ne (a := 0) (tgt := 18) dX11_agree_13 (by decide) (by decide) (fun c13 => absurd c13 (by omega)) (fun c13 => ?_)
      refine E_ic (-1) dX11_agree_16 (by decide) ?_
      exact E_iret dX11_agree_17 rfl (hq)
  · rw [gd_f (fun y => z y.1)] at hQ
    have hq := hQ I J hX (fun _ _ _ => rfl) (fun _ _ _ => rfl)
    refine E_zN_eq (a := 0) (tgt := 16) dX11_agree_5 (by decide) (by decide) (fun c5 => ?_) (fun c5 => absurd c5 (by omega))
    refine E_ic (-1) dX11_agree_16 (by decide) ?_
    exact E_iret dX11_agree_17 rfl (hq)
set_option maxRecDepth 100000 in
set_option maxHeartbeats 2000000 in
theorem m_max {a b : Nat} (ha : a < 2 ^ 31) (hb : b < 2 ^ 31) (hQ : Q (some (.int (nI (max a b)))) n I J R) : E g mX12_max d 0 0 0 (ent 2 [.int (nI a), .int (nI b)]) [] n I J R Q := by
  refine E_iload_n dX12_max_0 rfl ?_
  refine E_iload_n dX12_max_1 rfl ?_
  refine E_cN_le (a := a) (b := b) (tgt := 9) dX12_max_2 (by omega) (by omega) (by decide) (fun c2 => ?_) (fun c2 => ?_)
  · refine E_iload_n dX12_max_9 rfl ?_
    exact E_iret dX12_max_10 rfl (by first | (rw [Nat.max_eq_left (by omega)] at hQ; exact hQ) | (rw [Nat.max_eq_right (by omega)] at hQ; exact hQ))
  · refine E_iload_n dX12_max_5 rfl ?_
    refine E_goto (tgt := 10) dX12_max_6 (by decide) ?_
    exact E_iret dX12_max_10 rfl (by first | (rw [Nat.max_eq_left (by omega)] at hQ; exact hQ) | (rw [Nat.max_eq_right (by omega)] at hQ; exact hQ))
set_option maxRecDepth 100000 in
set_option maxHeartbeats 2000000 in
theorem sm_agree (x w : Int32) : SM mX12_agree [.int x, .int w] (r_agree x w) id := by
  intro g n I J R σ Q hB hM hN hR hQ
  unfold r_agree at hQ
  refine E_aload_n dX12_agree_0 rfl ?_
  refine E_iload_n dX12_agree_1 rfl ?_
  refine E_callV (As := [_]) (ci := 11) (kc' := 0) (ks' := 0) (kc := 0) (ks := 0) dX12_agree_2 ok_X12_isTold w_X12_340 i_X12_isTold s_X12_isTold rfl (by decide) rfl (Nat.lt_of_lt_of_le (by decide) hN) rfl rfl rfl (Nat.le_of_ble_eq_true rfl) (Nat.le_of_ble_eq_true rfl) (Nat.le_refl _) (M_isTold (d := 898) hB hM hN hR (fun k hk e p1 => ?_) (fun z => ?_))
  · subst e
    refine E_zN_eq (a := 1) (tgt := 16) dX12_agree_5 (by decide) (by decide) (fun c5 => absurd c5 (by omega)) (fun c5 => ?_)
    refine E_aload_n dX12_agree_8 rfl ?_
    refine E_iload_n dX12_agree_9 rfl ?_
    refine E_callV (As := [_]) (ci := 11) (kc' := 0) (ks' := 0) (kc := 0) (ks := 0) dX12_agree_10 ok_X12_isTold w_X12_340 i_X12_isTold s_X12_isTold rfl (by decide) rfl (Nat.lt_of_lt_of_le (by decide) hN) rfl rfl rfl (Nat.le_of_ble_eq_true rfl) (Nat.le_of_ble_eq_true rfl) (Nat.le_refl _) (M_isTold (d := 898) hB hM hN hR (fun l hl e p2 => ?_) (fun z => ?_))
    · subst e
      have hg : tk σ (nI k) ∧ tk σ (nI l) := ⟨tk_of hk p1, tk_of hl p2⟩
      rw [gd_t hg, nI_clamp (n := k) (by omega), nI_clamp (n := l) (by omega)] at hQ
      have hM2 := hM.put 142 25 (fun y => nI (agR σ k l (σ 0 k 0) y)) (by omega)
      have hq := hQ (put I 142 25 (fun y => nI (agR σ k l (σ 0 k 0) y))) J hM2 (fun a a1 => put_o I 142 25 _ (by omega)) (by rw [put_o I 142 25 _ (by decide)]) (fun a a1 _ => put_o I 142 25 _ (by omega))
      have bk := hB.1 k hk
      have bl := hB.1 l hl
      have L : ∀ i, i ≤ (σ 0 k 0) → E g mX12_agree 900 0 0 41 [.ref 114, .int (nI k), .int (nI l), .int (nI i), jk, jk, jk, jk] [] n (put I 142 25 (fun y => nI (agR σ k l i y))) J R Q := by
        refine loopU (σ 0 k 0) ?_ (fun i hi ihi => ?_)
        · have hM := hM.put 142 25 (fun y => nI (agR σ k l (σ 0 k 0) y)) (by omega)
          refine E_iload_n dX12_agree_41 rfl ?_
          refine E_aload_n dX12_agree_42 rfl ?_
          refine E_getR dX12_agree_43 f_X12_19 rfl (Nat.lt_of_lt_of_le (by decide) hN) rfl (hR _ _ _ rfl) ?_
          refine E_iload_n dX12_agree_46 rfl ?_
          refine E_ialdN dX12_agree_47 rfl (Nat.lt_of_lt_of_le (by decide) hN) (by first | assumption | omega) ?_
          refine E.top ((hM.1 k (by first | assumption | omega)).1) ?_
          refine E_cN_ge (a := σ 0 k 0) (b := σ 0 k 0) (tgt := 190) dX12_agree_48 (by omega) (by omega) (by decide) (fun c48 => ?_) (fun c48 => absurd c48 (by omega))
          refine E_aload_n dX12_agree_190 rfl ?_
          refine E_getR dX12_agree_191 f_X12_93 rfl (Nat.lt_of_lt_of_le (by decide) hN) rfl (hR _ _ _ rfl) ?_
          refine E_aload_n dX12_agree_194 rfl ?_
          refine E_getR dX12_agree_195 f_X12_19 rfl (Nat.lt_of_lt_of_le (by decide) hN) rfl (hR _ _ _ rfl) ?_
          refine E_iload_n dX12_agree_198 rfl ?_
          refine E_ialdN dX12_agree_199 rfl (Nat.lt_of_lt_of_le (by decide) hN) (by first | assumption | omega) ?_
          refine E.top ((hM.1 l (by first | assumption | omega)).1) ?_
          refine E_ialdN dX12_agree_200 rfl (Nat.lt_of_lt_of_le (by decide) hN) (by first | assumption | omega) ?_
          refine E.top (put_r I (fun y => nI (agR σ k l (σ 0 k 0) y)) (by omega)) ?_
          exact E_iret dX12_agree_201 rfl (hq)
        · have L2 : ∀ j, j ≤ (σ 0 l 0) → E g mX12_agree 900 0 0 57 [.ref 114, .int (nI k), .int (nI l), .int (nI i), .int (nI ((agJ (smS σ k l i) (agR σ k l i) j).2)), .int (nI j), jk, jk] [] n (put I 142 25 (fun y => nI ((agJ (smS σ k l i) (agR σ k l i) j).1 y))) J R Q := by
            refine loopU (σ 0 l 0) ?_ (fun j hj ih => ?_)
            · have hM := hM.put 142 25 (fun y => nI ((agJ (smS σ k l i) (agR σ k l i) (σ 0 l 0)).1 y)) (by omega)
              refine E_iload dX12_agree_57 rfl ?_
              refine E_aload_n dX12_agree_59 rfl ?_
              refine E_getR dX12_agree_60 f_X12_19 rfl (Nat.lt_of_lt_of_le (by decide) hN) rfl (hR _ _ _ rfl) ?_
              refine E_iload_n dX12_agree_63 rfl ?_
              refine E_ialdN dX12_agree_64 rfl (Nat.lt_of_lt_of_le (by decide) hN) (by first | assumption | omega) ?_
              refine E.top ((hM.1 l (by first | assumption | omega)).1) ?_
              refine E_cN_ge (a := σ 0 l 0) (b := σ 0 l 0) (tgt := 184) dX12_agree_65 (by omega) (by omega) (by decide) (fun c65 => ?_) (fun c65 => absurd c65 (by omega))
              refine E_incN dX12_agree_184 rfl ?_
              refine E_goto (tgt := 41) dX12_agree_187 (by decide) ?_
              refine E.mask [true, true, true, true, false, false, false, false] ?_
              exact ihi
            · have hM := hM.put 142 25 (fun y => nI ((agJ (smS σ k l i) (agR σ k l i) j).1 y)) (by omega)
              obtain ⟨a1, a2⟩ := agJ_le (smS σ k l i) (agR_le σ k l i) j
              have a3 := a1 (j + 1)
              have a4 := a1 j
              have y1 := bk.2.1 i (by omega)
              have y2 := bl.2.1 j (by omega)
              refine E_iload dX12_agree_57 rfl ?_
              refine E_aload_n dX12_agree_59 rfl ?_
              refine E_getR dX12_agree_60 f_X12_19 rfl (Nat.lt_of_lt_of_le (by decide) hN) rfl (hR _ _ _ rfl) ?_
              refine E_iload_n dX12_agree_63 rfl ?_
              refine E_ialdN dX12_agree_64 rfl (Nat.lt_of_lt_of_le (by decide) hN) (by first | assumption | omega) ?_
              refine E.top ((hM.1 l (by first | assumption | omega)).1) ?_
              refine E_cN_ge (a := j) (b := σ 0 l 0) (tgt := 184) dX12_agree_65 (by omega) (by omega) (by decide) (fun c65 => absurd c65 (by omega)) (fun c65 => ?_)
              refine E_aload_n dX12_agree_68 rfl ?_
              refine E_getR dX12_agree_69 f_X12_93 rfl (Nat.lt_of_lt_of_le (by decide) hN) rfl (hR _ _ _ rfl) ?_
              refine E_iload dX12_agree_72 rfl ?_
              refine E_ic (nI 1) dX12_agree_74 (by decide) ?_
              refine E_iadd dX12_agree_75 ?_
              refine E.top (nI_add j 1) ?_
              refine E_ialdN dX12_agree_76 rfl (Nat.lt_of_lt_of_le (by decide) hN) (by first | assumption | omega) ?_
              refine E.top (put_r I (fun y => nI ((agJ (smS σ k l i) (agR σ k l i) j).1 y)) (by omega)) ?_
              refine E_istore dX12_agree_77 (Nat.le_of_ble_eq_true rfl) ?_
              refine E_aload_n dX12_agree_79 rfl ?_
              refine E_getR dX12_agree_80 f_X12_22 rfl (Nat.lt_of_lt_of_le (by decide) hN) rfl (hR _ _ _ rfl) ?_
              refine E_iload_n dX12_agree_83 rfl ?_
              refine E_iload_n dX12_agree_84 rfl ?_
              refine E_callS (As := [_, _]) (kc' := 0) (ks' := 0) (kc := 0) (ks := 0) dX12_agree_85 ok_X12_at w_X12_280 st_X12_at rfl rfl rfl (Nat.le_of_ble_eq_true rfl) (Nat.le_of_ble_eq_true rfl) (Nat.le_refl _) (m_at ?_)
              refine E_ialdN dX12_agree_88 rfl (Nat.lt_of_lt_of_le (by decide) hN) (by first | assumption | omega) ?_
              refine E.top (((hM.1 k (by first | assumption | omega)).2 i (by first | assumption | omega)).1) ?_
              refine E_aload_n dX12_agree_89 rfl ?_
              refine E_getR dX12_agree_90 f_X12_22 rfl (Nat.lt_of_lt_of_le (by decide) hN) rfl (hR _ _ _ rfl) ?_
              refine E_iload_n dX12_agree_93 rfl ?_
              refine E_iload dX12_agree_94 rfl ?_
              refine E_callS (As := [_, _]) (kc' := 0) (ks' := 0) (kc := 0) (ks := 0) dX12_agree_96 ok_X12_at w_X12_280 st_X12_at rfl rfl rfl (Nat.le_of_ble_eq_true rfl) (Nat.le_of_ble_eq_true rfl) (Nat.le_refl _) (m_at ?_)
              refine E_ialdN dX12_agree_99 rfl (Nat.lt_of_lt_of_le (by decide) hN) (by first | assumption | omega) ?_
              refine E.top (((hM.1 l (by first | assumption | omega)).2 j (by first | assumption | omega)).1) ?_
              refine E_cN_ne (a := σ 1 k i) (b := σ 1 l j) (tgt := 131) dX12_agree_100 (by omega) (by omega) (by decide) (fun c100 => ?_) (fun c100 => ?_)
              · have hs : ¬ smS σ k l i j := fun q => by first | exact c100 q.1 | exact c124 q.2
                refine E_ic (nI 0) dX12_agree_131 (by decide) ?_
                refine E_istore dX12_agree_132 (Nat.le_of_ble_eq_true rfl) ?_
                refine E_aload_n dX12_agree_134 rfl ?_
                refine E_getR dX12_agree_135 f_X12_93 rfl (Nat.lt_of_lt_of_le (by decide) hN) rfl (hR _ _ _ rfl) ?_
                refine E_iload dX12_agree_138 rfl ?_
                refine E_ic (nI 1) dX12_agree_140 (by decide) ?_
                refine E_iadd dX12_agree_141 ?_
                refine E.top (nI_add j 1) ?_
                refine E_iload dX12_agree_142 rfl ?_
                refine E_zN_eq (a := 0) (tgt := 154) dX12_agree_144 (by decide) (by decide) (fun c144 => ?_) (fun c144 => absurd c144 (by omega))
                refine E_aload_n dX12_agree_154 rfl ?_
                refine E_getR dX12_agree_155 f_X12_93 rfl (Nat.lt_of_lt_of_le (by decide) hN) rfl (hR _ _ _ rfl) ?_
                refine E_iload dX12_agree_158 rfl ?_
                refine E_ic (nI 1) dX12_agree_160 (by decide) ?_
                refine E_iadd dX12_agree_161 ?_
                refine E.top (nI_add j 1) ?_
                refine E_ialdN dX12_agree_162 rfl (Nat.lt_of_lt_of_le (by decide) hN) (by first | assumption | omega) ?_
                refine E.top (put_r I (fun y => nI ((agJ (smS σ k l i) (agR σ k l i) j).1 y)) (by omega)) ?_
                refine E_aload_n dX12_agree_163 rfl ?_
                refine E_getR dX12_agree_164 f_X12_93 rfl (Nat.lt_of_lt_of_le (by decide) hN) rfl (hR _ _ _ rfl) ?_
                refine E_iload dX12_agree_167 rfl ?_
                refine E_ialdN dX12_agree_169 rfl (Nat.lt_of_lt_of_le (by decide) hN) (by first | assumption | omega) ?_
                refine E.top (put_r I (fun y => nI ((agJ (smS σ k l i) (agR σ k l i) j).1 y)) (by omega)) ?_
                refine E_callS (As := [_, _]) (kc' := 0) (ks' := 0) (kc := 0) (ks := 0) dX12_agree_170 ok_X12_max w_X12_298 st_X12_max rfl rfl rfl (Nat.le_of_ble_eq_true rfl) (Nat.le_of_ble_eq_true rfl) (Nat.le_refl _) (m_max (by omega) (by omega) ?_)
                refine E_iastN dX12_agree_173 rfl (Nat.lt_of_lt_of_le (by decide) hN) (by omega) ?_
                refine E.mem (put_s (f' := (fun y => nI ((agJ (smS σ k l i) (agR σ k l i) (j + 1)).1 y))) I _ (by omega) (fun y hy => agJ_f hs y)) ?_
                refine E_iload dX12_agree_174 rfl ?_
                refine E_istore dX12_agree_176 (Nat.le_of_ble_eq_true rfl) ?_
                refine E_incN dX12_agree_178 rfl ?_
                refine E_goto (tgt := 57) dX12_agree_181 (by decide) ?_
                refine E.mask [true, true, true, true, true, true, false, false] ?_
                exact ih
              · refine E_aload_n dX12_agree_103 rfl ?_
                refine E_getR dX12_agree_104 f_X12_25 rfl (Nat.lt_of_lt_of_le (by decide) hN) rfl (hR _ _ _ rfl) ?_
                refine E_iload_n dX12_agree_107 rfl ?_
                refine E_iload_n dX12_agree_108 rfl ?_
                refine E_callS (As := [_, _]) (kc' := 0) (ks' := 0) (kc := 0) (ks := 0) dX12_agree_109 ok_X12_at w_X12_280 st_X12_at rfl rfl rfl (Nat.le_of_ble_eq_true rfl) (Nat.le_of_ble_eq_true rfl) (Nat.le_refl _) (m_at ?_)
                refine E_ialdN dX12_agree_112 rfl (Nat.lt_of_lt_of_le (by decide) hN) (by first | assumption | omega) ?_
                refine E.top (((hM.1 k (by first | assumption | omega)).2 i (by first | assumption | omega)).2) ?_
                refine E_aload_n dX12_agree_113 rfl ?_
                refine E_getR dX12_agree_114 f_X12_25 rfl (Nat.lt_of_lt_of_le (by decide) hN) rfl (hR _ _ _ rfl) ?_
                refine E_iload_n dX12_agree_117 rfl ?_
                refine E_iload dX12_agree_118 rfl ?_
                refine E_callS (As := [_, _]) (kc' := 0) (ks' := 0) (kc := 0) (ks := 0) dX12_agree_120 ok_X12_at w_X12_280 st_X12_at rfl rfl rfl (Nat.le_of_ble_eq_true rfl) (Nat.le_of_ble_eq_true rfl) (Nat.le_refl _) (m_at ?_)
                refine E_ialdN dX12_agree_123 rfl (Nat.lt_of_lt_of_le (by decide) hN) (by first | assumption | omega) ?_
                refine E.top (((hM.1 l (by first | assumption | omega)).2 j (by first | assumption | omega)).2) ?_
                refine E_cN_ne (a := σ 2 k i) (b := σ 2 l j) (tgt := 131) dX12_agree_124 (by omega) (by omega) (by decide) (fun c124 => ?_) (fun c124 => ?_)
                · have hs : ¬ smS σ k l i j := fun q => by first | exact c100 q.1 | exact c124 q.2
                  refine E_ic (nI 0) dX12_agree_131 (by decide) ?_
                  refine E_istore dX12_agree_132 (Nat.le_of_ble_eq_true rfl) ?_
                  refine E_aload_n dX12_agree_134 rfl ?_
                  refine E_getR dX12_agree_135 f_X12_93 rfl (Nat.lt_of_lt_of_le (by decide) hN) rfl (hR _ _ _ rfl) ?_
                  refine E_iload dX12_agree_138 rfl ?_
                  refine E_ic (nI 1) dX12_agree_140 (by decide) ?_
                  refine E_iadd dX12_agree_141 ?_
                  refine E.top (nI_add j 1) ?_
                  refine E_iload dX12_agree_142 rfl ?_
                  refine E_zN_eq (a := 0) (tgt := 154) dX12_agree_144 (by decide) (by decide) (fun c144 => ?_) (fun c144 => absurd c144 (by omega))
                  refine E_aload_n dX12_agree_154 rfl ?_
                  refine E_getR dX12_agree_155 f_X12_93 rfl (Nat.lt_of_lt_of_le (by decide) hN) rfl (hR _ _ _ rfl) ?_
                  refine E_iload dX12_agree_158 rfl ?_
                  refine E_ic (nI 1) dX12_agree_160 (by decide) ?_
                  refine E_iadd dX12_agree_161 ?_
                  refine E.top (nI_add j 1) ?_
                  refine E_ialdN dX12_agree_162 rfl (Nat.lt_of_lt_of_le (by decide) hN) (by first | assumption | omega) ?_
                  refine E.top (put_r I (fun y => nI ((agJ (smS σ k l i) (agR σ k l i) j).1 y)) (by omega)) ?_
                  refine E_aload_n dX12_agree_163 rfl ?_
                  refine E_getR dX12_agree_164 f_X12_93 rfl (Nat.lt_of_lt_of_le (by decide) hN) rfl (hR _ _ _ rfl) ?_
                  refine E_iload dX12_agree_167 rfl ?_
                  refine E_ialdN dX12_agree_169 rfl (Nat.lt_of_lt_of_le (by decide) hN) (by first | assumption | omega) ?_
                  refine E.top (put_r I (fun y => nI ((agJ (smS σ k l i) (agR σ k l i) j).1 y)) (by omega)) ?_
                  refine E_callS (As := [_, _]) (kc' := 0) (ks' := 0) (kc := 0) (ks := 0) dX12_agree_170 ok_X12_max w_X12_298 st_X12_max rfl rfl rfl (Nat.le_of_ble_eq_true rfl) (Nat.le_of_ble_eq_true rfl) (Nat.le_refl _) (m_max (by omega) (by omega) ?_)
                  refine E_iastN dX12_agree_173 rfl (Nat.lt_of_lt_of_le (by decide) hN) (by omega) ?_
                  refine E.mem (put_s (f' := (fun y => nI ((agJ (smS σ k l i) (agR σ k l i) (j + 1)).1 y))) I _ (by omega) (fun y hy => agJ_f hs y)) ?_
                  refine E_iload dX12_agree_174 rfl ?_
                  refine E_istore dX12_agree_176 (Nat.le_of_ble_eq_true rfl) ?_
                  refine E_incN dX12_agree_178 rfl ?_
                  refine E_goto (tgt := 57) dX12_agree_181 (by decide) ?_
                  refine E.mask [true, true, true, true, true, true, false, false] ?_
                  exact ih
                · have hs : smS σ k l i j := ⟨c100, c124⟩
                  refine E_ic (nI 1) dX12_agree_127 (by decide) ?_
                  refine E_goto (tgt := 132) dX12_agree_128 (by decide) ?_
                  refine E_istore dX12_agree_132 (Nat.le_of_ble_eq_true rfl) ?_
                  refine E_aload_n dX12_agree_134 rfl ?_
                  refine E_getR dX12_agree_135 f_X12_93 rfl (Nat.lt_of_lt_of_le (by decide) hN) rfl (hR _ _ _ rfl) ?_
                  refine E_iload dX12_agree_138 rfl ?_
                  refine E_ic (nI 1) dX12_agree_140 (by decide) ?_
                  refine E_iadd dX12_agree_141 ?_
                  refine E.top (nI_add j 1) ?_
                  refine E_iload dX12_agree_142 rfl ?_
                  refine E_zN_eq (a := 1) (tgt := 154) dX12_agree_144 (by decide) (by decide) (fun c144 => absurd c144 (by omega)) (fun c144 => ?_)
                  refine E_iload dX12_agree_147 rfl ?_
                  refine E_ic (nI 1) dX12_agree_149 (by decide) ?_
                  refine E_iadd dX12_agree_150 ?_
                  refine E.top (nI_add ((agJ (smS σ k l i) (agR σ k l i) j).2) 1) ?_
                  refine E_goto (tgt := 173) dX12_agree_151 (by decide) ?_
                  refine E_iastN dX12_agree_173 rfl (Nat.lt_of_lt_of_le (by decide) hN) (by omega) ?_
                  refine E.mem (put_s (f' := (fun y => nI ((agJ (smS σ k l i) (agR σ k l i) (j + 1)).1 y))) I _ (by omega) (fun y hy => agJ_t hs y)) ?_
                  refine E_iload dX12_agree_174 rfl ?_
                  refine E_istore dX12_agree_176 (Nat.le_of_ble_eq_true rfl) ?_
                  refine E_incN dX12_agree_178 rfl ?_
                  refine E_goto (tgt := 57) dX12_agree_181 (by decide) ?_
                  refine E.mask [true, true, true, true, true, true, false, false] ?_
                  exact ih
          have hM := hM.put 142 25 (fun y => nI (agR σ k l i y)) (by omega)
          refine E_iload_n dX12_agree_41 rfl ?_
          refine E_aload_n dX12_agree_42 rfl ?_
          refine E_getR dX12_agree_43 f_X12_19 rfl (Nat.lt_of_lt_of_le (by decide) hN) rfl (hR _ _ _ rfl) ?_
          refine E_iload_n dX12_agree_46 rfl ?_
          refine E_ialdN dX12_agree_47 rfl (Nat.lt_of_lt_of_le (by decide) hN) (by first | assumption | omega) ?_
          refine E.top ((hM.1 k (by first | assumption | omega)).1) ?_
          refine E_cN_ge (a := i) (b := σ 0 k 0) (tgt := 190) dX12_agree_48 (by omega) (by omega) (by decide) (fun c48 => absurd c48 (by omega)) (fun c48 => ?_)
          refine E_ic (nI 0) dX12_agree_51 (by decide) ?_
          refine E_istore dX12_agree_52 (Nat.le_of_ble_eq_true rfl) ?_
          refine E_ic (nI 0) dX12_agree_54 (by decide) ?_
          refine E_istore dX12_agree_55 (Nat.le_of_ble_eq_true rfl) ?_
          exact L2 0 (Nat.zero_le _)
      have L0 : ∀ q, q ≤ 25 → E g mX12_agree 900 0 0 20 [.ref 114, .int (nI k), .int (nI l), .int (nI q), jk, jk, jk, jk] [] n (put I 142 q (fun y => nI (agR σ k l 0 y))) J R Q := by
        refine loopU 25 ?_ (fun q hq ih => ?_)
        · refine E_iload_n dX12_agree_20 rfl ?_
          refine E_bp (nI 24) dX12_agree_21 (by decide) ?_
          refine E_cN_gt (a := 25) (b := 24) (tgt := 39) dX12_agree_23 (by decide) (by decide) (by decide) (fun c23 => ?_) (fun c23 => absurd c23 (by omega))
          refine E_ic (nI 0) dX12_agree_39 (by decide) ?_
          refine E_istore_n dX12_agree_40 (Nat.le_of_ble_eq_true rfl) ?_
          exact L 0 (Nat.zero_le _)
        · refine E_iload_n dX12_agree_20 rfl ?_
          refine E_bp (nI 24) dX12_agree_21 (by decide) ?_
          refine E_cN_gt (a := q) (b := 24) (tgt := 39) dX12_agree_23 (by omega) (by decide) (by decide) (fun c23 => absurd c23 (by omega)) (fun c23 => ?_)
          refine E_aload_n dX12_agree_26 rfl ?_
          refine E_getR dX12_agree_27 f_X12_93 rfl (Nat.lt_of_lt_of_le (by decide) hN) rfl (hR _ _ _ rfl) ?_
          refine E_iload_n dX12_agree_30 rfl ?_
          refine E_ic (nI 0) dX12_agree_31 (by decide) ?_
          refine E_iastN dX12_agree_32 rfl (Nat.lt_of_lt_of_le (by decide) hN) (by first | assumption | omega) ?_
          refine E.mem (put_g I (fun y => nI (agR σ k l 0 y)) rfl) ?_
          refine E_incN dX12_agree_33 rfl ?_
          refine E_goto (tgt := 20) dX12_agree_36 (by decide) ?_
          exact ih
      refine E_zN_ne (a := 1) (tgt := 18) dX12_agree_13 (by decide) (by decide) (fun c13 => ?_) (fun c13 => absurd c13 (by omega))
      refine E_ic (nI 0) dX12_agree_18 (by decide) ?_
      refine E_istore_n dX12_agree_19 (Nat.le_of_ble_eq_true rfl) ?_
      refine E.memE (L0 0 (by omega)) (put_0 I 142 _).symm
    · rw [gd_f (fun y => z y.2)] at hQ
      have hq := hQ I J hM (fun _ _ => rfl) rfl (fun _ _ _ => rfl)
      refine E_zN_ne (a := 0) (tgt := 18) dX12_agree_13 (by decide) (by decide) (fun c13 => absurd c13 (by omega)) (fun c13 => ?_)
      refine E_ic (-1) dX12_agree_16 (by decide) ?_
      exact E_iret dX12_agree_17 rfl (hq)
  · rw [gd_f (fun y => z y.1)] at hQ
    have hq := hQ I J hM (fun _ _ => rfl) rfl (fun _ _ _ => rfl)
    refine E_zN_eq (a := 0) (tgt := 16) dX12_agree_5 (by decide) (by decide) (fun c5 => ?_) (fun c5 => absurd c5 (by omega))
    refine E_ic (-1) dX12_agree_16 (by decide) ?_
    exact E_iret dX12_agree_17 rfl (hq)
end PAgree
