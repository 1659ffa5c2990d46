/-! ===== tasters ===== -/
abbrev tpS (σ : ST) : Nat → Nat := fun j => σ 8 j 0
def bdT (σ : ST) (m T : Nat) : Prop := ¬ ∀ j, j < T → okR (tpS σ) m (m * j) m
def gT (σ : ST) (x w v : Int32) : Prop := ∃ m T, (2 ≤ m ∧ m ≤ 6 ∧ x = nI m ∧ 1 ≤ T ∧ T ≤ 9 ∧ w = nI T ∧ m * T ≤ σ 9 0 0) ∧ plS v m
noncomputable def r_tasters (x w v : Int32) (σ : ST) : Value := .int (gd (gT σ x w v) (gd (bdT σ x.toNatClampNeg w.toNatClampNeg) (-3) (if v = nI 100 then nI (rtS (tcS (tpS σ) x.toNatClampNeg w.toNatClampNeg) x.toNatClampNeg 0) else nI (pthS (tcS (tpS σ) x.toNatClampNeg w.toNatClampNeg) (rtS (tcS (tpS σ) x.toNatClampNeg w.toNatClampNeg) x.toNatClampNeg) x.toNatClampNeg (v.toNatClampNeg + 1)).2)) (-1))
noncomputable def u_tasters (x w v : Int32) (σ : ST) : ST := gd (gT σ x w v) (u0 σ) σ
theorem b_tasters (x w v : Int32) : ∀ σ, BND σ → BND (u_tasters x w v σ) := by
  intro σ h
  unfold u_tasters
  by_cases c : gT σ x w v
  · rw [gd_t c]
    exact u0_B h
  · rw [gd_f c]
    exact h
section PTasters
variable {g : GL} {d n : Nat} {I : IM} {J : JM} {R : RM} {Q : PQ} {σ : ST}
set_option maxRecDepth 100000 in
set_option maxHeartbeats 2000000 in
theorem x_hearOne {m j : Nat} {A : Nat → Nat → Nat} (hN : 152 ≤ n) (hR : RS R) (hB : BND σ) (hT : TX σ I) (hw : I 40 3 = nI m) (hm1 : 1 ≤ m) (hm : m ≤ 6) (hj : m * j + m ≤ σ 9 0 0) (hA : ∀ o w, o < m → w < m → I 42 (o * 6 + w) = nI (A o w)) (hAb : ∀ o w, A o w ≤ 100) (hbad : ¬ okR (tpS σ) m (m * j) m → ∀ I2 : IM, (∀ x, x ≠ 42 → I2 x = I x) → Q (some (.int 0)) n I2 J R) (hgood : okR (tpS σ) m (m * j) m → ∀ I2 : IM, (∀ x, x ≠ 42 → I2 x = I x) → (∀ o w, o < m → w < m → I2 42 (o * 6 + w) = nI (A o w + bfR (tpS σ) (m * j) o w m)) → Q (some (.int 1)) n I2 J R) : E g mX9_hearOne d 0 0 0 (ent 7 [.ref 40, .ref 2, .int (nI (m * j))]) [] n I J R Q := by
  have b9 : σ 9 0 0 ≤ 260 := hB.2.2.2.2.2.1
  have p2 : 2 ^ m ≤ 64 := Nat.pow_le_pow_right (show 0 < 2 by decide) hm
  have L : ∀ k, k ≤ m → ∀ I2 : IM, ((∀ x, x ≠ 42 → I2 x = I x) ∧ (∀ o w, o < m → w < m → I2 42 (o * 6 + w) = nI (A o w + bfR (tpS σ) (m * j) o w k)) ∧ okR (tpS σ) m (m * j) k) → E g mX9_hearOne d 0 0 5 [.ref 40, .ref 2, .int (nI (m * j)), .int (nI (snB (tpS σ) (m * j) k)), .int (nI (m * j + k)), jk, jk] [] n I2 J R Q := by
    refine loopU m (fun I2 hv2 => ?_) (fun k hk ih I2 hv2 => ?_)
    · refine E_iload dX9_hearOne_5 rfl ?_
      refine E_iload_n dX9_hearOne_7 rfl ?_
      refine E_aload_n dX9_hearOne_8 rfl ?_
      refine E_getI dX9_hearOne_9 f_X9_15 rfl (Nat.lt_of_lt_of_le (by decide) hN) rfl ?_
      refine E.top (((congrFun (hv2.1 40 (by decide)) 3).trans hw)) ?_
      refine E_iadd dX9_hearOne_12 ?_
      refine E.top (nI_add (m * j) m) ?_
      refine E_cN_ge (a := m * j + m) (b := (m * j) + m) (tgt := 108) dX9_hearOne_13 (by omega) (by omega) (by decide) (fun c13 => ?_) (fun c13 => absurd c13 (by omega))
      refine E_ic (nI 1) dX9_hearOne_108 (by decide) ?_
      exact E_zret dX9_hearOne_109 rfl (by decide) (hgood hv2.2.2 I2 hv2.1 hv2.2.1)
    · have b8 := hB.2.2.2.2.1 (m * j + k) (by omega)
      have sl := (snB_pop (t := tpS σ) (m := m) (a := m * j) (by omega) k hv2.2.2).1
      refine E_iload dX9_hearOne_5 rfl ?_
      refine E_iload_n dX9_hearOne_7 rfl ?_
      refine E_aload_n dX9_hearOne_8 rfl ?_
      refine E_getI dX9_hearOne_9 f_X9_15 rfl (Nat.lt_of_lt_of_le (by decide) hN) rfl ?_
      refine E.top (((congrFun (hv2.1 40 (by decide)) 3).trans hw)) ?_
      refine E_iadd dX9_hearOne_12 ?_
      refine E.top (nI_add (m * j) m) ?_
      refine E_cN_ge (a := m * j + k) (b := (m * j) + m) (tgt := 108) dX9_hearOne_13 (by omega) (by omega) (by decide) (fun c13 => absurd c13 (by omega)) (fun c13 => ?_)
      refine E_iload dX9_hearOne_16 rfl ?_
      refine E_aload_n dX9_hearOne_18 rfl ?_
      refine E_alen dX9_hearOne_19 rfl (Nat.lt_of_lt_of_le (by decide) hN) (by decide) (by decide) ?_
      refine E.top (show _ = nI 260 from rfl) ?_
      refine E_cN_ge (a := m * j + k) (b := 260) (tgt := 108) dX9_hearOne_20 (by omega) (by decide) (by decide) (fun c20 => absurd c20 (by omega)) (fun c20 => ?_)
      refine E_aload_n dX9_hearOne_23 rfl ?_
      refine E_iload dX9_hearOne_24 rfl ?_
      refine E_ialdN dX9_hearOne_26 rfl (Nat.lt_of_lt_of_le (by decide) hN) (by omega) ?_
      refine E.top ((congrFun (hv2.1 2 (by decide)) _).trans (hT _ (by omega))) ?_
      refine E_istore dX9_hearOne_27 (Nat.le_of_ble_eq_true rfl) ?_
      refine E_iload dX9_hearOne_29 rfl ?_
      refine E_zN_lt (a := σ 8 ((m * j + k)) 0) (tgt := 53) dX9_hearOne_31 (by omega) (by decide) (fun c31 => c31.elim) (fun c31 => ?_)
      refine E_iload dX9_hearOne_34 rfl ?_
      refine E_aload_n dX9_hearOne_36 rfl ?_
      refine E_getI dX9_hearOne_37 f_X9_15 rfl (Nat.lt_of_lt_of_le (by decide) hN) rfl ?_
      refine E.top (((congrFun (hv2.1 40 (by decide)) 3).trans hw)) ?_
      refine E_cN_ge (a := σ 8 ((m * j + k)) 0) (b := m) (tgt := 53) dX9_hearOne_40 (by omega) (by omega) (by decide) (fun c40 => ?_) (fun c40 => ?_)
      · refine E_ic (nI 0) dX9_hearOne_53 (by decide) ?_
        exact E_zret dX9_hearOne_54 rfl (by decide) (hbad (fun z => by first | exact absurd (show σ 8 (m * j + k) 0 < m from (z k hk).1) (by omega) | (have h1 := (z k hk).2; rw [show tpS σ (m * j + k) = σ 8 (m * j + k) 0 from rfl] at h1; omega)) I2 hv2.1)
      · refine E_iload_n dX9_hearOne_43 rfl ?_
        refine E_iload dX9_hearOne_44 rfl ?_
        refine E_ishr dX9_hearOne_46 ?_
        refine E_ic (nI 1) dX9_hearOne_47 (by decide) ?_
        refine E_iand dX9_hearOne_48 ?_
        refine E.top (bitT (by omega) (by omega)) ?_
        refine E_ic (nI 1) dX9_hearOne_49 (by decide) ?_
        refine E_cN_ne (a := snB (tpS σ) (m * j) k / 2 ^ σ 8 (m * j + k) 0 % 2) (b := 1) (tgt := 55) dX9_hearOne_50 (by omega) (by decide) (by decide) (fun c50 => ?_) (fun c50 => ?_)
        · have okk : tpS σ (m * j + k) < m ∧ snB (tpS σ) (m * j) k / 2 ^ tpS σ (m * j + k) % 2 = 0 := ⟨c40, by rcases bit_cases (snB (tpS σ) (m * j) k) (σ 8 (m * j + k) 0) with z | z; exact z; exact absurd z c50⟩
          have L3 : ∀ q, q ≤ m → ∀ I3 : IM, ((∀ x, x ≠ 42 → I3 x = I x) ∧ (∀ o w, o < m → w < m → I3 42 (o * 6 + w) = nI (if w = σ 8 (m * j + k) 0 ∧ o < q then A o w + bfR (tpS σ) (m * j) o w k + snB (tpS σ) (m * j) k / 2 ^ o % 2 else A o w + bfR (tpS σ) (m * j) o w k))) → E g mX9_hearOne d 0 0 58 [.ref 40, .ref 2, .int (nI (m * j)), .int (nI (snB (tpS σ) (m * j) k)), .int (nI (m * j + k)), .int (nI (σ 8 (m * j + k) 0)), .int (nI q)] [] n I3 J R Q := by
            refine loopU m (fun I3 hv => ?_) (fun q hq2 ih3 I3 hv => ?_)
            · have w2 := Nat.pow_lt_pow_right (show 1 < 2 by decide) (show σ 8 (m * j + k) 0 < 8 by have := okk.1; omega)
              have sl := (snB_pop (t := tpS σ) (m := m) (a := m * j) (by omega) k hv2.2.2).1
              refine E_iload dX9_hearOne_58 rfl ?_
              refine E_aload_n dX9_hearOne_60 rfl ?_
              refine E_getI dX9_hearOne_61 f_X9_15 rfl (Nat.lt_of_lt_of_le (by decide) hN) rfl ?_
              refine E.top (((congrFun (hv.1 40 (by decide)) 3).trans hw)) ?_
              refine E_cN_ge (a := m) (b := m) (tgt := 95) dX9_hearOne_64 (by omega) (by omega) (by decide) (fun c64 => ?_) (fun c64 => absurd c64 (by omega))
              refine E_iload_n dX9_hearOne_95 rfl ?_
              refine E_ic (nI 1) dX9_hearOne_96 (by decide) ?_
              refine E_iload dX9_hearOne_97 rfl ?_
              refine E_ishl dX9_hearOne_99 ?_
              refine E.top (shl1 _ (by omega)) ?_
              refine E_ior dX9_hearOne_100 ?_
              refine E.top (nI_or (by omega) (by omega)) ?_
              refine E_istore_n dX9_hearOne_101 (Nat.le_of_ble_eq_true rfl) ?_
              refine E_incN dX9_hearOne_102 rfl ?_
              refine E_goto (tgt := 5) dX9_hearOne_105 (by decide) ?_
              refine E.mask [true, true, true, true, true, false, false] ?_
              refine ih I3 ⟨hv.1, fun o w ho hw => ?_, fun q hq => ?_⟩
              · rw [hv.2 o w ho hw]
                by_cases c : w = σ 8 (m * j + k) 0
                · rw [if_pos ⟨c, ho⟩, bfR_t (show tpS σ (m * j + k) = w from c.symm), Nat.add_assoc]
                · rw [if_neg (fun z => c z.1), bfR_f (show ¬ tpS σ (m * j + k) = w from fun z => c z.symm)]
              · rcases Nat.lt_succ_iff_lt_or_eq.mp hq with z | z
                · exact hv2.2.2 q z
                · subst z
                  exact okk
            · have bl := bfR_le (tpS σ) (m * j) q (σ 8 (m * j + k) 0) k
              have al := hAb q (σ 8 (m * j + k) 0)
              have sl := (snB_pop (t := tpS σ) (m := m) (a := m * j) (by omega) k hv2.2.2).1
              have md := Nat.mod_lt (snB (tpS σ) (m * j) k / 2 ^ q) (show 0 < 2 by decide)
              refine E_iload dX9_hearOne_58 rfl ?_
              refine E_aload_n dX9_hearOne_60 rfl ?_
              refine E_getI dX9_hearOne_61 f_X9_15 rfl (Nat.lt_of_lt_of_le (by decide) hN) rfl ?_
              refine E.top (((congrFun (hv.1 40 (by decide)) 3).trans hw)) ?_
              refine E_cN_ge (a := q) (b := m) (tgt := 95) dX9_hearOne_64 (by omega) (by omega) (by decide) (fun c64 => absurd c64 (by omega)) (fun c64 => ?_)
              refine E_aload_n dX9_hearOne_67 rfl ?_
              refine E_getR dX9_hearOne_68 f_X9_9 rfl (Nat.lt_of_lt_of_le (by decide) hN) rfl (hR _ _ _ rfl) ?_
              refine E_iload dX9_hearOne_71 rfl ?_
              refine E_bp (nI 6) dX9_hearOne_73 (by decide) ?_
              refine E_imul dX9_hearOne_75 ?_
              refine E.top (pk_mul q 6) ?_
              refine E_iload dX9_hearOne_76 rfl ?_
              refine E_iadd dX9_hearOne_78 ?_
              refine E.top (nI_add (q * 6) (σ 8 (m * j + k) 0)) ?_
              refine E_dup2 dX9_hearOne_79 rfl rfl ?_
              refine E_ialdN dX9_hearOne_80 rfl (Nat.lt_of_lt_of_le (by decide) hN) (by omega) ?_
              refine E.top ((hv.2 q (σ 8 (m * j + k) 0) hq2 okk.1).trans (congrArg nI (if_neg (fun z => Nat.lt_irrefl q z.2)))) ?_
              refine E_iload_n dX9_hearOne_81 rfl ?_
              refine E_iload dX9_hearOne_82 rfl ?_
              refine E_ishr dX9_hearOne_84 ?_
              refine E_ic (nI 1) dX9_hearOne_85 (by decide) ?_
              refine E_iand dX9_hearOne_86 ?_
              refine E.top (bitT (by omega) (by omega)) ?_
              refine E_iadd dX9_hearOne_87 ?_
              refine E.top (nI_add (A q (σ 8 (m * j + k) 0) + bfR (tpS σ) (m * j) q (σ 8 (m * j + k) 0) k) (snB (tpS σ) (m * j) k / 2 ^ q % 2)) ?_
              refine E_iastN dX9_hearOne_88 rfl (Nat.lt_of_lt_of_le (by decide) hN) (by omega) ?_
              refine E_incN dX9_hearOne_89 rfl ?_
              refine E_goto (tgt := 58) dX9_hearOne_92 (by decide) ?_
              refine ih3 _ ⟨fun x hx => (up2_o I3 42 _ _ x hx).trans (hv.1 x hx), fun o w ho hw => ?_⟩
              by_cases e : w = σ 8 (m * j + k) 0 ∧ o = q
              · obtain ⟨e1, e2⟩ := e
                subst e1
                subst e2
                rw [if_pos ⟨rfl, Nat.lt_succ_self o⟩]
                exact up2_s _ _ _ _
              · rw [up2_k I3 _ (fun z => e (by omega)), hv.2 o w ho hw]
                by_cases c : w = σ 8 (m * j + k) 0 ∧ o < q
                · rw [if_pos c, if_pos ⟨c.1, by omega⟩]
                · rw [if_neg c, if_neg (fun z => c ⟨z.1, by have := z.2; have : ¬ o = q := fun y => e ⟨z.1, y⟩; omega⟩)]
          refine E_ic (nI 0) dX9_hearOne_55 (by decide) ?_
          refine E_istore dX9_hearOne_56 (Nat.le_of_ble_eq_true rfl) ?_
          refine L3 0 (Nat.zero_le _) I2 ⟨hv2.1, fun o w ho hw => ?_⟩
          rw [hv2.2.1 o w ho hw, if_neg (fun z => Nat.not_lt_zero o z.2)]
        · refine E_ic (nI 0) dX9_hearOne_53 (by decide) ?_
          exact E_zret dX9_hearOne_54 rfl (by decide) (hbad (fun z => by first | exact absurd (show σ 8 (m * j + k) 0 < m from (z k hk).1) (by omega) | (have h1 := (z k hk).2; rw [show tpS σ (m * j + k) = σ 8 (m * j + k) 0 from rfl] at h1; omega)) I2 hv2.1)
  refine E_ic (nI 0) dX9_hearOne_0 (by decide) ?_
  refine E_istore_n dX9_hearOne_1 (Nat.le_of_ble_eq_true rfl) ?_
  refine E_iload_n dX9_hearOne_2 rfl ?_
  refine E_istore dX9_hearOne_3 (Nat.le_of_ble_eq_true rfl) ?_
  refine L 0 (Nat.zero_le _) I ⟨fun _ _ => rfl, hA, fun k hk => absurd hk (Nat.not_lt_zero k)⟩
set_option maxRecDepth 100000 in
set_option maxHeartbeats 2000000 in
theorem x_hear {m T : Nat} (hN : 152 ≤ n) (hR : RS R) (hB : BND σ) (hT : TX σ I) (hm1 : 1 ≤ m) (hm : m ≤ 6) (hT9 : T ≤ 9) (hmT : m * T ≤ σ 9 0 0) (hbad : bdT σ m T → ∀ I2 : IM, (∀ x, x ≠ 40 → x ≠ 42 → I2 x = I x) → Q (some (.int 0)) n I2 J R) (hgood : (∀ j, j < T → okR (tpS σ) m (m * j) m) → ∀ I2 : IM, (∀ x, x ≠ 40 → x ≠ 42 → I2 x = I x) → I2 40 3 = nI m → (∀ o w, o < m → w < m → I2 42 (o * 6 + w) = nI (ahS (tpS σ) m o w T)) → Q (some (.int 1)) n I2 J R) : E g mX9_hear (d + 1) 0 0 0 (ent 5 [.ref 40, .ref 2, .int (nI m), .int (nI T)]) [] n I J R Q := by
  have L : ∀ j, j ≤ T → ∀ I2 : IM, ((∀ x, x ≠ 40 → x ≠ 42 → I2 x = I x) ∧ I2 40 3 = nI m ∧ (∀ o w, o < m → w < m → I2 42 (o * 6 + w) = nI (ahS (tpS σ) m o w j)) ∧ ∀ q, q < j → okR (tpS σ) m (m * q) m) → E g mX9_hear (d + 1) 0 0 21 [.ref 40, .ref 2, .int (nI m), .int (nI T), .int (nI j)] [] n I2 J R Q := by
    refine loopU T (fun I2 hv => ?_) (fun j hj ih I2 hv => ?_)
    · refine E_iload dX9_hear_21 rfl ?_
      refine E_iload_n dX9_hear_23 rfl ?_
      refine E_cN_ge (a := T) (b := T) (tgt := 50) dX9_hear_24 (by omega) (by omega) (by decide) (fun c24 => ?_) (fun c24 => absurd c24 (by omega))
      refine E_ic (nI 1) dX9_hear_50 (by decide) ?_
      exact E_zret dX9_hear_51 rfl (by decide) (hgood (fun j hj => hv.2.2.2 j hj) I2 hv.1 hv.2.1 hv.2.2.1)
    · have hj2 : m * j + m ≤ σ 9 0 0 := by rw [← Nat.mul_succ]; exact Nat.le_trans (Nat.mul_le_mul_left m hj) hmT
      refine E_iload dX9_hear_21 rfl ?_
      refine E_iload_n dX9_hear_23 rfl ?_
      refine E_cN_ge (a := j) (b := T) (tgt := 50) dX9_hear_24 (by omega) (by omega) (by decide) (fun c24 => absurd c24 (by omega)) (fun c24 => ?_)
      refine E_aload_n dX9_hear_27 rfl ?_
      refine E_aload_n dX9_hear_28 rfl ?_
      refine E_iload dX9_hear_29 rfl ?_
      refine E_aload_n dX9_hear_31 rfl ?_
      refine E_getI dX9_hear_32 f_X9_15 rfl (Nat.lt_of_lt_of_le (by decide) hN) rfl ?_
      refine E.top (hv.2.1) ?_
      refine E_imul dX9_hear_35 ?_
      refine E.top (pk_mul j m) ?_
      refine E.top (congrArg nI (Nat.mul_comm j m)) ?_
      refine E_callV (As := [_, _]) (ci := 8) (kc' := 0) (ks' := 0) (kc := 0) (ks := 0) dX9_hear_36 ok_X9_hearOne w_X9_31 i_X9_hearOne s_X9_hearOne rfl (by decide) rfl (Nat.lt_of_lt_of_le (by decide) hN) rfl rfl rfl (Nat.le_of_ble_eq_true rfl) (Nat.le_of_ble_eq_true rfl) (Nat.le_refl _) (x_hearOne (j := j) hN hR hB (fun q hq => (congrFun (hv.1 2 (by decide) (by decide)) q).trans (hT q hq)) hv.2.1 hm1 hm hj2 hv.2.2.1 (fun o w => by have := ahS_le (tpS σ) m o w j; have := Nat.mul_le_mul hm (show j ≤ 9 by omega); omega) (fun z I3 f3 => ?_) (fun z I3 f3 a3 => ?_))
      · skip
        refine E_zN_ne (a := 0) (tgt := 44) dX9_hear_39 (by decide) (by decide) (fun c39 => absurd c39 (by omega)) (fun c39 => ?_)
        refine E_ic (nI 0) dX9_hear_42 (by decide) ?_
        exact E_zret dX9_hear_43 rfl (by decide) (hbad (fun y => z (y j hj)) I3 (fun x h1 h2 => (f3 x h2).trans (hv.1 x h1 h2)))
      · skip
        refine E_zN_ne (a := 1) (tgt := 44) dX9_hear_39 (by decide) (by decide) (fun c39 => ?_) (fun c39 => absurd c39 (by omega))
        refine E_incN dX9_hear_44 rfl ?_
        refine E_goto (tgt := 21) dX9_hear_47 (by decide) ?_
        refine ih I3 ⟨fun x h1 h2 => (f3 x h2).trans (hv.1 x h1 h2), (congrFun (f3 40 (by decide)) 3).trans hv.2.1, a3, fun q hq => ?_⟩
        rcases Nat.lt_succ_iff_lt_or_eq.mp hq with y | y
        · exact hv.2.2.2 q y
        · subst y
          exact z
  refine E_aload_n dX9_hear_0 rfl ?_
  refine E_iload_n dX9_hear_1 rfl ?_
  refine E_bp (nI 6) dX9_hear_2 (by decide) ?_
  refine E_mmin dX9_hear_4 w_X9_19 (Nat.le_of_ble_eq_true rfl) (by omega) ?_
  refine E.top (nI_min m 6 (by omega) (by omega)) ?_
  refine E.top (congrArg nI (show min m 6 = m by omega)) ?_
  refine E_putI dX9_hear_7 f_X9_15 rfl (Nat.lt_of_lt_of_le (by decide) hN) rfl ?_
  refine E_aload_n dX9_hear_10 rfl ?_
  refine E_getR dX9_hear_11 f_X9_9 rfl (Nat.lt_of_lt_of_le (by decide) hN) rfl (hR _ _ _ rfl) ?_
  refine E_ic (nI 0) dX9_hear_14 (by decide) ?_
  refine E_callS (As := [_, _]) (kc' := 0) (ks' := 0) (kc := 0) (ks := 0) dX9_hear_15 ok_J7_fill_53178 w_X9_25 st_J7_fill_53178 rfl rfl rfl (Nat.le_of_ble_eq_true rfl) (Nat.le_of_ble_eq_true rfl) (Nat.le_refl _) (c_fillI (L := 36) rfl (Nat.lt_of_lt_of_le (by decide) hN) ?_)
  refine E_ic (nI 0) dX9_hear_18 (by decide) ?_
  refine E_istore dX9_hear_19 (Nat.le_of_ble_eq_true rfl) ?_
  refine L 0 (Nat.zero_le _) _ ⟨fun x h1 h2 => ?_, ?_, fun o w ho hw => ?_, fun q hq => absurd hq (Nat.not_lt_zero q)⟩
  · funext y
    exact (if_neg (fun z => h2 z.1)).trans (congrFun (up2_o I 40 3 _ x h1) y)
  · exact (if_neg (fun z => absurd z.1 (by decide))).trans (up2_s _ _ _ _)
  · exact if_pos ⟨rfl, by omega⟩
set_option maxRecDepth 100000 in
set_option maxHeartbeats 2000000 in
theorem x_costT {m T s w : Nat} (hN : 152 ≤ n) (hR : RS R) (h3 : I 40 3 = nI m) (hm : m ≤ 6) (hT9 : T ≤ 9) (hA : ∀ o w, o < m → w < m → I 42 (o * 6 + w) = nI (ahS (tpS σ) m o w T)) (hs : s < 2 ^ m) (hw : w < m) (hQ : Q (some (.int (nI (tcS (tpS σ) m T s w)))) n I J R) : E g mX9_cost d 0 0 0 (ent 5 [.ref 40, .int (nI s), .int (nI w)]) [] n I J R Q := by
  have p2 : 2 ^ m ≤ 64 := Nat.pow_le_pow_right (show 0 < 2 by decide) hm
  have hAb : ∀ l, ahS (tpS σ) m l w T ≤ 54 := fun l => Nat.le_trans (ahS_le (tpS σ) m l w T) (Nat.mul_le_mul hm hT9)
  have L : ∀ l, l ≤ m → E g mX9_cost d 0 0 5 [.ref 40, .int (nI s), .int (nI w), .int (nI (coS (fun l => ahS (tpS σ) m l w T) s w l)), .int (nI l)] [] n I J R Q := by
    refine loopU m ?_ (fun l hl ih => ?_)
    · refine E_iload dX9_cost_5 rfl ?_
      refine E_aload_n dX9_cost_7 rfl ?_
      refine E_getI dX9_cost_8 f_X9_15 rfl (Nat.lt_of_lt_of_le (by decide) hN) rfl ?_
      refine E.top (h3) ?_
      refine E_cN_ge (a := m) (b := m) (tgt := 50) dX9_cost_11 (by omega) (by omega) (by decide) (fun c11 => ?_) (fun c11 => absurd c11 (by omega))
      refine E_iload_n dX9_cost_50 rfl ?_
      exact E_iret dX9_cost_51 rfl (hQ)
    · have cl := coS_le (s := s) (w := w) hAb l
      have al := hAb l
      refine E_iload dX9_cost_5 rfl ?_
      refine E_aload_n dX9_cost_7 rfl ?_
      refine E_getI dX9_cost_8 f_X9_15 rfl (Nat.lt_of_lt_of_le (by decide) hN) rfl ?_
      refine E.top (h3) ?_
      refine E_cN_ge (a := l) (b := m) (tgt := 50) dX9_cost_11 (by omega) (by omega) (by decide) (fun c11 => absurd c11 (by omega)) (fun c11 => ?_)
      refine E_iload dX9_cost_14 rfl ?_
      refine E_iload_n dX9_cost_16 rfl ?_
      refine E_cN_eq (a := l) (b := w) (tgt := 44) dX9_cost_17 (by omega) (by omega) (by decide) (fun c17 => ?_) (fun c17 => ?_)
      · refine E_incN dX9_cost_44 rfl ?_
        refine E_goto (tgt := 5) dX9_cost_47 (by decide) ?_
        rw [coS_f (fun z => by first | exact z.1 c17 | (have := z.2; omega))] at ih
        exact ih
      · refine E_iload_n dX9_cost_20 rfl ?_
        refine E_iload dX9_cost_21 rfl ?_
        refine E_ishr dX9_cost_23 ?_
        refine E_ic (nI 1) dX9_cost_24 (by decide) ?_
        refine E_iand dX9_cost_25 ?_
        refine E.top (bitT (by omega) (by omega)) ?_
        refine E_zN_ne (a := s / 2 ^ l % 2) (tgt := 44) dX9_cost_26 (by omega) (by decide) (fun c26 => ?_) (fun c26 => ?_)
        · refine E_incN dX9_cost_44 rfl ?_
          refine E_goto (tgt := 5) dX9_cost_47 (by decide) ?_
          rw [coS_f (fun z => by first | exact z.1 c17 | (have := z.2; omega))] at ih
          exact ih
        · refine E_iload_n dX9_cost_29 rfl ?_
          refine E_aload_n dX9_cost_30 rfl ?_
          refine E_getR dX9_cost_31 f_X9_9 rfl (Nat.lt_of_lt_of_le (by decide) hN) rfl (hR _ _ _ rfl) ?_
          refine E_iload dX9_cost_34 rfl ?_
          refine E_bp (nI 6) dX9_cost_36 (by decide) ?_
          refine E_imul dX9_cost_38 ?_
          refine E.top (pk_mul l 6) ?_
          refine E_iload_n dX9_cost_39 rfl ?_
          refine E_iadd dX9_cost_40 ?_
          refine E.top (nI_add (l * 6) w) ?_
          refine E_ialdN dX9_cost_41 rfl (Nat.lt_of_lt_of_le (by decide) hN) (by omega) ?_
          refine E.top (hA l w (by omega) hw) ?_
          refine E_iadd dX9_cost_42 ?_
          refine E.top (nI_add (coS (fun l => ahS (tpS σ) m l w T) s w l) (ahS (tpS σ) m l w T)) ?_
          refine E_istore_n dX9_cost_43 (Nat.le_of_ble_eq_true rfl) ?_
          refine E_incN dX9_cost_44 rfl ?_
          refine E_goto (tgt := 5) dX9_cost_47 (by decide) ?_
          rw [coS_t c17 c26] at ih
          exact ih
  refine E_ic (nI 0) dX9_cost_0 (by decide) ?_
  refine E_istore_n dX9_cost_1 (Nat.le_of_ble_eq_true rfl) ?_
  refine E_ic (nI 0) dX9_cost_2 (by decide) ?_
  refine E_istore dX9_cost_3 (Nat.le_of_ble_eq_true rfl) ?_
  exact L 0 (Nat.zero_le _)
set_option maxRecDepth 100000 in
set_option maxHeartbeats 2000000 in
theorem sx_tasters (x w v : Int32) : SX mX11_tasters [.int x, .int w, .int v] (r_tasters x w v) (u_tasters x w v) := by
  intro g n I J R σ Q hB hX hQ
  have hN := hX.2.2.2.1.n.1
  have hR := hX.2.2.2.1.1
  have b9 : σ 9 0 0 ≤ 260 := hB.2.2.2.2.2.1
  unfold r_tasters u_tasters at hQ
  have hNO : ¬ gT σ x w v → Q (some (.int (-1))) n I J R := fun hno => by
    rw [gd_f hno] at hQ
    rw [gd_f hno] at hQ
    exact hQ I J hX (fun _ _ _ => rfl) (fun _ _ _ => rfl)
  rcases i32_out x 2 6 (by decide) (by decide) with hx | ⟨m, m1, m2, rfl⟩
  · have hq := hNO (fun ⟨m, T, ⟨a1, a2, a3, a4⟩, _⟩ => by subst a3; rcases hx with hx | hx; exact nI_nlt a1 (by omega) hx; exact nI_nlt a2 (by decide) hx)
    refine E_iload_n dX11_tasters_0 rfl ?_
    refine E_ic (nI 2) dX11_tasters_1 (by decide) ?_
    refine E_icmp_lt (tgt := 26) dX11_tasters_2 (by decide) (fun c2 => ?_) (fun c2 => ?_)
    · refine E_ic (nI 0) dX11_tasters_26 (by decide) ?_
      refine E_istore dX11_tasters_27 (Nat.le_of_ble_eq_true rfl) ?_
      refine E_iload dX11_tasters_29 rfl ?_
      refine E_zN_eq (a := 0) (tgt := 56) dX11_tasters_31 (by decide) (by decide) (fun c31 => ?_) (fun c31 => absurd c31 (by omega))
      refine E_ic (-1) dX11_tasters_56 (by decide) ?_
      exact E_iret dX11_tasters_57 rfl (hq)
    · refine E_iload_n dX11_tasters_5 rfl ?_
      refine E_bp (nI 6) dX11_tasters_6 (by decide) ?_
      refine E_icmp_gt (tgt := 26) dX11_tasters_8 (by decide) (fun c8 => ?_) (fun c8 => by first | exact absurd c8 (hx.elim (fun q => absurd q c2) id) | exact absurd (hx.elim (fun q => absurd q c2) id) c8)
      refine E_ic (nI 0) dX11_tasters_26 (by decide) ?_
      refine E_istore dX11_tasters_27 (Nat.le_of_ble_eq_true rfl) ?_
      refine E_iload dX11_tasters_29 rfl ?_
      refine E_zN_eq (a := 0) (tgt := 56) dX11_tasters_31 (by decide) (by decide) (fun c31 => ?_) (fun c31 => absurd c31 (by omega))
      refine E_ic (-1) dX11_tasters_56 (by decide) ?_
      exact E_iret dX11_tasters_57 rfl (hq)
  rcases i32_out w 1 9 (by decide) (by decide) with hx | ⟨T, t1, t2, rfl⟩
  · have hq := hNO (fun ⟨m, T, ⟨_, _, _, a1, a2, a3, _⟩, _⟩ => by subst a3; rcases hx with hx | hx; exact nI_nlt a1 (by omega) hx; exact nI_nlt a2 (by decide) hx)
    refine E_iload_n dX11_tasters_0 rfl ?_
    refine E_ic (nI 2) dX11_tasters_1 (by decide) ?_
    refine E_cN_lt (a := m) (b := 2) (tgt := 26) dX11_tasters_2 (by omega) (by decide) (by decide) (fun c2 => absurd c2 (by omega)) (fun c2 => ?_)
    refine E_iload_n dX11_tasters_5 rfl ?_
    refine E_bp (nI 6) dX11_tasters_6 (by decide) ?_
    refine E_cN_gt (a := m) (b := 6) (tgt := 26) dX11_tasters_8 (by omega) (by decide) (by decide) (fun c8 => absurd c8 (by omega)) (fun c8 => ?_)
    refine E_iload_n dX11_tasters_11 rfl ?_
    refine E_ic (nI 1) dX11_tasters_12 (by decide) ?_
    refine E_icmp_lt (tgt := 26) dX11_tasters_13 (by decide) (fun c13 => ?_) (fun c13 => ?_)
    · refine E_ic (nI 0) dX11_tasters_26 (by decide) ?_
      refine E_istore dX11_tasters_27 (Nat.le_of_ble_eq_true rfl) ?_
      refine E_iload dX11_tasters_29 rfl ?_
      refine E_zN_eq (a := 0) (tgt := 56) dX11_tasters_31 (by decide) (by decide) (fun c31 => ?_) (fun c31 => absurd c31 (by omega))
      refine E_ic (-1) dX11_tasters_56 (by decide) ?_
      exact E_iret dX11_tasters_57 rfl (hq)
    · refine E_iload_n dX11_tasters_16 rfl ?_
      refine E_bp (nI 9) dX11_tasters_17 (by decide) ?_
      refine E_icmp_gt (tgt := 26) dX11_tasters_19 (by decide) (fun c19 => ?_) (fun c19 => by first | exact absurd c19 (hx.elim (fun q => absurd q c13) id) | exact absurd (hx.elim (fun q => absurd q c13) id) c19)
      refine E_ic (nI 0) dX11_tasters_26 (by decide) ?_
      refine E_istore dX11_tasters_27 (Nat.le_of_ble_eq_true rfl) ?_
      refine E_iload dX11_tasters_29 rfl ?_
      refine E_zN_eq (a := 0) (tgt := 56) dX11_tasters_31 (by decide) (by decide) (fun c31 => ?_) (fun c31 => absurd c31 (by omega))
      refine E_ic (-1) dX11_tasters_56 (by decide) ?_
      exact E_iret dX11_tasters_57 rfl (hq)
  have mT := Nat.mul_le_mul m2 t2
  have mT1 := Nat.mul_le_mul m1 t1
  by_cases hp : plS v m
  · have hg : m * T ≤ σ 9 0 0 → gT σ (nI m) (nI T) v := fun h => ⟨m, T, ⟨m1, m2, rfl, t1, t2, rfl, h⟩, hp⟩
    have hng : ¬ m * T ≤ σ 9 0 0 → ¬ gT σ (nI m) (nI T) v := fun h z => by obtain ⟨m2, T2, ⟨a1, a2, a3, a4, a5, a6, a7⟩, a8⟩ := z; have e1 := (nI_eq (by omega) (by omega)).mp a3; have e2 := (nI_eq (by omega) (by omega)).mp a6; subst e1; subst e2; exact h a7
    rw [nI_clamp (n := m) (by omega), nI_clamp (n := T) (by omega)] at hQ
    have hp0 := hp
    rcases hp0 with rfl | ⟨k, hk, rfl⟩
    · skip
      refine E_iload_n dX11_tasters_0 rfl ?_
      refine E_ic (nI 2) dX11_tasters_1 (by decide) ?_
      refine E_cN_lt (a := m) (b := 2) (tgt := 26) dX11_tasters_2 (by omega) (by decide) (by decide) (fun c2 => absurd c2 (by omega)) (fun c2 => ?_)
      refine E_iload_n dX11_tasters_5 rfl ?_
      refine E_bp (nI 6) dX11_tasters_6 (by decide) ?_
      refine E_cN_gt (a := m) (b := 6) (tgt := 26) dX11_tasters_8 (by omega) (by decide) (by decide) (fun c8 => absurd c8 (by omega)) (fun c8 => ?_)
      refine E_iload_n dX11_tasters_11 rfl ?_
      refine E_ic (nI 1) dX11_tasters_12 (by decide) ?_
      refine E_cN_lt (a := T) (b := 1) (tgt := 26) dX11_tasters_13 (by omega) (by decide) (by decide) (fun c13 => absurd c13 (by omega)) (fun c13 => ?_)
      refine E_iload_n dX11_tasters_16 rfl ?_
      refine E_bp (nI 9) dX11_tasters_17 (by decide) ?_
      refine E_cN_gt (a := T) (b := 9) (tgt := 26) dX11_tasters_19 (by omega) (by decide) (by decide) (fun c19 => absurd c19 (by omega)) (fun c19 => ?_)
      refine E_ic (nI 1) dX11_tasters_22 (by decide) ?_
      refine E_goto (tgt := 27) dX11_tasters_23 (by decide) ?_
      refine E_istore dX11_tasters_27 (Nat.le_of_ble_eq_true rfl) ?_
      refine E_iload dX11_tasters_29 rfl ?_
      refine E_zN_eq (a := 1) (tgt := 56) dX11_tasters_31 (by decide) (by decide) (fun c31 => absurd c31 (by omega)) (fun c31 => ?_)
      refine E_iload_n dX11_tasters_34 rfl ?_
      refine E_iload_n dX11_tasters_35 rfl ?_
      refine E_callS (As := [_, _]) (kc' := 0) (ks' := 0) (kc := 0) (ks := 0) dX11_tasters_36 ok_X11_isPlace w_X11_268 st_X11_isPlace rfl rfl rfl (Nat.le_of_ble_eq_true rfl) (Nat.le_of_ble_eq_true rfl) (Nat.le_refl _) (x_isPlace (fun z => ?_) (fun z => ?_))
      · skip
        refine E_zN_eq (a := 1) (tgt := 56) dX11_tasters_39 (by decide) (by decide) (fun c39 => absurd c39 (by omega)) (fun c39 => ?_)
        refine E_aload_n dX11_tasters_42 rfl ?_
        refine E_iload_n dX11_tasters_43 rfl ?_
        refine E_iload_n dX11_tasters_44 rfl ?_
        refine E_imul dX11_tasters_45 ?_
        refine E.top (pk_mul m T) ?_
        refine E_ic (nI 1) dX11_tasters_46 (by decide) ?_
        refine E_sp (nI 260) dX11_tasters_47 (by decide) ?_
        refine E_callV (As := [_, _, _]) (ci := 10) (kc' := 0) (ks' := 0) (kc := 0) (ks := 0) dX11_tasters_50 ok_X11_tapeHas w_X11_113 i_X11_tapeHas s_X11_tapeHas rfl (by decide) rfl (Nat.lt_of_lt_of_le (by decide) hN) rfl rfl rfl (Nat.le_of_ble_eq_true rfl) (Nat.le_of_ble_eq_true rfl) (Nat.le_refl _) (X_tapeHas (d := 899) (by decide) (by decide) hB hX (fun _ h1 h2 h3 e => ?_) (fun z => ?_))
        · have hm9 : m * T ≤ σ 9 0 0 := by have := (nI_eq (by omega) (by omega)).mp e; omega
          rw [gd_t (hg hm9)] at hQ
          rw [gd_t (hg hm9)] at hQ
          have hT : TX σ (up2 I 0 2 (nI 0)) := fun j hj => hX.2.2.1 j hj
          refine E_zN_ne (a := 1) (tgt := 58) dX11_tasters_53 (by decide) (by decide) (fun c53 => ?_) (fun c53 => absurd c53 (by omega))
          refine E_aload_n dX11_tasters_58 rfl ?_
          refine E_ic (nI 0) dX11_tasters_59 (by decide) ?_
          refine E_putI dX11_tasters_60 f_X11_19 rfl (Nat.lt_of_lt_of_le (by decide) hN) rfl ?_
          refine E_aload_n dX11_tasters_63 rfl ?_
          refine E_getR dX11_tasters_64 f_X11_61 rfl (Nat.lt_of_lt_of_le (by decide) hN) rfl (hR _ _ _ rfl) ?_
          refine E_aload_n dX11_tasters_67 rfl ?_
          refine E_getR dX11_tasters_68 f_X11_15 rfl (Nat.lt_of_lt_of_le (by decide) hN) rfl (hR _ _ _ rfl) ?_
          refine E_iload_n dX11_tasters_71 rfl ?_
          refine E_iload_n dX11_tasters_72 rfl ?_
          refine E_callV (As := [_, _, _]) (ci := 8) (kc' := 0) (ks' := 0) (kc := 0) (ks := 0) dX11_tasters_73 ok_X9_hear w_X11_272 i_X9_hear s_X9_hear rfl (by decide) rfl (Nat.lt_of_lt_of_le (by decide) hN) rfl rfl rfl (Nat.le_of_ble_eq_true rfl) (Nat.le_of_ble_eq_true rfl) (Nat.le_refl _) (x_hear (d := 898) hN hR hB hT (by omega) m2 t2 hm9 (fun z I2 f2 => ?_) (fun z I2 f2 w2 a2 => ?_))
          · rw [gd_t z] at hQ
            have far : ∀ a, a ≠ 40 → a ≠ 42 → a ≠ 0 → I2 a = I a := fun a a1 a2 a3 => (f2 a a1 a2).trans (up2_o I 0 2 _ a a3)
            have hq := hQ I2 J ((u0_X hX).congr (fun a _ _ => f2 a (by omega) (by omega)) (f2 0 (by decide) (by decide)) (f2 2 (by decide) (by decide))) (fun a a1 _ => far a (by omega) (by omega) (by omega)) (fun a a1 _ => far a (by omega) (by omega) (by omega))
            refine E_zN_ne (a := 0) (tgt := 82) dX11_tasters_76 (by decide) (by decide) (fun c76 => absurd c76 (by omega)) (fun c76 => ?_)
            refine E_bp (-3) dX11_tasters_79 (by decide) ?_
            exact E_iret dX11_tasters_81 rfl (by first | exact hq | (rw [if_pos rfl] at hq; exact hq))
          · rw [gd_f (fun y => y z)] at hQ
            have far0 : ∀ a, a ≠ 40 → a ≠ 41 → a ≠ 42 → (put (up2 I2 40 1 (nI m)) 41 256 (tbI (up2 I2 40 1 (nI m)) 41 (tcS (tpS σ) m T) m (2 ^ m - 1 - 0))) a = (up2 I 0 2 (nI 0)) a := fun a a1 a2 a3 => by rw [put_o _ 41 256 _ a2, up2_o _ 40 1 _ a a1]; exact f2 a a1 a3
            have far : ∀ a, a ≠ 40 → a ≠ 41 → a ≠ 42 → a ≠ 0 → (put (up2 I2 40 1 (nI m)) 41 256 (tbI (up2 I2 40 1 (nI m)) 41 (tcS (tpS σ) m T) m (2 ^ m - 1 - 0))) a = I a := fun a a1 a2 a3 a4 => (far0 a a1 a2 a3).trans (up2_o I 0 2 _ a a4)
            have hq := hQ (put (up2 I2 40 1 (nI m)) 41 256 (tbI (up2 I2 40 1 (nI m)) 41 (tcS (tpS σ) m T) m (2 ^ m - 1 - 0))) J ((u0_X hX).congr (fun a _ _ => far0 a (by omega) (by omega) (by omega)) (far0 0 (by decide) (by decide) (by decide)) (far0 2 (by decide) (by decide) (by decide))) (fun a a1 _ => far a (by omega) (by omega) (by omega) (by omega)) (fun a a1 _ => far a (by omega) (by omega) (by omega) (by omega))
            have hcb : ∀ s w, s < 2 ^ m → w < m → tcS (tpS σ) m T s w ≤ 324 := fun s w _ _ => tcS_le m2 t2 s w
            have hc : ∀ (I5 : IM) {Q2 : PQ} {dd : Nat}, (∀ x, x ≠ 41 → I5 x = (up2 I2 40 1 (nI m)) x) → ∀ s w : Nat, s < 2 ^ m → w < m → s / 2 ^ w % 2 = 0 → Q2 (some (.int (nI (tcS (tpS σ) m T s w)))) n I5 J R → E g mX9_cost (dd + 1) 0 0 0 (ent 5 [.ref 40, .int (nI s), .int (nI w)]) [] n I5 J R Q2 := fun I5 Q2 dd e s w hs hw hf h => by
              refine x_costT hN hR (m := m) (T := T) ?_ m2 t2 (fun o w ho hw => ?_) hs hw h
              · rw [e 40 (by decide), up2_k _ _ (by decide)]
                exact w2
              · rw [e 42 (by decide), up2_o _ 40 1 _ 42 (by decide)]
                exact a2 o w ho hw
            have hcf : ∀ {Q2 : PQ} {dd : Nat} (s w : Nat), s < 2 ^ m → w < m → s / 2 ^ w % 2 = 0 → Q2 (some (.int (nI (tcS (tpS σ) m T s w)))) n (put (up2 I2 40 1 (nI m)) 41 256 (tbI (up2 I2 40 1 (nI m)) 41 (tcS (tpS σ) m T) m (2 ^ m - 1 - 0))) J R → E g mX9_cost (dd + 1) 0 0 0 (ent 5 [.ref 40, .int (nI s), .int (nI w)]) [] n (put (up2 I2 40 1 (nI m)) 41 256 (tbI (up2 I2 40 1 (nI m)) 41 (tcS (tpS σ) m T) m (2 ^ m - 1 - 0))) J R Q2 := fun s w hs hw hf h => hc _ (fun x hx => put_o _ 41 256 _ hx) s w hs hw hf h
            have hrr : ∀ y, y < 2 ^ m → (put (up2 I2 40 1 (nI m)) 41 256 (tbI (up2 I2 40 1 (nI m)) 41 (tcS (tpS σ) m T) m (2 ^ m - 1 - 0))) 41 y = nI (rtS (tcS (tpS σ) m T) m y) := fun y hy => tbI_r (by omega) (Nat.zero_le _) (Nat.zero_le _) hy
            have hmm : (put (up2 I2 40 1 (nI m)) 41 256 (tbI (up2 I2 40 1 (nI m)) 41 (tcS (tpS σ) m T) m (2 ^ m - 1 - 0))) 40 1 = nI m := by rw [put_o _ 41 256 _ (by decide)]; exact up2_s _ _ _ _
            have hbb : ∀ s w, s < 2 ^ m → w < m → s / 2 ^ w % 2 = 0 → tcS (tpS σ) m T s w + rtS (tcS (tpS σ) m T) m (s ||| 2 ^ w) < 2 ^ 30 := fun s w hs hw hf => by have := tb_price (by omega) hcb hs hw hf (Nat.zero_le (s + 1)); exact Nat.lt_of_le_of_lt this (by decide)
            have hpp : ∀ q, q < m → (pthS (tcS (tpS σ) m T) (rtS (tcS (tpS σ) m T) m) m q).1 < 2 ^ m ∧ (bnS (tcS (tpS σ) m T) (rtS (tcS (tpS σ) m T) m) (pthS (tcS (tpS σ) m T) (rtS (tcS (tpS σ) m T) m) m q).1 m).2 < m := fun q hq => by
              obtain ⟨a1, a2, a3⟩ := pth_ok (by omega) hcb (by decide) q (by omega)
              exact ⟨a1, (rt_fd (by omega) hcb (by decide) (a3 hq)).1⟩
            refine E_zN_ne (a := 1) (tgt := 82) dX11_tasters_76 (by decide) (by decide) (fun c76 => ?_) (fun c76 => absurd c76 (by omega))
            refine E_aload_n dX11_tasters_82 rfl ?_
            refine E_getR dX11_tasters_83 f_X11_61 rfl (Nat.lt_of_lt_of_le (by decide) hN) rfl (hR _ _ _ rfl) ?_
            refine E_iload_n dX11_tasters_86 rfl ?_
            refine E_callU (As := [_]) (kc' := 0) (ks' := 0) (kc := 0) (ks := 0) (ci := 8) (x := ⟨RX9, "reckon", "(I)V"⟩) (C := RX9) (owner := RX5) dX11_tasters_87 ok_X5_reckon (by decide +kernel) (by decide) w_X11_276 i_X5_reckon s2_X9_X9_reckon sm_X9_reckon dc_X5_reckon rfl (by decide) rfl (by first | assumption | omega) rfl rfl rfl (Nat.le_of_ble_eq_true rfl) (Nat.le_of_ble_eq_true rfl) (Nat.le_refl _) (x9_reckon (d := 896) hN hR (by omega) hcb (by decide) (fun I5 Q2 e s w hs hw hf h => hc I5 e s w hs hw hf h) ?_)
            refine E_iload_n dX11_tasters_90 rfl ?_
            refine E_bp (nI 100) dX11_tasters_91 (by decide) ?_
            refine E_cN_ne (a := 100) (b := 100) (tgt := 106) dX11_tasters_93 (by decide) (by decide) (by decide) (fun c93 => absurd c93 (by omega)) (fun c93 => ?_)
            refine E_aload_n dX11_tasters_96 rfl ?_
            refine E_getR dX11_tasters_97 f_X11_61 rfl (Nat.lt_of_lt_of_le (by decide) hN) rfl (hR _ _ _ rfl) ?_
            refine E_callU (As := []) (kc' := 0) (ks' := 0) (kc := 0) (ks := 0) (ci := 8) (x := ⟨RX9, "price", "()I"⟩) (C := RX9) (owner := RX5) dX11_tasters_100 ok_X5_price (by decide +kernel) (by decide) w_X11_279 i_X5_price s2_X9_X9_price sm_X9_price dc_X5_price rfl (by decide) rfl (by first | assumption | omega) rfl rfl rfl (Nat.le_of_ble_eq_true rfl) (Nat.le_of_ble_eq_true rfl) (Nat.le_refl _) (x9_price (d := 899) hN hR (hrr 0 (Nat.two_pow_pos m)) ?_)
            refine E_goto (tgt := 114) dX11_tasters_103 (by decide) ?_
            exact E_iret dX11_tasters_114 rfl (by first | exact hq | (rw [if_pos rfl] at hq; exact hq))
        · have hq := hNO (hng (fun h => z (tp_of (by omega) (by omega) h)))
          refine E_zN_ne (a := 0) (tgt := 58) dX11_tasters_53 (by decide) (by decide) (fun c53 => absurd c53 (by omega)) (fun c53 => ?_)
          refine E_ic (-1) dX11_tasters_56 (by decide) ?_
          exact E_iret dX11_tasters_57 rfl (by first | exact hq | (rw [if_pos rfl] at hq; exact hq))
      · skip
        exact absurd ((pl_iff (by omega)).mpr hp) z
    · skip
      refine E_iload_n dX11_tasters_0 rfl ?_
      refine E_ic (nI 2) dX11_tasters_1 (by decide) ?_
      refine E_cN_lt (a := m) (b := 2) (tgt := 26) dX11_tasters_2 (by omega) (by decide) (by decide) (fun c2 => absurd c2 (by omega)) (fun c2 => ?_)
      refine E_iload_n dX11_tasters_5 rfl ?_
      refine E_bp (nI 6) dX11_tasters_6 (by decide) ?_
      refine E_cN_gt (a := m) (b := 6) (tgt := 26) dX11_tasters_8 (by omega) (by decide) (by decide) (fun c8 => absurd c8 (by omega)) (fun c8 => ?_)
      refine E_iload_n dX11_tasters_11 rfl ?_
      refine E_ic (nI 1) dX11_tasters_12 (by decide) ?_
      refine E_cN_lt (a := T) (b := 1) (tgt := 26) dX11_tasters_13 (by omega) (by decide) (by decide) (fun c13 => absurd c13 (by omega)) (fun c13 => ?_)
      refine E_iload_n dX11_tasters_16 rfl ?_
      refine E_bp (nI 9) dX11_tasters_17 (by decide) ?_
      refine E_cN_gt (a := T) (b := 9) (tgt := 26) dX11_tasters_19 (by omega) (by decide) (by decide) (fun c19 => absurd c19 (by omega)) (fun c19 => ?_)
      refine E_ic (nI 1) dX11_tasters_22 (by decide) ?_
      refine E_goto (tgt := 27) dX11_tasters_23 (by decide) ?_
      refine E_istore dX11_tasters_27 (Nat.le_of_ble_eq_true rfl) ?_
      refine E_iload dX11_tasters_29 rfl ?_
      refine E_zN_eq (a := 1) (tgt := 56) dX11_tasters_31 (by decide) (by decide) (fun c31 => absurd c31 (by omega)) (fun c31 => ?_)
      refine E_iload_n dX11_tasters_34 rfl ?_
      refine E_iload_n dX11_tasters_35 rfl ?_
      refine E_callS (As := [_, _]) (kc' := 0) (ks' := 0) (kc := 0) (ks := 0) dX11_tasters_36 ok_X11_isPlace w_X11_268 st_X11_isPlace rfl rfl rfl (Nat.le_of_ble_eq_true rfl) (Nat.le_of_ble_eq_true rfl) (Nat.le_refl _) (x_isPlace (fun z => ?_) (fun z => ?_))
      · skip
        refine E_zN_eq (a := 1) (tgt := 56) dX11_tasters_39 (by decide) (by decide) (fun c39 => absurd c39 (by omega)) (fun c39 => ?_)
        refine E_aload_n dX11_tasters_42 rfl ?_
        refine E_iload_n dX11_tasters_43 rfl ?_
        refine E_iload_n dX11_tasters_44 rfl ?_
        refine E_imul dX11_tasters_45 ?_
        refine E.top (pk_mul m T) ?_
        refine E_ic (nI 1) dX11_tasters_46 (by decide) ?_
        refine E_sp (nI 260) dX11_tasters_47 (by decide) ?_
        refine E_callV (As := [_, _, _]) (ci := 10) (kc' := 0) (ks' := 0) (kc := 0) (ks := 0) dX11_tasters_50 ok_X11_tapeHas w_X11_113 i_X11_tapeHas s_X11_tapeHas rfl (by decide) rfl (Nat.lt_of_lt_of_le (by decide) hN) rfl rfl rfl (Nat.le_of_ble_eq_true rfl) (Nat.le_of_ble_eq_true rfl) (Nat.le_refl _) (X_tapeHas (d := 899) (by decide) (by decide) hB hX (fun _ h1 h2 h3 e => ?_) (fun z => ?_))
        · have hm9 : m * T ≤ σ 9 0 0 := by have := (nI_eq (by omega) (by omega)).mp e; omega
          rw [gd_t (hg hm9)] at hQ
          rw [gd_t (hg hm9)] at hQ
          have hT : TX σ (up2 I 0 2 (nI 0)) := fun j hj => hX.2.2.1 j hj
          refine E_zN_ne (a := 1) (tgt := 58) dX11_tasters_53 (by decide) (by decide) (fun c53 => ?_) (fun c53 => absurd c53 (by omega))
          refine E_aload_n dX11_tasters_58 rfl ?_
          refine E_ic (nI 0) dX11_tasters_59 (by decide) ?_
          refine E_putI dX11_tasters_60 f_X11_19 rfl (Nat.lt_of_lt_of_le (by decide) hN) rfl ?_
          refine E_aload_n dX11_tasters_63 rfl ?_
          refine E_getR dX11_tasters_64 f_X11_61 rfl (Nat.lt_of_lt_of_le (by decide) hN) rfl (hR _ _ _ rfl) ?_
          refine E_aload_n dX11_tasters_67 rfl ?_
          refine E_getR dX11_tasters_68 f_X11_15 rfl (Nat.lt_of_lt_of_le (by decide) hN) rfl (hR _ _ _ rfl) ?_
          refine E_iload_n dX11_tasters_71 rfl ?_
          refine E_iload_n dX11_tasters_72 rfl ?_
          refine E_callV (As := [_, _, _]) (ci := 8) (kc' := 0) (ks' := 0) (kc := 0) (ks := 0) dX11_tasters_73 ok_X9_hear w_X11_272 i_X9_hear s_X9_hear rfl (by decide) rfl (Nat.lt_of_lt_of_le (by decide) hN) rfl rfl rfl (Nat.le_of_ble_eq_true rfl) (Nat.le_of_ble_eq_true rfl) (Nat.le_refl _) (x_hear (d := 898) hN hR hB hT (by omega) m2 t2 hm9 (fun z I2 f2 => ?_) (fun z I2 f2 w2 a2 => ?_))
          · rw [gd_t z] at hQ
            have far : ∀ a, a ≠ 40 → a ≠ 42 → a ≠ 0 → I2 a = I a := fun a a1 a2 a3 => (f2 a a1 a2).trans (up2_o I 0 2 _ a a3)
            have hq := hQ I2 J ((u0_X hX).congr (fun a _ _ => f2 a (by omega) (by omega)) (f2 0 (by decide) (by decide)) (f2 2 (by decide) (by decide))) (fun a a1 _ => far a (by omega) (by omega) (by omega)) (fun a a1 _ => far a (by omega) (by omega) (by omega))
            refine E_zN_ne (a := 0) (tgt := 82) dX11_tasters_76 (by decide) (by decide) (fun c76 => absurd c76 (by omega)) (fun c76 => ?_)
            refine E_bp (-3) dX11_tasters_79 (by decide) ?_
            exact E_iret dX11_tasters_81 rfl (by first | exact hq | (rw [if_neg (fun z => by have := (nI_eq (by omega) (by decide)).mp z; omega), nI_clamp (n := k) (by omega)] at hq; exact hq) | exact absurd c93 (by omega))
          · rw [gd_f (fun y => y z)] at hQ
            have far0 : ∀ a, a ≠ 40 → a ≠ 41 → a ≠ 42 → (put (up2 I2 40 1 (nI m)) 41 256 (tbI (up2 I2 40 1 (nI m)) 41 (tcS (tpS σ) m T) m (2 ^ m - 1 - 0))) a = (up2 I 0 2 (nI 0)) a := fun a a1 a2 a3 => by rw [put_o _ 41 256 _ a2, up2_o _ 40 1 _ a a1]; exact f2 a a1 a3
            have far : ∀ a, a ≠ 40 → a ≠ 41 → a ≠ 42 → a ≠ 0 → (put (up2 I2 40 1 (nI m)) 41 256 (tbI (up2 I2 40 1 (nI m)) 41 (tcS (tpS σ) m T) m (2 ^ m - 1 - 0))) a = I a := fun a a1 a2 a3 a4 => (far0 a a1 a2 a3).trans (up2_o I 0 2 _ a a4)
            have hq := hQ (put (up2 I2 40 1 (nI m)) 41 256 (tbI (up2 I2 40 1 (nI m)) 41 (tcS (tpS σ) m T) m (2 ^ m - 1 - 0))) J ((u0_X hX).congr (fun a _ _ => far0 a (by omega) (by omega) (by omega)) (far0 0 (by decide) (by decide) (by decide)) (far0 2 (by decide) (by decide) (by decide))) (fun a a1 _ => far a (by omega) (by omega) (by omega) (by omega)) (fun a a1 _ => far a (by omega) (by omega) (by omega) (by omega))
            have hcb : ∀ s w, s < 2 ^ m → w < m → tcS (tpS σ) m T s w ≤ 324 := fun s w _ _ => tcS_le m2 t2 s w
            have hc : ∀ (I5 : IM) {Q2 : PQ} {dd : Nat}, (∀ x, x ≠ 41 → I5 x = (up2 I2 40 1 (nI m)) x) → ∀ s w : Nat, s < 2 ^ m → w < m → s / 2 ^ w % 2 = 0 → Q2 (some (.int (nI (tcS (tpS σ) m T s w)))) n I5 J R → E g mX9_cost (dd + 1) 0 0 0 (ent 5 [.ref 40, .int (nI s), .int (nI w)]) [] n I5 J R Q2 := fun I5 Q2 dd e s w hs hw hf h => by
              refine x_costT hN hR (m := m) (T := T) ?_ m2 t2 (fun o w ho hw => ?_) hs hw h
              · rw [e 40 (by decide), up2_k _ _ (by decide)]
                exact w2
              · rw [e 42 (by decide), up2_o _ 40 1 _ 42 (by decide)]
                exact a2 o w ho hw
            have hcf : ∀ {Q2 : PQ} {dd : Nat} (s w : Nat), s < 2 ^ m → w < m → s / 2 ^ w % 2 = 0 → Q2 (some (.int (nI (tcS (tpS σ) m T s w)))) n (put (up2 I2 40 1 (nI m)) 41 256 (tbI (up2 I2 40 1 (nI m)) 41 (tcS (tpS σ) m T) m (2 ^ m - 1 - 0))) J R → E g mX9_cost (dd + 1) 0 0 0 (ent 5 [.ref 40, .int (nI s), .int (nI w)]) [] n (put (up2 I2 40 1 (nI m)) 41 256 (tbI (up2 I2 40 1 (nI m)) 41 (tcS (tpS σ) m T) m (2 ^ m - 1 - 0))) J R Q2 := fun s w hs hw hf h => hc _ (fun x hx => put_o _ 41 256 _ hx) s w hs hw hf h
            have hrr : ∀ y, y < 2 ^ m → (put (up2 I2 40 1 (nI m)) 41 256 (tbI (up2 I2 40 1 (nI m)) 41 (tcS (tpS σ) m T) m (2 ^ m - 1 - 0))) 41 y = nI (rtS (tcS (tpS σ) m T) m y) := fun y hy => tbI_r (by omega) (Nat.zero_le _) (Nat.zero_le _) hy
            have hmm : (put (up2 I2 40 1 (nI m)) 41 256 (tbI (up2 I2 40 1 (nI m)) 41 (tcS (tpS σ) m T) m (2 ^ m - 1 - 0))) 40 1 = nI m := by rw [put_o _ 41 256 _ (by decide)]; exact up2_s _ _ _ _
            have hbb : ∀ s w, s < 2 ^ m → w < m → s / 2 ^ w % 2 = 0 → tcS (tpS σ) m T s w + rtS (tcS (tpS σ) m T) m (s ||| 2 ^ w) < 2 ^ 30 := fun s w hs hw hf => by have := tb_price (by omega) hcb hs hw hf (Nat.zero_le (s + 1)); exact Nat.lt_of_le_of_lt this (by decide)
            have hpp : ∀ q, q < m → (pthS (tcS (tpS σ) m T) (rtS (tcS (tpS σ) m T) m) m q).1 < 2 ^ m ∧ (bnS (tcS (tpS σ) m T) (rtS (tcS (tpS σ) m T) m) (pthS (tcS (tpS σ) m T) (rtS (tcS (tpS σ) m T) m) m q).1 m).2 < m := fun q hq => by
              obtain ⟨a1, a2, a3⟩ := pth_ok (by omega) hcb (by decide) q (by omega)
              exact ⟨a1, (rt_fd (by omega) hcb (by decide) (a3 hq)).1⟩
            refine E_zN_ne (a := 1) (tgt := 82) dX11_tasters_76 (by decide) (by decide) (fun c76 => ?_) (fun c76 => absurd c76 (by omega))
            refine E_aload_n dX11_tasters_82 rfl ?_
            refine E_getR dX11_tasters_83 f_X11_61 rfl (Nat.lt_of_lt_of_le (by decide) hN) rfl (hR _ _ _ rfl) ?_
            refine E_iload_n dX11_tasters_86 rfl ?_
            refine E_callU (As := [_]) (kc' := 0) (ks' := 0) (kc := 0) (ks := 0) (ci := 8) (x := ⟨RX9, "reckon", "(I)V"⟩) (C := RX9) (owner := RX5) dX11_tasters_87 ok_X5_reckon (by decide +kernel) (by decide) w_X11_276 i_X5_reckon s2_X9_X9_reckon sm_X9_reckon dc_X5_reckon rfl (by decide) rfl (by first | assumption | omega) rfl rfl rfl (Nat.le_of_ble_eq_true rfl) (Nat.le_of_ble_eq_true rfl) (Nat.le_refl _) (x9_reckon (d := 896) hN hR (by omega) hcb (by decide) (fun I5 Q2 e s w hs hw hf h => hc I5 e s w hs hw hf h) ?_)
            refine E_iload_n dX11_tasters_90 rfl ?_
            refine E_bp (nI 100) dX11_tasters_91 (by decide) ?_
            refine E_cN_ne (a := k) (b := 100) (tgt := 106) dX11_tasters_93 (by omega) (by decide) (by decide) (fun c93 => ?_) (fun c93 => ?_)
            · refine E_aload_n dX11_tasters_106 rfl ?_
              refine E_getR dX11_tasters_107 f_X11_61 rfl (Nat.lt_of_lt_of_le (by decide) hN) rfl (hR _ _ _ rfl) ?_
              refine E_iload_n dX11_tasters_110 rfl ?_
              refine E_callU (As := [_]) (kc' := 0) (ks' := 0) (kc := 0) (ks := 0) (ci := 8) (x := ⟨RX9, "standsAt", "(I)I"⟩) (C := RX9) (owner := RX5) dX11_tasters_111 ok_X5_standsAt (by decide +kernel) (by decide) w_X11_282 i_X5_standsAt s2_X9_X9_standsAt sm_X9_standsAt dc_X5_standsAt rfl (by decide) rfl (by first | assumption | omega) rfl rfl rfl (Nat.le_of_ble_eq_true rfl) (Nat.le_of_ble_eq_true rfl) (Nat.le_refl _) (x9_stands (d := 896) hN hR hmm (by omega) hk hrr hbb hpp (fun s w hs hw hf h => hcf s w hs hw hf h) ?_)
              exact E_iret dX11_tasters_114 rfl (by first | exact hq | (rw [if_neg (fun z => by have := (nI_eq (by omega) (by decide)).mp z; omega), nI_clamp (n := k) (by omega)] at hq; exact hq) | exact absurd c93 (by omega))
            · refine E_aload_n dX11_tasters_96 rfl ?_
              refine E_getR dX11_tasters_97 f_X11_61 rfl (Nat.lt_of_lt_of_le (by decide) hN) rfl (hR _ _ _ rfl) ?_
              refine E_callU (As := []) (kc' := 0) (ks' := 0) (kc := 0) (ks := 0) (ci := 8) (x := ⟨RX9, "price", "()I"⟩) (C := RX9) (owner := RX5) dX11_tasters_100 ok_X5_price (by decide +kernel) (by decide) w_X11_279 i_X5_price s2_X9_X9_price sm_X9_price dc_X5_price rfl (by decide) rfl (by first | assumption | omega) rfl rfl rfl (Nat.le_of_ble_eq_true rfl) (Nat.le_of_ble_eq_true rfl) (Nat.le_refl _) (x9_price (d := 899) hN hR (hrr 0 (Nat.two_pow_pos m)) ?_)
              refine E_goto (tgt := 114) dX11_tasters_103 (by decide) ?_
              exact E_iret dX11_tasters_114 rfl (by first | exact hq | (rw [if_neg (fun z => by have := (nI_eq (by omega) (by decide)).mp z; omega), nI_clamp (n := k) (by omega)] at hq; exact hq) | exact absurd c93 (by omega))
        · have hq := hNO (hng (fun h => z (tp_of (by omega) (by omega) h)))
          refine E_zN_ne (a := 0) (tgt := 58) dX11_tasters_53 (by decide) (by decide) (fun c53 => absurd c53 (by omega)) (fun c53 => ?_)
          refine E_ic (-1) dX11_tasters_56 (by decide) ?_
          exact E_iret dX11_tasters_57 rfl (by first | exact hq | (rw [if_neg (fun z => by have := (nI_eq (by omega) (by decide)).mp z; omega), nI_clamp (n := k) (by omega)] at hq; exact hq) | exact absurd c93 (by omega))
      · skip
        exact absurd ((pl_iff (by omega)).mpr hp) z
  · have hq := hNO (fun z => by obtain ⟨m2, T2, ⟨a1, a2, a3, a4, a5, a6, a7⟩, a8⟩ := z; have e1 := (nI_eq (by omega) (by omega)).mp a3; have e2 := (nI_eq (by omega) (by omega)).mp a6; subst e1; subst e2; exact hp a8)
    refine E_iload_n dX11_tasters_0 rfl ?_
    refine E_ic (nI 2) dX11_tasters_1 (by decide) ?_
    refine E_cN_lt (a := m) (b := 2) (tgt := 26) dX11_tasters_2 (by omega) (by decide) (by decide) (fun c2 => absurd c2 (by omega)) (fun c2 => ?_)
    refine E_iload_n dX11_tasters_5 rfl ?_
    refine E_bp (nI 6) dX11_tasters_6 (by decide) ?_
    refine E_cN_gt (a := m) (b := 6) (tgt := 26) dX11_tasters_8 (by omega) (by decide) (by decide) (fun c8 => absurd c8 (by omega)) (fun c8 => ?_)
    refine E_iload_n dX11_tasters_11 rfl ?_
    refine E_ic (nI 1) dX11_tasters_12 (by decide) ?_
    refine E_cN_lt (a := T) (b := 1) (tgt := 26) dX11_tasters_13 (by omega) (by decide) (by decide) (fun c13 => absurd c13 (by omega)) (fun c13 => ?_)
    refine E_iload_n dX11_tasters_16 rfl ?_
    refine E_bp (nI 9) dX11_tasters_17 (by decide) ?_
    refine E_cN_gt (a := T) (b := 9) (tgt := 26) dX11_tasters_19 (by omega) (by decide) (by decide) (fun c19 => absurd c19 (by omega)) (fun c19 => ?_)
    refine E_ic (nI 1) dX11_tasters_22 (by decide) ?_
    refine E_goto (tgt := 27) dX11_tasters_23 (by decide) ?_
    refine E_istore dX11_tasters_27 (Nat.le_of_ble_eq_true rfl) ?_
    refine E_iload dX11_tasters_29 rfl ?_
    refine E_zN_eq (a := 1) (tgt := 56) dX11_tasters_31 (by decide) (by decide) (fun c31 => absurd c31 (by omega)) (fun c31 => ?_)
    refine E_iload_n dX11_tasters_34 rfl ?_
    refine E_iload_n dX11_tasters_35 rfl ?_
    refine E_callS (As := [_, _]) (kc' := 0) (ks' := 0) (kc := 0) (ks := 0) dX11_tasters_36 ok_X11_isPlace w_X11_268 st_X11_isPlace rfl rfl rfl (Nat.le_of_ble_eq_true rfl) (Nat.le_of_ble_eq_true rfl) (Nat.le_refl _) (x_isPlace (fun z => ?_) (fun z => ?_))
    · skip
      exact absurd ((pl_iff (by omega)).mp z) hp
    · skip
      refine E_zN_eq (a := 0) (tgt := 56) dX11_tasters_39 (by decide) (by decide) (fun c39 => ?_) (fun c39 => absurd c39 (by omega))
      refine E_ic (-1) dX11_tasters_56 (by decide) ?_
      exact E_iret dX11_tasters_57 rfl (hq)
end PTasters
