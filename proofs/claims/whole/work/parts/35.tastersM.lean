/-! ===== tasters, the reference ===== -/
section PTastersM
variable {g : GL} {d n : Nat} {I : IM} {J : JM} {R : RM} {Q : PQ} {σ : ST}
set_option maxRecDepth 100000 in
set_option maxHeartbeats 2000000 in
theorem m_laysRanks {m T : Nat} (hT : MT σ (I 121)) (hB : BND σ) (hN : 152 ≤ n) (hR : RS R) (hm1 : 1 ≤ m) (hm : m ≤ 6) (hT9 : T ≤ 9) (hmT : m * T ≤ σ 9 0 0) (hbad : bdT σ m T → ∀ I2 : IM, (∀ x, x ≠ 146 → I2 x = I x) → Q (some (.int 0)) n I2 J R) (hgood : (∀ j, j < T → okR (tpS σ) m (m * j) m) → ∀ I2 : IM, (∀ x, x ≠ 146 → I2 x = I x) → (∀ q x, q < T → x < m → I2 146 (6 * q + x) = nI (rkS (tpS σ) (m * q) x m)) → Q (some (.int 1)) n I2 J R) : E g mX12_laysRanks (d + 1) 0 0 0 (ent 7 [.ref 114, .int (nI m), .int (nI T)]) [] n I J R Q := by
  have b9 : σ 9 0 0 ≤ 260 := hB.2.2.2.2.2.1
  have p2 : 2 ^ m ≤ 64 := Nat.pow_le_pow_right (show 0 < 2 by decide) hm
  have L1 : ∀ j, j ≤ T → ∀ I2 : IM, ((∀ x, x ≠ 146 → I2 x = I x) ∧ (∀ q x, q < j → x < m → I2 146 (6 * q + x) = nI (rkS (tpS σ) (m * q) x m)) ∧ ∀ q, q < j → okR (tpS σ) m (m * q) m) → E g mX12_laysRanks (d + 1) 0 0 2 [.ref 114, .int (nI m), .int (nI T), .int (nI j), jk, jk, jk] [] n I2 J R Q := by
    refine loopU T (fun I2 hv1 => ?_) (fun j hj ih1 I2 hv1 => ?_)
    · refine E_iload_n dX12_laysRanks_2 rfl ?_
      refine E_iload_n dX12_laysRanks_3 rfl ?_
      refine E_cN_ge (a := T) (b := T) (tgt := 84) dX12_laysRanks_4 (by omega) (by omega) (by decide) (fun c4 => ?_) (fun c4 => absurd c4 (by omega))
      refine E_ic (nI 1) dX12_laysRanks_84 (by decide) ?_
      exact E_zret dX12_laysRanks_85 rfl (by decide) (hgood hv1.2.2 I2 hv1.1 hv1.2.1)
    · have hj2 : m * j + m ≤ σ 9 0 0 := by rw [← Nat.mul_succ]; exact Nat.le_trans (Nat.mul_le_mul_left m hj) hmT
      have L2 : ∀ k, k ≤ m → ∀ I3 : IM, ((∀ x, x ≠ 146 → I3 x = I x) ∧ (∀ q x, q < j → x < m → I3 146 (6 * q + x) = nI (rkS (tpS σ) (m * q) x m)) ∧ (∀ x, x < m → snB (tpS σ) (m * j) k / 2 ^ x % 2 = 1 → I3 146 (6 * j + x) = nI (rkS (tpS σ) (m * j) x k)) ∧ okR (tpS σ) m (m * j) k) → E g mX12_laysRanks (d + 1) 0 0 13 [.ref 114, .int (nI m), .int (nI T), .int (nI j), .int (nI (snB (tpS σ) (m * j) k)), .int (nI k), jk] [] n I3 J R Q := by
        refine loopU m (fun I3 hv => ?_) (fun k hk ih2 I3 hv => ?_)
        · refine E_iload dX12_laysRanks_13 rfl ?_
          refine E_iload_n dX12_laysRanks_15 rfl ?_
          refine E_cN_ge (a := m) (b := m) (tgt := 78) dX12_laysRanks_16 (by omega) (by omega) (by decide) (fun c16 => ?_) (fun c16 => absurd c16 (by omega))
          refine E_incN dX12_laysRanks_78 rfl ?_
          refine E_goto (tgt := 2) dX12_laysRanks_81 (by decide) ?_
          refine E.mask [true, true, true, true, false, false, false] ?_
          refine ih1 I3 ⟨hv.1, fun q x hq hx => ?_, fun q hq => ?_⟩
          · rcases Nat.lt_succ_iff_lt_or_eq.mp hq with z | z
            · exact hv.2.1 q x z hx
            · subst z
              exact hv.2.2.1 x hx ((snB_bit _ _ x m).mpr (okR_all (by omega) hv.2.2.2 hx))
          · rcases Nat.lt_succ_iff_lt_or_eq.mp hq with z | z
            · exact hv1.2.2 q z
            · subst z
              exact hv.2.2.2
        · have b8 := hB.2.2.2.2.1 (m * j + k) (by omega)
          have sl := (snB_pop (t := tpS σ) (m := m) (a := m * j) (by omega) k hv.2.2.2).1
          refine E_iload dX12_laysRanks_13 rfl ?_
          refine E_iload_n dX12_laysRanks_15 rfl ?_
          refine E_cN_ge (a := k) (b := m) (tgt := 78) dX12_laysRanks_16 (by omega) (by omega) (by decide) (fun c16 => absurd c16 (by omega)) (fun c16 => ?_)
          refine E_aload_n dX12_laysRanks_19 rfl ?_
          refine E_iload_n dX12_laysRanks_20 rfl ?_
          refine E_iload_n dX12_laysRanks_21 rfl ?_
          refine E_imul dX12_laysRanks_22 ?_
          refine E.top (pk_mul m j) ?_
          refine E_iload dX12_laysRanks_23 rfl ?_
          refine E_iadd dX12_laysRanks_25 ?_
          refine E.top (nI_add (m * j) k) ?_
          refine E_callV (As := [_]) (ci := 11) (kc' := 0) (ks' := 0) (kc := 0) (ks := 0) dX12_laysRanks_26 ok_X12_octet w_X12_387 i_X12_octet s_X12_octet rfl (by decide) rfl (Nat.lt_of_lt_of_le (by decide) hN) rfl rfl rfl (Nat.le_of_ble_eq_true rfl) (Nat.le_of_ble_eq_true rfl) (Nat.le_refl _) (m_octet (by rw [hv.1 121 (by decide)]; exact hT) hB hN hR (by omega) ?_)
          refine E_istore dX12_laysRanks_29 (Nat.le_of_ble_eq_true rfl) ?_
          refine E_iload dX12_laysRanks_31 rfl ?_
          refine E_iload_n dX12_laysRanks_33 rfl ?_
          refine E_cN_ge (a := σ 8 (m * j + k) 0) (b := m) (tgt := 47) dX12_laysRanks_34 (by omega) (by omega) (by decide) (fun c34 => ?_) (fun c34 => ?_)
          · refine E_ic (nI 0) dX12_laysRanks_47 (by decide) ?_
            exact E_zret dX12_laysRanks_48 rfl (by decide) (hbad (fun z => by have := z j hj k hk; first | exact absurd (show σ 8 (m * j + k) 0 < m from this.1) (by omega) | (have h1 := this.2; rw [show tpS σ (m * j + k) = σ 8 (m * j + k) 0 from rfl] at h1; omega)) I3 hv.1)
          · refine E_iload dX12_laysRanks_37 rfl ?_
            refine E_iload dX12_laysRanks_39 rfl ?_
            refine E_callS (As := [_, _]) (kc' := 0) (ks' := 0) (kc := 0) (ks := 0) dX12_laysRanks_41 ok_X12_has w_X12_376 st_X12_has rfl rfl rfl (Nat.le_of_ble_eq_true rfl) (Nat.le_of_ble_eq_true rfl) (Nat.le_refl _) (m_has (fun hh => ?_) (fun hh => ?_))
            · have hbt : snB (tpS σ) (m * j) k / 2 ^ (σ 8 (m * j + k) 0) % 2 = 1 := by rw [bitT (by omega) (by omega)] at hh; exact (nI_eq (by omega) (by decide)).mp hh
              refine E_zN_eq (a := 1) (tgt := 49) dX12_laysRanks_44 (by decide) (by decide) (fun c44 => absurd c44 (by omega)) (fun c44 => ?_)
              refine E_ic (nI 0) dX12_laysRanks_47 (by decide) ?_
              exact E_zret dX12_laysRanks_48 rfl (by decide) (hbad (fun z => by have := z j hj k hk; first | exact absurd (show σ 8 (m * j + k) 0 < m from this.1) (by omega) | (have h1 := this.2; rw [show tpS σ (m * j + k) = σ 8 (m * j + k) 0 from rfl] at h1; omega)) I3 hv.1)
            · have hbt : snB (tpS σ) (m * j) k / 2 ^ (σ 8 (m * j + k) 0) % 2 = 0 := by rcases bit_cases (snB (tpS σ) (m * j) k) (σ 8 (m * j + k) 0) with z | z; exact z; exact absurd (by rw [bitT (by omega) (by omega), z]) hh
              have w2 := Nat.pow_lt_pow_right (show 1 < 2 by decide) (show σ 8 (m * j + k) 0 < 8 by omega)
              refine E_zN_eq (a := 0) (tgt := 49) dX12_laysRanks_44 (by decide) (by decide) (fun c44 => ?_) (fun c44 => absurd c44 (by omega))
              refine E_iload dX12_laysRanks_49 rfl ?_
              refine E_ic (nI 1) dX12_laysRanks_51 (by decide) ?_
              refine E_iload dX12_laysRanks_52 rfl ?_
              refine E_ishl dX12_laysRanks_54 ?_
              refine E.top (shl1 _ (by omega)) ?_
              refine E_ior dX12_laysRanks_55 ?_
              refine E.top (nI_or (by omega) (by omega)) ?_
              refine E_istore dX12_laysRanks_56 (Nat.le_of_ble_eq_true rfl) ?_
              refine E_aload_n dX12_laysRanks_58 rfl ?_
              refine E_getR dX12_laysRanks_59 f_X12_106 rfl (Nat.lt_of_lt_of_le (by decide) hN) rfl (hR _ _ _ rfl) ?_
              refine E_bp (nI 6) dX12_laysRanks_62 (by decide) ?_
              refine E_iload_n dX12_laysRanks_64 rfl ?_
              refine E_imul dX12_laysRanks_65 ?_
              refine E.top (pk_mul 6 j) ?_
              refine E_iload dX12_laysRanks_66 rfl ?_
              refine E_iadd dX12_laysRanks_68 ?_
              refine E.top (nI_add (6 * j) (σ 8 (m * j + k) 0)) ?_
              refine E_iload dX12_laysRanks_69 rfl ?_
              refine E_iastN dX12_laysRanks_71 rfl (Nat.lt_of_lt_of_le (by decide) hN) (by omega) ?_
              refine E_incN dX12_laysRanks_72 rfl ?_
              refine E_goto (tgt := 13) dX12_laysRanks_75 (by decide) ?_
              refine E.mask [true, true, true, true, true, true, false] ?_
              refine ih2 _ ⟨fun x hx => (up2_o I3 146 _ _ x hx).trans (hv.1 x hx), fun q x hq hx => ?_, fun x hx hb => ?_, fun q hq => ?_⟩
              · rw [up2_k I3 _ (show 6 * q + x ≠ 6 * j + σ 8 (m * j + k) 0 by omega)]
                exact hv.2.1 q x hq hx
              · by_cases e : x = σ 8 (m * j + k) 0
                · subst e
                  rw [show rkS (tpS σ) (m * j) (σ 8 (m * j + k) 0) (k + 1) = k from if_pos rfl]
                  exact up2_s _ _ _ _
                · rw [up2_k I3 _ (show 6 * j + x ≠ 6 * j + σ 8 (m * j + k) 0 by omega), show rkS (tpS σ) (m * j) x (k + 1) = rkS (tpS σ) (m * j) x k from if_neg (fun z => e z.symm)]
                  refine hv.2.2.1 x hx ?_
                  have hb2 : (snB (tpS σ) (m * j) k ||| 2 ^ tpS σ (m * j + k)) / 2 ^ x % 2 = 1 := hb
                  rw [orb_bit, if_neg (show ¬ x = tpS σ (m * j + k) from e)] at hb2
                  exact hb2
              · rcases Nat.lt_succ_iff_lt_or_eq.mp hq with z | z
                · exact hv.2.2.2 q z
                · subst z
                  exact ⟨c34, hbt⟩
      refine E_iload_n dX12_laysRanks_2 rfl ?_
      refine E_iload_n dX12_laysRanks_3 rfl ?_
      refine E_cN_ge (a := j) (b := T) (tgt := 84) dX12_laysRanks_4 (by omega) (by omega) (by decide) (fun c4 => absurd c4 (by omega)) (fun c4 => ?_)
      refine E_ic (nI 0) dX12_laysRanks_7 (by decide) ?_
      refine E_istore dX12_laysRanks_8 (Nat.le_of_ble_eq_true rfl) ?_
      refine E_ic (nI 0) dX12_laysRanks_10 (by decide) ?_
      refine E_istore dX12_laysRanks_11 (Nat.le_of_ble_eq_true rfl) ?_
      refine L2 0 (Nat.zero_le _) I2 ⟨hv1.1, hv1.2.1, fun x hx hb => ?_, fun k hk => absurd hk (Nat.not_lt_zero k)⟩
      obtain ⟨q, hq, _⟩ := (snB_bit _ _ x 0).mp hb
      exact absurd hq (Nat.not_lt_zero q)
  refine E_ic (nI 0) dX12_laysRanks_0 (by decide) ?_
  refine E_istore_n dX12_laysRanks_1 (Nat.le_of_ble_eq_true rfl) ?_
  exact L1 0 (Nat.zero_le _) I ⟨fun _ _ => rfl, fun q x hq => absurd hq (Nat.not_lt_zero q), fun q hq => absurd hq (Nat.not_lt_zero q)⟩
set_option maxRecDepth 100000 in
set_option maxHeartbeats 2000000 in
theorem m_otherwise {m T : Nat} {o : Nat → Nat} (hN : 152 ≤ n) (hR : RS R) (hm : m ≤ 6) (hT9 : T ≤ 9) (ho : ∀ k, k < m → I 144 k = nI (o k)) (hob : ∀ k, k < m → o k < m) (hin : ∀ a b, a < m → b < m → a ≠ b → o a ≠ o b) (hok : ∀ j, j < T → okR (tpS σ) m (m * j) m) (hrk : ∀ q x, q < T → x < m → I 146 (6 * q + x) = nI (rkS (tpS σ) (m * q) x m)) (hQ : Q (some (.int (nI (prS (fun l w => ahS (tpS σ) m l w T) o m)))) n I J R) : E g mX12_otherwise d 0 0 0 (ent 7 [.ref 114, .int (nI m), .int (nI T)]) [] n I J R Q := by
  rw [← ot_pr] at hQ
  have L1 : ∀ j, j ≤ T → E g mX12_otherwise d 0 0 5 [.ref 114, .int (nI m), .int (nI T), .int (nI (sumS (fun j => sumS (fun a => sumS (fun b => if a < b then bfR (tpS σ) (m * j) (o b) (o a) m else 0) m) m) j)), .int (nI j), jk, jk] [] n I J R Q := by
    refine loopU T ?_ (fun j hj ih1 => ?_)
    · refine E_iload dX12_otherwise_5 rfl ?_
      refine E_iload_n dX12_otherwise_7 rfl ?_
      refine E_cN_ge (a := T) (b := T) (tgt := 93) dX12_otherwise_8 (by omega) (by omega) (by decide) (fun c8 => ?_) (fun c8 => absurd c8 (by omega))
      refine E_iload_n dX12_otherwise_93 rfl ?_
      exact E_iret dX12_otherwise_94 rfl (hQ)
    · have L2 : ∀ a, a ≤ m → E g mX12_otherwise d 0 0 14 [.ref 114, .int (nI m), .int (nI T), .int (nI (sumS (fun j => sumS (fun a => sumS (fun b => if a < b then bfR (tpS σ) (m * j) (o b) (o a) m else 0) m) m) j + sumS (fun a => sumS (fun b => if a < b then bfR (tpS σ) (m * j) (o b) (o a) m else 0) m) a)), .int (nI j), .int (nI a), jk] [] n I J R Q := by
        refine loopU m ?_ (fun a ha ih2 => ?_)
        · refine E_iload dX12_otherwise_14 rfl ?_
          refine E_iload_n dX12_otherwise_16 rfl ?_
          refine E_cN_ge (a := m) (b := m) (tgt := 87) dX12_otherwise_17 (by omega) (by omega) (by decide) (fun c17 => ?_) (fun c17 => absurd c17 (by omega))
          refine E_incN dX12_otherwise_87 rfl ?_
          refine E_goto (tgt := 5) dX12_otherwise_90 (by decide) ?_
          refine E.mask [true, true, true, true, true, false, false] ?_
          exact ih1
        · have L3 : ∀ b, b ≤ m → a < b → E g mX12_otherwise d 0 0 26 [.ref 114, .int (nI m), .int (nI T), .int (nI (sumS (fun j => sumS (fun a => sumS (fun b => if a < b then bfR (tpS σ) (m * j) (o b) (o a) m else 0) m) m) j + sumS (fun a => sumS (fun b => if a < b then bfR (tpS σ) (m * j) (o b) (o a) m else 0) m) a + sumS (fun b => if a < b then bfR (tpS σ) (m * j) (o b) (o a) m else 0) b)), .int (nI j), .int (nI a), .int (nI b)] [] n I J R Q := by
            refine loopU m (fun hc => ?_) (fun b hb ih3 hc => ?_)
            · refine E_iload dX12_otherwise_26 rfl ?_
              refine E_iload_n dX12_otherwise_28 rfl ?_
              refine E_cN_ge (a := m) (b := m) (tgt := 81) dX12_otherwise_29 (by omega) (by omega) (by decide) (fun c29 => ?_) (fun c29 => absurd c29 (by omega))
              refine E_incN dX12_otherwise_81 rfl ?_
              refine E_goto (tgt := 14) dX12_otherwise_84 (by decide) ?_
              refine E.mask [true, true, true, true, true, true, false] ?_
              rw [show sumS (fun j => sumS (fun a => sumS (fun b => if a < b then bfR (tpS σ) (m * j) (o b) (o a) m else 0) m) m) j + sumS (fun a => sumS (fun b => if a < b then bfR (tpS σ) (m * j) (o b) (o a) m else 0) m) (a + 1) = sumS (fun j => sumS (fun a => sumS (fun b => if a < b then bfR (tpS σ) (m * j) (o b) (o a) m else 0) m) m) j + sumS (fun a => sumS (fun b => if a < b then bfR (tpS σ) (m * j) (o b) (o a) m else 0) m) a + sumS (fun b => if a < b then bfR (tpS σ) (m * j) (o b) (o a) m else 0) m by rw [Nat.add_assoc]; rfl] at ih2
              exact ih2
            · refine E_iload dX12_otherwise_26 rfl ?_
              refine E_iload_n dX12_otherwise_28 rfl ?_
              refine E_cN_ge (a := b) (b := m) (tgt := 81) dX12_otherwise_29 (by omega) (by omega) (by decide) (fun c29 => absurd c29 (by omega)) (fun c29 => ?_)
              refine E_aload_n dX12_otherwise_32 rfl ?_
              refine E_getR dX12_otherwise_33 f_X12_106 rfl (Nat.lt_of_lt_of_le (by decide) hN) rfl (hR _ _ _ rfl) ?_
              refine E_bp (nI 6) dX12_otherwise_36 (by decide) ?_
              refine E_iload dX12_otherwise_38 rfl ?_
              refine E_imul dX12_otherwise_40 ?_
              refine E.top (pk_mul 6 j) ?_
              refine E_aload_n dX12_otherwise_41 rfl ?_
              refine E_getR dX12_otherwise_42 f_X12_100 rfl (Nat.lt_of_lt_of_le (by decide) hN) rfl (hR _ _ _ rfl) ?_
              refine E_iload dX12_otherwise_45 rfl ?_
              refine E_ialdN dX12_otherwise_47 rfl (Nat.lt_of_lt_of_le (by decide) hN) (by first | assumption | omega) ?_
              refine E.top (ho a (by omega)) ?_
              refine E_iadd dX12_otherwise_48 ?_
              refine E.top (nI_add (6 * j) (o a)) ?_
              refine E_ialdN dX12_otherwise_49 rfl (Nat.lt_of_lt_of_le (by decide) hN) (by have := hob a (by omega); omega) ?_
              refine E.top (hrk j (o a) hj (hob a (by omega))) ?_
              refine E_aload_n dX12_otherwise_50 rfl ?_
              refine E_getR dX12_otherwise_51 f_X12_106 rfl (Nat.lt_of_lt_of_le (by decide) hN) rfl (hR _ _ _ rfl) ?_
              refine E_bp (nI 6) dX12_otherwise_54 (by decide) ?_
              refine E_iload dX12_otherwise_56 rfl ?_
              refine E_imul dX12_otherwise_58 ?_
              refine E.top (pk_mul 6 j) ?_
              refine E_aload_n dX12_otherwise_59 rfl ?_
              refine E_getR dX12_otherwise_60 f_X12_100 rfl (Nat.lt_of_lt_of_le (by decide) hN) rfl (hR _ _ _ rfl) ?_
              refine E_iload dX12_otherwise_63 rfl ?_
              refine E_ialdN dX12_otherwise_65 rfl (Nat.lt_of_lt_of_le (by decide) hN) (by first | assumption | omega) ?_
              refine E.top (ho b (by omega)) ?_
              refine E_iadd dX12_otherwise_66 ?_
              refine E.top (nI_add (6 * j) (o b)) ?_
              refine E_ialdN dX12_otherwise_67 rfl (Nat.lt_of_lt_of_le (by decide) hN) (by have := hob b (by omega); omega) ?_
              refine E.top (hrk j (o b) hj (hob b (by omega))) ?_
              refine E_cN_le (a := rkS (tpS σ) (m * j) (o a) m) (b := rkS (tpS σ) (m * j) (o b) m) (tgt := 75) dX12_otherwise_68 (by have := rkS_le (tpS σ) (m * j) (o a) m; omega) (by have := rkS_le (tpS σ) (m * j) (o b) m; omega) (by decide) (fun c68 => ?_) (fun c68 => ?_)
              · refine E_incN dX12_otherwise_75 rfl ?_
                refine E_goto (tgt := 26) dX12_otherwise_78 (by decide) ?_
                have e : sumS (fun b => if a < b then bfR (tpS σ) (m * j) (o b) (o a) m else 0) (b + 1) = sumS (fun b => if a < b then bfR (tpS σ) (m * j) (o b) (o a) m else 0) b := by show sumS (fun b => if a < b then bfR (tpS σ) (m * j) (o b) (o a) m else 0) b + (if a < b then bfR (tpS σ) (m * j) (o b) (o a) m else 0) = _; rw [if_pos hc, bf_rk (by omega) (hok j hj) (hob b hb) (hob a ha) (fun z => hin b a hb ha (by omega) z), if_neg (by omega)]; rfl
                rw [e] at ih3
                exact ih3 (by omega)
              · refine E_iload_n dX12_otherwise_71 rfl ?_
                refine E_ic (nI 1) dX12_otherwise_72 (by decide) ?_
                refine E_iadd dX12_otherwise_73 ?_
                refine E.top (nI_add (sumS (fun j => sumS (fun a => sumS (fun b => if a < b then bfR (tpS σ) (m * j) (o b) (o a) m else 0) m) m) j + sumS (fun a => sumS (fun b => if a < b then bfR (tpS σ) (m * j) (o b) (o a) m else 0) m) a + sumS (fun b => if a < b then bfR (tpS σ) (m * j) (o b) (o a) m else 0) b) 1) ?_
                refine E_istore_n dX12_otherwise_74 (Nat.le_of_ble_eq_true rfl) ?_
                refine E_incN dX12_otherwise_75 rfl ?_
                refine E_goto (tgt := 26) dX12_otherwise_78 (by decide) ?_
                have e : sumS (fun b => if a < b then bfR (tpS σ) (m * j) (o b) (o a) m else 0) (b + 1) = sumS (fun b => if a < b then bfR (tpS σ) (m * j) (o b) (o a) m else 0) b + 1 := by show sumS (fun b => if a < b then bfR (tpS σ) (m * j) (o b) (o a) m else 0) b + (if a < b then bfR (tpS σ) (m * j) (o b) (o a) m else 0) = _; rw [if_pos hc, bf_rk (by omega) (hok j hj) (hob b hb) (hob a ha) (fun z => hin b a hb ha (by omega) z), if_pos c68]
                rw [show sumS (fun j => sumS (fun a => sumS (fun b => if a < b then bfR (tpS σ) (m * j) (o b) (o a) m else 0) m) m) j + sumS (fun a => sumS (fun b => if a < b then bfR (tpS σ) (m * j) (o b) (o a) m else 0) m) a + sumS (fun b => if a < b then bfR (tpS σ) (m * j) (o b) (o a) m else 0) (b + 1) = sumS (fun j => sumS (fun a => sumS (fun b => if a < b then bfR (tpS σ) (m * j) (o b) (o a) m else 0) m) m) j + sumS (fun a => sumS (fun b => if a < b then bfR (tpS σ) (m * j) (o b) (o a) m else 0) m) a + sumS (fun b => if a < b then bfR (tpS σ) (m * j) (o b) (o a) m else 0) b + 1 by rw [e]; omega] at ih3
                exact ih3 (by omega)
          refine E_iload dX12_otherwise_14 rfl ?_
          refine E_iload_n dX12_otherwise_16 rfl ?_
          refine E_cN_ge (a := a) (b := m) (tgt := 87) dX12_otherwise_17 (by omega) (by omega) (by decide) (fun c17 => absurd c17 (by omega)) (fun c17 => ?_)
          refine E_iload dX12_otherwise_20 rfl ?_
          refine E_ic (nI 1) dX12_otherwise_22 (by decide) ?_
          refine E_iadd dX12_otherwise_23 ?_
          refine E.top (nI_add a 1) ?_
          refine E_istore dX12_otherwise_24 (Nat.le_of_ble_eq_true rfl) ?_
          have L3 := L3 (a + 1) (by omega) (by omega)
          rw [show sumS (fun b => if a < b then bfR (tpS σ) (m * j) (o b) (o a) m else 0) (a + 1) = 0 from sum_0 _ (fun i hi => if_neg (by omega)), Nat.add_zero] at L3
          exact L3
      refine E_iload dX12_otherwise_5 rfl ?_
      refine E_iload_n dX12_otherwise_7 rfl ?_
      refine E_cN_ge (a := j) (b := T) (tgt := 93) dX12_otherwise_8 (by omega) (by omega) (by decide) (fun c8 => absurd c8 (by omega)) (fun c8 => ?_)
      refine E_ic (nI 0) dX12_otherwise_11 (by decide) ?_
      refine E_istore dX12_otherwise_12 (Nat.le_of_ble_eq_true rfl) ?_
      have L2 := L2 0 (Nat.zero_le _)
      rw [show sumS (fun a => sumS (fun b => if a < b then bfR (tpS σ) (m * j) (o b) (o a) m else 0) m) 0 = 0 from rfl, Nat.add_zero] at L2
      exact L2
  refine E_ic (nI 0) dX12_otherwise_0 (by decide) ?_
  refine E_istore_n dX12_otherwise_1 (Nat.le_of_ble_eq_true rfl) ?_
  refine E_ic (nI 0) dX12_otherwise_2 (by decide) ?_
  refine E_istore dX12_otherwise_3 (Nat.le_of_ble_eq_true rfl) ?_
  exact L1 0 (Nat.zero_le _)
set_option maxRecDepth 100000 in
set_option maxHeartbeats 2000000 in
theorem m_chg {m a b : Nat} {o : Nat → Nat} (hN : 152 ≤ n) (hR : RS R) (hm : m ≤ 6) (ho : ∀ k, k < m → I 144 k = nI (o k)) (ha : a < m) (hb : b < m) (hQ : ∀ I2 : IM, (∀ x, x ≠ 144 → I2 x = I x) → (∀ k, k < m → I2 144 k = nI (swF o a b k)) → Q none n I2 J R) : E g mX12_changesOrder d 0 0 0 (ent 4 [.ref 114, .int (nI a), .int (nI b)]) [] n I J R Q := by
  refine E_aload_n dX12_changesOrder_0 rfl ?_
  refine E_getR dX12_changesOrder_1 f_X12_100 rfl (Nat.lt_of_lt_of_le (by decide) hN) rfl (hR _ _ _ rfl) ?_
  refine E_iload_n dX12_changesOrder_4 rfl ?_
  refine E_ialdN dX12_changesOrder_5 rfl (Nat.lt_of_lt_of_le (by decide) hN) (by omega) ?_
  refine E.top (ho a (by omega)) ?_
  refine E_istore_n dX12_changesOrder_6 (Nat.le_of_ble_eq_true rfl) ?_
  refine E_aload_n dX12_changesOrder_7 rfl ?_
  refine E_getR dX12_changesOrder_8 f_X12_100 rfl (Nat.lt_of_lt_of_le (by decide) hN) rfl (hR _ _ _ rfl) ?_
  refine E_iload_n dX12_changesOrder_11 rfl ?_
  refine E_aload_n dX12_changesOrder_12 rfl ?_
  refine E_getR dX12_changesOrder_13 f_X12_100 rfl (Nat.lt_of_lt_of_le (by decide) hN) rfl (hR _ _ _ rfl) ?_
  refine E_iload_n dX12_changesOrder_16 rfl ?_
  refine E_ialdN dX12_changesOrder_17 rfl (Nat.lt_of_lt_of_le (by decide) hN) (by omega) ?_
  refine E.top (ho b (by omega)) ?_
  refine E_iastN dX12_changesOrder_18 rfl (Nat.lt_of_lt_of_le (by decide) hN) (by omega) ?_
  refine E_aload_n dX12_changesOrder_19 rfl ?_
  refine E_getR dX12_changesOrder_20 f_X12_100 rfl (Nat.lt_of_lt_of_le (by decide) hN) rfl (hR _ _ _ rfl) ?_
  refine E_iload_n dX12_changesOrder_23 rfl ?_
  refine E_iload_n dX12_changesOrder_24 rfl ?_
  refine E_iastN dX12_changesOrder_25 rfl (Nat.lt_of_lt_of_le (by decide) hN) (by omega) ?_
  exact E_ret dX12_changesOrder_26 rfl (hQ _ (fun x hx => (up2_o _ 144 _ _ x hx).trans (up2_o I 144 _ _ x hx)) (fun k hk => by
      unfold swF
      by_cases e1 : k = b
      · subst e1
        rw [if_pos rfl]
        exact up2_s _ _ _ _
      · rw [if_neg e1, up2_k _ _ e1]
        by_cases e2 : k = a
        · subst e2
          rw [if_pos rfl]
          exact up2_s _ _ _ _
        · rw [if_neg e2, up2_k _ _ e2]
          exact ho k hk))
set_option maxRecDepth 100000 in
set_option maxHeartbeats 2000000 in
theorem m_rev {m i jj : Nat} (hN : 152 ≤ n) (hR : RS R) (hm : m ≤ 6) : ∀ (f : Nat) (I : IM) (o : Nat → Nat) (a b : Nat), a ≤ m → b < m → b ≤ a + 2 * f → (∀ k, k < m → I 144 k = nI (o k)) → (∀ I2 : IM, (∀ x, x ≠ 144 → I2 x = I x) → (∀ k, k < m → I2 144 k = nI (rvS f o a b k)) → Q (some (.int 1)) n I2 J R) → E g mX12_nextOrder (d + 1) 0 0 80 [.ref 114, .int (nI m), .int (nI i), .int (nI jj), .int (nI a), .int (nI b)] [] n I J R Q := by
  intro f
  induction f with
  | zero =>
    intro I o a b ha hb hf ho hQ
    refine E_iload dX12_nextOrder_80 rfl ?_
    refine E_iload dX12_nextOrder_82 rfl ?_
    refine E_cN_ge (a := a) (b := b) (tgt := 104) dX12_nextOrder_84 (by omega) (by omega) (by decide) (fun c84 => ?_) (fun c84 => absurd c84 (by omega))
    refine E_ic (nI 1) dX12_nextOrder_104 (by decide) ?_
    exact E_zret dX12_nextOrder_105 rfl (by decide) (hQ I (fun _ _ => rfl) ho)
  | succ f ih =>
    intro I o a b ha hb hf ho hQ
    cases b with
    | zero =>
      refine E_iload dX12_nextOrder_80 rfl ?_
      refine E_iload dX12_nextOrder_82 rfl ?_
      refine E_cN_ge (a := a) (b := 0) (tgt := 104) dX12_nextOrder_84 (by omega) (by decide) (by decide) (fun c84 => ?_) (fun c84 => absurd c84 (by omega))
      refine E_ic (nI 1) dX12_nextOrder_104 (by decide) ?_
      exact E_zret dX12_nextOrder_105 rfl (by decide) (hQ I (fun _ _ => rfl) (fun k hk => by rw [show rvS (f + 1) o a 0 = o from if_neg (Nat.not_lt_zero a)]; exact ho k hk))
    | succ b =>
      refine E_iload dX12_nextOrder_80 rfl ?_
      refine E_iload dX12_nextOrder_82 rfl ?_
      refine E_cN_ge (a := a) (b := b + 1) (tgt := 104) dX12_nextOrder_84 (by omega) (by omega) (by decide) (fun c84 => ?_) (fun c84 => ?_)
      · refine E_ic (nI 1) dX12_nextOrder_104 (by decide) ?_
        exact E_zret dX12_nextOrder_105 rfl (by decide) (hQ I (fun _ _ => rfl) (fun k hk => by rw [show rvS (f + 1) o a (b + 1) = o from if_neg (by omega)]; exact ho k hk))
      · refine E_aload_n dX12_nextOrder_87 rfl ?_
        refine E_iload dX12_nextOrder_88 rfl ?_
        refine E_iload dX12_nextOrder_90 rfl ?_
        refine E_callV (As := [_, _]) (ci := 11) (kc' := 0) (ks' := 0) (kc := 0) (ks := 0) dX12_nextOrder_92 ok_X12_changesOrder w_X12_392 i_X12_changesOrder s_X12_changesOrder rfl (by decide) rfl (Nat.lt_of_lt_of_le (by decide) hN) rfl rfl rfl (Nat.le_of_ble_eq_true rfl) (Nat.le_of_ble_eq_true rfl) (Nat.le_refl _) (m_chg (d := d) hN hR hm ho (by omega) (by omega) (fun I2 f2 o2 => ?_))
        refine E_incN dX12_nextOrder_95 rfl ?_
        refine E_decN dX12_nextOrder_98 rfl ?_
        refine E_goto (tgt := 80) dX12_nextOrder_101 (by decide) ?_
        refine ih I2 (swF o a (b + 1)) (a + 1) b (by omega) (by omega) (by omega) o2 (fun I3 f3 o3 => ?_)
        refine hQ I3 (fun x hx => (f3 x hx).trans (f2 x hx)) (fun k hk => ?_)
        rw [o3 k hk, show rvS (f + 1) o a (b + 1) = rvS f (swF o a (b + 1)) (a + 1) (b + 1 - 1) from if_pos c84, Nat.add_sub_cancel]
set_option maxRecDepth 100000 in
set_option maxHeartbeats 2000000 in
theorem m_nextOrder {m : Nat} {o : Nat → Nat} (hN : 152 ≤ n) (hR : RS R) (hm2 : 2 ≤ m) (hm : m ≤ 6) (ho : ∀ k, k < m → I 144 k = nI (o k)) (hob : ∀ k, k < m → o k < m) (hnone : fIS o (m - 1) = 0 → Q (some (.int 0)) n I J R) (hsome : ∀ i, fIS o (m - 1) = i + 1 → ∀ I2 : IM, (∀ x, x ≠ 144 → I2 x = I x) → (∀ k, k < m → I2 144 k = nI (nxS m i o k)) → Q (some (.int 1)) n I2 J R) : E g mX12_nextOrder (d + 1) 0 0 0 (ent 6 [.ref 114, .int (nI m)]) [] n I J R Q := by
  have H38 : ∀ i, fIS o (m - 1) = i + 1 → i + 1 ≤ m - 1 → o i ≤ o (i + 1) → E g mX12_nextOrder (d + 1) 0 0 38 [.ref 114, .int (nI m), .int (nI i), jk, jk, jk] [] n I J R Q := by
    intro i hi hi2 hle
    have L2 : ∀ j, i < j → j < m → fJS o (o i) (j + 1) = fJS o (o i) m → E g mX12_nextOrder (d + 1) 0 0 42 [.ref 114, .int (nI m), .int (nI i), .int (nI j), jk, jk] [] n I J R Q := by
      refine loopD ?_ (fun j ih => ?_)
      · intro h
        exact absurd h (Nat.not_lt_zero i)
      · intro hij hjm hj
        refine E_aload_n dX12_nextOrder_42 rfl ?_
        refine E_getR dX12_nextOrder_43 f_X12_100 rfl (Nat.lt_of_lt_of_le (by decide) hN) rfl (hR _ _ _ rfl) ?_
        refine E_iload_n dX12_nextOrder_46 rfl ?_
        refine E_ialdN dX12_nextOrder_47 rfl (Nat.lt_of_lt_of_le (by decide) hN) (by omega) ?_
        refine E.top (ho (j + 1) (by omega)) ?_
        refine E_aload_n dX12_nextOrder_48 rfl ?_
        refine E_getR dX12_nextOrder_49 f_X12_100 rfl (Nat.lt_of_lt_of_le (by decide) hN) rfl (hR _ _ _ rfl) ?_
        refine E_iload_n dX12_nextOrder_52 rfl ?_
        refine E_ialdN dX12_nextOrder_53 rfl (Nat.lt_of_lt_of_le (by decide) hN) (by omega) ?_
        refine E.top (ho i (by omega)) ?_
        refine E_cN_ge (a := o (j + 1)) (b := o i) (tgt := 64) dX12_nextOrder_54 (by have := hob (j + 1) (by omega); omega) (by have := hob i (by omega); omega) (by decide) (fun c54 => ?_) (fun c54 => ?_)
        · refine E_aload_n dX12_nextOrder_64 rfl ?_
          refine E_iload_n dX12_nextOrder_65 rfl ?_
          refine E_iload_n dX12_nextOrder_66 rfl ?_
          refine E_callV (As := [_, _]) (ci := 11) (kc' := 0) (ks' := 0) (kc := 0) (ks := 0) dX12_nextOrder_67 ok_X12_changesOrder w_X12_392 i_X12_changesOrder s_X12_changesOrder rfl (by decide) rfl (Nat.lt_of_lt_of_le (by decide) hN) rfl rfl rfl (Nat.le_of_ble_eq_true rfl) (Nat.le_of_ble_eq_true rfl) (Nat.le_refl _) (m_chg (d := d) hN hR hm ho (by omega) (by omega) (fun I2 f2 o2 => ?_))
          refine E_iload_n dX12_nextOrder_70 rfl ?_
          refine E_ic (nI 1) dX12_nextOrder_71 (by decide) ?_
          refine E_iadd dX12_nextOrder_72 ?_
          refine E.top (nI_add i 1) ?_
          refine E_istore dX12_nextOrder_73 (Nat.le_of_ble_eq_true rfl) ?_
          refine E_iload_n dX12_nextOrder_75 rfl ?_
          refine E_ic (nI 1) dX12_nextOrder_76 (by decide) ?_
          refine E_isub dX12_nextOrder_77 ?_
          refine E.top (pk_sub (a := m) (b := 1) (by omega)) ?_
          refine E_istore dX12_nextOrder_78 (Nat.le_of_ble_eq_true rfl) ?_
          refine m_rev hN hR hm 6 I2 (swF o i (j + 1)) (i + 1) (m - 1) (by omega) (by omega) (by omega) o2 (fun I3 f3 o3 => ?_)
          refine hsome i hi I3 (fun x hx => (f3 x hx).trans (f2 x hx)) (fun k hk => ?_)
          rw [o3 k hk]
          unfold nxS
          rw [← hj, show fJS o (o i) (j + 1 + 1) = j + 1 from if_neg (by omega)]
        · refine E_iload_n dX12_nextOrder_57 rfl ?_
          refine E_ic (nI 1) dX12_nextOrder_58 (by decide) ?_
          refine E_isub dX12_nextOrder_59 ?_
          refine E.top (pk_sub (a := j + 1) (b := 1) (by omega)) ?_
          refine E.top (congrArg nI (Nat.add_sub_cancel (n := j) (m := 1))) ?_
          refine E_istore_n dX12_nextOrder_60 (Nat.le_of_ble_eq_true rfl) ?_
          refine E_goto (tgt := 42) dX12_nextOrder_61 (by decide) ?_
          have hne : j ≠ i := fun e => by rw [e] at c54; omega
          exact ih (by omega) (by omega) (by rw [← hj, show fJS o (o i) (j + 1 + 1) = fJS o (o i) (j + 1) from if_pos c54])
    refine E_iload_n dX12_nextOrder_38 rfl ?_
    refine E_ic (nI 1) dX12_nextOrder_39 (by decide) ?_
    refine E_isub dX12_nextOrder_40 ?_
    refine E.top (pk_sub (a := m) (b := 1) (by omega)) ?_
    refine E_istore_n dX12_nextOrder_41 (Nat.le_of_ble_eq_true rfl) ?_
    exact L2 (m - 1) (by omega) (by omega) (by rw [Nat.sub_add_cancel (by omega)])
  have L1 : ∀ q, q ≤ m - 1 → fIS o q = fIS o (m - 1) → E g mX12_nextOrder (d + 1) 0 0 4 [.ref 114, .int (nI m), .int (dnI q), jk, jk, jk] [] n I J R Q := by
    refine loopD ?_ (fun q ih => ?_)
    · intro _ hf
      refine E_iload_n dX12_nextOrder_4 rfl ?_
      refine E_if_lt (tgt := 32) dX12_nextOrder_5 (by decide) (fun c5 => ?_) (fun c5 => by first | exact absurd c5 ((by decide)) | exact absurd ((by decide)) c5)
      refine E_iload_n dX12_nextOrder_32 rfl ?_
      refine E_if_ge (tgt := 38) dX12_nextOrder_33 (by decide) (fun c33 => by first | exact absurd c33 ((by decide)) | exact absurd ((by decide)) c33) (fun c33 => ?_)
      refine E_ic (nI 0) dX12_nextOrder_36 (by decide) ?_
      exact E_zret dX12_nextOrder_37 rfl (by decide) (hnone hf.symm)
    · intro hq hf
      refine E.locD ?_
      refine E_iload_n dX12_nextOrder_4 rfl ?_
      refine E_zN_lt (a := q) (tgt := 32) dX12_nextOrder_5 (by omega) (by decide) (fun c5 => c5.elim) (fun c5 => ?_)
      refine E_aload_n dX12_nextOrder_8 rfl ?_
      refine E_getR dX12_nextOrder_9 f_X12_100 rfl (Nat.lt_of_lt_of_le (by decide) hN) rfl (hR _ _ _ rfl) ?_
      refine E_iload_n dX12_nextOrder_12 rfl ?_
      refine E_ialdN dX12_nextOrder_13 rfl (Nat.lt_of_lt_of_le (by decide) hN) (by omega) ?_
      refine E.top (ho q (by omega)) ?_
      refine E_aload_n dX12_nextOrder_14 rfl ?_
      refine E_getR dX12_nextOrder_15 f_X12_100 rfl (Nat.lt_of_lt_of_le (by decide) hN) rfl (hR _ _ _ rfl) ?_
      refine E_iload_n dX12_nextOrder_18 rfl ?_
      refine E_ic (nI 1) dX12_nextOrder_19 (by decide) ?_
      refine E_iadd dX12_nextOrder_20 ?_
      refine E.top (nI_add q 1) ?_
      refine E_ialdN dX12_nextOrder_21 rfl (Nat.lt_of_lt_of_le (by decide) hN) (by omega) ?_
      refine E.top (ho (q + 1) (by omega)) ?_
      refine E_cN_le (a := o q) (b := o (q + 1)) (tgt := 32) dX12_nextOrder_22 (by have := hob q (by omega); omega) (by have := hob (q + 1) (by omega); omega) (by decide) (fun c22 => ?_) (fun c22 => ?_)
      · refine E_iload_n dX12_nextOrder_32 rfl ?_
        refine E_zN_ge (a := q) (tgt := 38) dX12_nextOrder_33 (by omega) (by decide) (fun c33 => ?_) (fun c33 => c33.elim)
        exact H38 q (by rw [← hf]; exact if_neg (by omega)) (by omega) c22
      · refine E_iload_n dX12_nextOrder_25 rfl ?_
        refine E_ic (nI 1) dX12_nextOrder_26 (by decide) ?_
        refine E_isub dX12_nextOrder_27 ?_
        refine E.top (pred_dn q) ?_
        refine E_istore_n dX12_nextOrder_28 (Nat.le_of_ble_eq_true rfl) ?_
        refine E_goto (tgt := 4) dX12_nextOrder_29 (by decide) ?_
        exact ih (by omega) (by rw [← hf]; exact (if_pos c22).symm)
  refine E_iload_n dX12_nextOrder_0 rfl ?_
  refine E_ic (nI 2) dX12_nextOrder_1 (by decide) ?_
  refine E_isub dX12_nextOrder_2 ?_
  refine E.top (show nI m - nI 2 = dnI (m - 1) by rw [pk_sub (show 2 ≤ m by omega), show m - 1 = (m - 2) + 1 by omega]; rfl) ?_
  refine E_istore_n dX12_nextOrder_3 (Nat.le_of_ble_eq_true rfl) ?_
  exact L1 (m - 1) (Nat.le_refl _) rfl
theorem sum_le {f : Nat → Nat} {b : Nat} : ∀ N, (∀ i, i < N → f i ≤ b) → sumS f N ≤ b * N
  | 0, _ => Nat.zero_le _
  | N + 1, h => by
    have h1 := sum_le N (fun i hi => h i (by omega))
    have h2 := h N (by omega)
    show sumS f N + f N ≤ _
    rw [Nat.mul_succ]
    omega
theorem pr_le {m T : Nat} (o : Nat → Nat) (hm : m ≤ 6) (hT : T ≤ 9) : prS (fun l w => ahS (tpS σ) m l w T) o m ≤ 10000 := by
  have h1 : ∀ l w, ahS (tpS σ) m l w T ≤ 54 := fun l w => Nat.le_trans (ahS_le _ m l w T) (Nat.mul_le_mul hm hT)
  have h2 : ∀ a, a < m → sumS (fun b => if a < b then ahS (tpS σ) m (o b) (o a) T else 0) m ≤ 54 * m := fun a _ => sum_le m (fun b _ => by split; exact h1 _ _; exact Nat.zero_le _)
  have h3 : prS (fun l w => ahS (tpS σ) m l w T) o m ≤ 54 * m * m := sum_le m h2
  have h4 : 54 * m * m ≤ 54 * 6 * 6 := Nat.mul_le_mul (Nat.mul_le_mul_left 54 hm) hm
  omega
set_option maxRecDepth 100000 in
set_option maxHeartbeats 2000000 in
theorem m_tloop {m T : Nat} {v : Int32} (hN : 152 ≤ n) (hR : RS R) (hm2 : 2 ≤ m) (hm : m ≤ 6) (hT9 : T ≤ 9) (hok : ∀ j, j < T → okR (tpS σ) m (m * j) m) : ∀ (r : List (List Nat)) (L : List Nat) (acc : Nat × List Nat) (I : IM), chB m (L :: r) = true → acc.1 ≤ 1000000 → (∀ k, k < m → I 144 k = nI (lgF L k)) → (∀ q x, q < T → x < m → I 146 (6 * q + x) = nI (rkS (tpS σ) (m * q) x m)) → (acc.1 < 1000000 → ∀ k, k < m → I 145 k = nI (lgF acc.2 k)) → (∀ I2 : IM, (∀ x, x ≠ 144 → x ≠ 145 → I2 x = I x) → ((fmS (tpS σ) m T acc (L :: r)).1 < 1000000 → ∀ k, k < m → I2 145 k = nI (lgF (fmS (tpS σ) m T acc (L :: r)).2 k)) → E g mX12_tasters (d + 2) 0 0 161 [.ref 114, .int (nI m), .int (nI T), .int v, .int (nI ((fmS (tpS σ) m T acc (L :: r)).1)), .int (nI 0), jk, jk] [] n I2 J R Q) → E g mX12_tasters (d + 2) 0 0 98 [.ref 114, .int (nI m), .int (nI T), .int v, .int (nI (acc.1)), .int (nI 1), jk, jk] [] n I J R Q := by
  intro r
  induction r with
  | nil =>
    intro L acc I hch hac ho hrk hbest h161
    obtain ⟨o0, o1, o2⟩ := okL_p (ch_ok hch)
    have pb := pr_le (σ := σ) (T := T) (lgF L) hm hT9
    have H151 : ∀ (I3 : IM) (a2 : Nat × List Nat), (∀ x, x ≠ 145 → I3 x = I x) → (a2.1 < 1000000 → ∀ k, k < m → I3 145 k = nI (lgF a2.2 k)) → (if prS (fun l w => ahS (tpS σ) m l w T) (lgF L) m < acc.1 then (prS (fun l w => ahS (tpS σ) m l w T) (lgF L) m, L) else acc) = a2 → E g mX12_tasters (d + 2) 0 0 151 [.ref 114, .int (nI m), .int (nI T), .int v, .int (nI (a2.1)), .int (nI 1), .int (nI (prS (fun l w => ahS (tpS σ) m l w T) (lgF L) m)), jk] [] n I3 J R Q := by
      intro I3 a2 g3 b3 he
      have ha2 : a2.1 ≤ 1000000 := by
        rw [← he]
        split
        · show prS (fun l w => ahS (tpS σ) m l w T) (lgF L) m ≤ 1000000
          omega
        · exact hac
      refine E_aload_n dX12_tasters_151 rfl ?_
      refine E_iload_n dX12_tasters_152 rfl ?_
      refine E_callV (As := [_]) (ci := 11) (kc' := 0) (ks' := 0) (kc := 0) (ks := 0) dX12_tasters_153 ok_X12_nextOrder w_X12_402 i_X12_nextOrder s_X12_nextOrder rfl (by decide) rfl (Nat.lt_of_lt_of_le (by decide) hN) rfl rfl rfl (Nat.le_of_ble_eq_true rfl) (Nat.le_of_ble_eq_true rfl) (Nat.le_refl _) (m_nextOrder (d := d) (o := lgF L) hN hR hm2 hm (fun k hk => (congrFun (g3 144 (by decide)) k).trans (ho k hk)) o1 (fun z => ?_) (fun i hi => absurd hi (by rw [ch_last hch]; exact fun y => Nat.noConfusion y)))
      · skip
        refine E_istore dX12_tasters_156 (Nat.le_of_ble_eq_true rfl) ?_
        refine E_goto (tgt := 98) dX12_tasters_158 (by decide) ?_
        refine E_iload dX12_tasters_98 rfl ?_
        refine E_zN_eq (a := 0) (tgt := 161) dX12_tasters_100 (by decide) (by decide) (fun c100 => ?_) (fun c100 => absurd c100 (by omega))
        refine E.mask [true, true, true, true, true, true, false, false] ?_
        rw [show (fmS (tpS σ) m T acc (L :: [])) = a2 from he] at h161
        exact h161 I3 (fun x h1 h2 => g3 x h2) b3
    refine E_iload dX12_tasters_98 rfl ?_
    refine E_zN_eq (a := 1) (tgt := 161) dX12_tasters_100 (by decide) (by decide) (fun c100 => absurd c100 (by omega)) (fun c100 => ?_)
    refine E_aload_n dX12_tasters_103 rfl ?_
    refine E_iload_n dX12_tasters_104 rfl ?_
    refine E_iload_n dX12_tasters_105 rfl ?_
    refine E_callV (As := [_, _]) (ci := 11) (kc' := 0) (ks' := 0) (kc := 0) (ks := 0) dX12_tasters_106 ok_X12_otherwise w_X12_399 i_X12_otherwise s_X12_otherwise rfl (by decide) rfl (Nat.lt_of_lt_of_le (by decide) hN) rfl rfl rfl (Nat.le_of_ble_eq_true rfl) (Nat.le_of_ble_eq_true rfl) (Nat.le_refl _) (m_otherwise (d := d + 1) hN hR hm hT9 ho o1 o2 hok hrk ?_)
    refine E_istore dX12_tasters_109 (Nat.le_of_ble_eq_true rfl) ?_
    refine E_iload dX12_tasters_111 rfl ?_
    refine E_iload dX12_tasters_113 rfl ?_
    refine E_cN_ge (a := prS (fun l w => ahS (tpS σ) m l w T) (lgF L) m) (b := acc.1) (tgt := 151) dX12_tasters_115 (by omega) (by omega) (by decide) (fun c115 => ?_) (fun c115 => ?_)
    · exact H151 I acc (fun _ _ => rfl) hbest (if_neg (by omega))
    · refine E_iload dX12_tasters_118 rfl ?_
      refine E_istore dX12_tasters_120 (Nat.le_of_ble_eq_true rfl) ?_
      have hlt : prS (fun l w => ahS (tpS σ) m l w T) (lgF L) m < acc.1 := c115
      have L3 : ∀ k, k ≤ m → ∀ I3 : IM, ((∀ x, x ≠ 145 → I3 x = I x) ∧ ∀ q, q < k → I3 145 q = nI (lgF L q)) → E g mX12_tasters (d + 2) 0 0 125 [.ref 114, .int (nI m), .int (nI T), .int v, .int (nI (prS (fun l w => ahS (tpS σ) m l w T) (lgF L) m)), .int (nI 1), .int (nI (prS (fun l w => ahS (tpS σ) m l w T) (lgF L) m)), .int (nI k)] [] n I3 J R Q := by
        refine loopU m (fun I3 hv => ?_) (fun k hk ih3 I3 hv => ?_)
        · refine E_iload dX12_tasters_125 rfl ?_
          refine E_iload_n dX12_tasters_127 rfl ?_
          refine E_cN_ge (a := m) (b := m) (tgt := 151) dX12_tasters_128 (by omega) (by omega) (by decide) (fun c128 => ?_) (fun c128 => absurd c128 (by omega))
          refine E.mask [true, true, true, true, true, true, true, false] ?_
          exact H151 I3 (prS (fun l w => ahS (tpS σ) m l w T) (lgF L) m, L) hv.1 (fun _ => hv.2) (if_pos hlt)
        · refine E_iload dX12_tasters_125 rfl ?_
          refine E_iload_n dX12_tasters_127 rfl ?_
          refine E_cN_ge (a := k) (b := m) (tgt := 151) dX12_tasters_128 (by omega) (by omega) (by decide) (fun c128 => absurd c128 (by omega)) (fun c128 => ?_)
          refine E_aload_n dX12_tasters_131 rfl ?_
          refine E_getR dX12_tasters_132 f_X12_103 rfl (Nat.lt_of_lt_of_le (by decide) hN) rfl (hR _ _ _ rfl) ?_
          refine E_iload dX12_tasters_135 rfl ?_
          refine E_aload_n dX12_tasters_137 rfl ?_
          refine E_getR dX12_tasters_138 f_X12_100 rfl (Nat.lt_of_lt_of_le (by decide) hN) rfl (hR _ _ _ rfl) ?_
          refine E_iload dX12_tasters_141 rfl ?_
          refine E_ialdN dX12_tasters_143 rfl (Nat.lt_of_lt_of_le (by decide) hN) (by omega) ?_
          refine E.top ((congrFun (hv.1 144 (by decide)) k).trans (ho k hk)) ?_
          refine E_iastN dX12_tasters_144 rfl (Nat.lt_of_lt_of_le (by decide) hN) (by omega) ?_
          refine E_incN dX12_tasters_145 rfl ?_
          refine E_goto (tgt := 125) dX12_tasters_148 (by decide) ?_
          refine ih3 _ ⟨fun x hx => (up2_o I3 145 _ _ x hx).trans (hv.1 x hx), fun q hq => ?_⟩
          rcases Nat.lt_succ_iff_lt_or_eq.mp hq with z | z
          · rw [up2_k I3 _ (by omega)]
            exact hv.2 q z
          · subst z
            exact up2_s _ _ _ _
      refine E_ic (nI 0) dX12_tasters_122 (by decide) ?_
      refine E_istore dX12_tasters_123 (Nat.le_of_ble_eq_true rfl) ?_
      exact L3 0 (Nat.zero_le _) I ⟨fun _ _ => rfl, fun q hq => absurd hq (Nat.not_lt_zero q)⟩
  | cons L' r ih =>
    intro L acc I hch hac ho hrk hbest h161
    obtain ⟨o0, o1, o2⟩ := okL_p (ch_ok hch)
    obtain ⟨⟨i1, n1, n2⟩, hch2⟩ := ch_next hch
    have pb := pr_le (σ := σ) (T := T) (lgF L) hm hT9
    have H151 : ∀ (I3 : IM) (a2 : Nat × List Nat), (∀ x, x ≠ 145 → I3 x = I x) → (a2.1 < 1000000 → ∀ k, k < m → I3 145 k = nI (lgF a2.2 k)) → (if prS (fun l w => ahS (tpS σ) m l w T) (lgF L) m < acc.1 then (prS (fun l w => ahS (tpS σ) m l w T) (lgF L) m, L) else acc) = a2 → E g mX12_tasters (d + 2) 0 0 151 [.ref 114, .int (nI m), .int (nI T), .int v, .int (nI (a2.1)), .int (nI 1), .int (nI (prS (fun l w => ahS (tpS σ) m l w T) (lgF L) m)), jk] [] n I3 J R Q := by
      intro I3 a2 g3 b3 he
      have ha2 : a2.1 ≤ 1000000 := by
        rw [← he]
        split
        · show prS (fun l w => ahS (tpS σ) m l w T) (lgF L) m ≤ 1000000
          omega
        · exact hac
      refine E_aload_n dX12_tasters_151 rfl ?_
      refine E_iload_n dX12_tasters_152 rfl ?_
      refine E_callV (As := [_]) (ci := 11) (kc' := 0) (ks' := 0) (kc := 0) (ks := 0) dX12_tasters_153 ok_X12_nextOrder w_X12_402 i_X12_nextOrder s_X12_nextOrder rfl (by decide) rfl (Nat.lt_of_lt_of_le (by decide) hN) rfl rfl rfl (Nat.le_of_ble_eq_true rfl) (Nat.le_of_ble_eq_true rfl) (Nat.le_refl _) (m_nextOrder (d := d) (o := lgF L) hN hR hm2 hm (fun k hk => (congrFun (g3 144 (by decide)) k).trans (ho k hk)) o1 (fun z => absurd z (by rw [n1]; exact fun y => Nat.noConfusion y)) (fun i2 hi2 I4 f4 o4 => ?_))
      · skip
        refine E_istore dX12_tasters_156 (Nat.le_of_ble_eq_true rfl) ?_
        refine E_goto (tgt := 98) dX12_tasters_158 (by decide) ?_
        refine E.mask [true, true, true, true, true, true, false, false] ?_
        have e2 : i2 = i1 := by rw [n1] at hi2; omega
        subst e2
        refine ih L' a2 I4 hch2 ha2 (fun k hk => by rw [o4 k hk, n2 k hk]) (fun q x hq hx => ?_) (fun h k hk => ?_) (fun I5 f5 b5 => ?_)
        · rw [f4 146 (by decide), g3 146 (by decide)]
          exact hrk q x hq hx
        · rw [f4 145 (by decide)]
          exact b3 h k hk
        · rw [show (fmS (tpS σ) m T acc (L :: (L' :: r))) = fmS (tpS σ) m T a2 (L' :: r) from by rw [← he]; rfl] at h161
          exact h161 I5 (fun x h1 h2 => (f5 x h1 h2).trans ((f4 x h1).trans (g3 x h2))) b5
    refine E_iload dX12_tasters_98 rfl ?_
    refine E_zN_eq (a := 1) (tgt := 161) dX12_tasters_100 (by decide) (by decide) (fun c100 => absurd c100 (by omega)) (fun c100 => ?_)
    refine E_aload_n dX12_tasters_103 rfl ?_
    refine E_iload_n dX12_tasters_104 rfl ?_
    refine E_iload_n dX12_tasters_105 rfl ?_
    refine E_callV (As := [_, _]) (ci := 11) (kc' := 0) (ks' := 0) (kc := 0) (ks := 0) dX12_tasters_106 ok_X12_otherwise w_X12_399 i_X12_otherwise s_X12_otherwise rfl (by decide) rfl (Nat.lt_of_lt_of_le (by decide) hN) rfl rfl rfl (Nat.le_of_ble_eq_true rfl) (Nat.le_of_ble_eq_true rfl) (Nat.le_refl _) (m_otherwise (d := d + 1) hN hR hm hT9 ho o1 o2 hok hrk ?_)
    refine E_istore dX12_tasters_109 (Nat.le_of_ble_eq_true rfl) ?_
    refine E_iload dX12_tasters_111 rfl ?_
    refine E_iload dX12_tasters_113 rfl ?_
    refine E_cN_ge (a := prS (fun l w => ahS (tpS σ) m l w T) (lgF L) m) (b := acc.1) (tgt := 151) dX12_tasters_115 (by omega) (by omega) (by decide) (fun c115 => ?_) (fun c115 => ?_)
    · exact H151 I acc (fun _ _ => rfl) hbest (if_neg (by omega))
    · refine E_iload dX12_tasters_118 rfl ?_
      refine E_istore dX12_tasters_120 (Nat.le_of_ble_eq_true rfl) ?_
      have hlt : prS (fun l w => ahS (tpS σ) m l w T) (lgF L) m < acc.1 := c115
      have L3 : ∀ k, k ≤ m → ∀ I3 : IM, ((∀ x, x ≠ 145 → I3 x = I x) ∧ ∀ q, q < k → I3 145 q = nI (lgF L q)) → E g mX12_tasters (d + 2) 0 0 125 [.ref 114, .int (nI m), .int (nI T), .int v, .int (nI (prS (fun l w => ahS (tpS σ) m l w T) (lgF L) m)), .int (nI 1), .int (nI (prS (fun l w => ahS (tpS σ) m l w T) (lgF L) m)), .int (nI k)] [] n I3 J R Q := by
        refine loopU m (fun I3 hv => ?_) (fun k hk ih3 I3 hv => ?_)
        · refine E_iload dX12_tasters_125 rfl ?_
          refine E_iload_n dX12_tasters_127 rfl ?_
          refine E_cN_ge (a := m) (b := m) (tgt := 151) dX12_tasters_128 (by omega) (by omega) (by decide) (fun c128 => ?_) (fun c128 => absurd c128 (by omega))
          refine E.mask [true, true, true, true, true, true, true, false] ?_
          exact H151 I3 (prS (fun l w => ahS (tpS σ) m l w T) (lgF L) m, L) hv.1 (fun _ => hv.2) (if_pos hlt)
        · refine E_iload dX12_tasters_125 rfl ?_
          refine E_iload_n dX12_tasters_127 rfl ?_
          refine E_cN_ge (a := k) (b := m) (tgt := 151) dX12_tasters_128 (by omega) (by omega) (by decide) (fun c128 => absurd c128 (by omega)) (fun c128 => ?_)
          refine E_aload_n dX12_tasters_131 rfl ?_
          refine E_getR dX12_tasters_132 f_X12_103 rfl (Nat.lt_of_lt_of_le (by decide) hN) rfl (hR _ _ _ rfl) ?_
          refine E_iload dX12_tasters_135 rfl ?_
          refine E_aload_n dX12_tasters_137 rfl ?_
          refine E_getR dX12_tasters_138 f_X12_100 rfl (Nat.lt_of_lt_of_le (by decide) hN) rfl (hR _ _ _ rfl) ?_
          refine E_iload dX12_tasters_141 rfl ?_
          refine E_ialdN dX12_tasters_143 rfl (Nat.lt_of_lt_of_le (by decide) hN) (by omega) ?_
          refine E.top ((congrFun (hv.1 144 (by decide)) k).trans (ho k hk)) ?_
          refine E_iastN dX12_tasters_144 rfl (Nat.lt_of_lt_of_le (by decide) hN) (by omega) ?_
          refine E_incN dX12_tasters_145 rfl ?_
          refine E_goto (tgt := 125) dX12_tasters_148 (by decide) ?_
          refine ih3 _ ⟨fun x hx => (up2_o I3 145 _ _ x hx).trans (hv.1 x hx), fun q hq => ?_⟩
          rcases Nat.lt_succ_iff_lt_or_eq.mp hq with z | z
          · rw [up2_k I3 _ (by omega)]
            exact hv.2 q z
          · subst z
            exact up2_s _ _ _ _
      refine E_ic (nI 0) dX12_tasters_122 (by decide) ?_
      refine E_istore dX12_tasters_123 (Nat.le_of_ble_eq_true rfl) ?_
      exact L3 0 (Nat.zero_le _) I ⟨fun _ _ => rfl, fun q hq => absurd hq (Nat.not_lt_zero q)⟩
set_option maxRecDepth 100000 in
theorem lx_head {m : Nat} (h2 : 2 ≤ m) (h6 : m ≤ 6) : ∃ r, lxP m m 0 = List.range m :: r := by
  have key : ∀ m, m < 7 → 2 ≤ m → (lxP m m 0).head? = some (List.range m) := by decide +kernel
  have e := key m (by omega) h2
  cases h : lxP m m 0 with
  | nil => rw [h] at e; cases e
  | cons a r =>
    rw [h] at e
    exact ⟨r, by rw [Option.some.inj e]⟩
set_option maxRecDepth 100000 in
set_option maxHeartbeats 2000000 in
theorem sm_tasters (x w v : Int32) : SM mX12_tasters [.int x, .int w, .int v] (r_tasters x w v) (u_tasters x w v) := by
  intro g n I J R σ Q hB hM hN hR hQ
  have b9 : σ 9 0 0 ≤ 260 := hB.2.2.2.2.2.1
  unfold r_tasters u_tasters at hQ
  have hNO : ¬ gT σ x w v → Q (some (.int (-1))) n I J R := fun hno => by
    rw [gd_f hno] at hQ
    rw [gd_f hno] at hQ
    exact hQ I J hM (fun _ _ => rfl) rfl (fun _ _ _ => rfl)
  by_cases hx : ∃ m, 2 ≤ m ∧ m ≤ 6 ∧ x = nI m
  · obtain ⟨m, m1, m2, rfl⟩ := hx
    by_cases hw : ∃ T, 1 ≤ T ∧ T ≤ 9 ∧ w = nI T
    · obtain ⟨T, t1, t2, rfl⟩ := hw
      have mT := Nat.mul_le_mul m2 t2
      by_cases hp : plS v m
      · have hg : m * T ≤ σ 9 0 0 → gT σ (nI m) (nI T) v := fun h => ⟨m, T, ⟨m1, m2, rfl, t1, t2, rfl, h⟩, hp⟩
        have hng : ¬ m * T ≤ σ 9 0 0 → ¬ gT σ (nI m) (nI T) v := fun h z => by obtain ⟨m2, T2, ⟨a1, a2, a3, a4, a5, a6, a7⟩, a8⟩ := z; have e1 := (nI_eq (by omega) (by omega)).mp a3; have e2 := (nI_eq (by omega) (by omega)).mp a6; subst e1; subst e2; exact h a7
        by_cases hm9 : m * T ≤ σ 9 0 0
        · rw [gd_t (hg hm9)] at hQ
          rw [gd_t (hg hm9), nI_clamp (n := m) (by omega), nI_clamp (n := T) (by omega)] at hQ
          have hT : MT σ ((up2 I 114 7 (nI 0)) 121) := hM.2.2.2.2.1
          have hp0 := hp
          rcases hp0 with rfl | ⟨k, hk, rfl⟩
          · skip
            refine E_iload_n dX12_tasters_0 rfl ?_
            refine E_ic (nI 2) dX12_tasters_1 (by decide) ?_
            refine E_bp (nI 6) dX12_tasters_2 (by decide) ?_
            refine E_callS (As := [_, _, _]) (kc' := 0) (ks' := 0) (kc := 0) (ks := 0) dX12_tasters_4 ok_X12_in w_X12_124 st_X12_in rfl rfl rfl (Nat.le_of_ble_eq_true rfl) (Nat.le_of_ble_eq_true rfl) (Nat.le_refl _) (M_in (x := nI m) (by decide) (by decide) (fun _ _ _ _ => ?_) (fun z => ?_))
            · skip
              refine E_zN_eq (a := 1) (tgt := 47) dX12_tasters_7 (by decide) (by decide) (fun c7 => absurd c7 (by omega)) (fun c7 => ?_)
              refine E_iload_n dX12_tasters_10 rfl ?_
              refine E_ic (nI 1) dX12_tasters_11 (by decide) ?_
              refine E_bp (nI 9) dX12_tasters_12 (by decide) ?_
              refine E_callS (As := [_, _, _]) (kc' := 0) (ks' := 0) (kc := 0) (ks := 0) dX12_tasters_14 ok_X12_in w_X12_124 st_X12_in rfl rfl rfl (Nat.le_of_ble_eq_true rfl) (Nat.le_of_ble_eq_true rfl) (Nat.le_refl _) (M_in (x := nI T) (by decide) (by decide) (fun _ _ _ _ => ?_) (fun z => ?_))
              · skip
                refine E_zN_eq (a := 1) (tgt := 47) dX12_tasters_17 (by decide) (by decide) (fun c17 => absurd c17 (by omega)) (fun c17 => ?_)
                refine E_iload_n dX12_tasters_20 rfl ?_
                refine E_ic (nI 0) dX12_tasters_21 (by decide) ?_
                refine E_iload_n dX12_tasters_22 rfl ?_
                refine E_ic (nI 1) dX12_tasters_23 (by decide) ?_
                refine E_isub dX12_tasters_24 ?_
                refine E.top (pk_sub (a := m) (b := 1) (by omega)) ?_
                refine E_callS (As := [_, _, _]) (kc' := 0) (ks' := 0) (kc := 0) (ks := 0) dX12_tasters_25 ok_X12_in w_X12_124 st_X12_in rfl rfl rfl (Nat.le_of_ble_eq_true rfl) (Nat.le_of_ble_eq_true rfl) (Nat.le_refl _) (M_in (x := nI 100) (by decide) (by omega) (fun k q1 q2 q3 => ?_) (fun z => ?_))
                · skip
                  exact absurd ((nI_eq (by decide) (by omega)).mp q3) (by omega)
                · skip
                  refine E_zN_ne (a := 0) (tgt := 37) dX12_tasters_28 (by decide) (by decide) (fun c28 => absurd c28 (by omega)) (fun c28 => ?_)
                  refine E_iload_n dX12_tasters_31 rfl ?_
                  refine E_bp (nI 100) dX12_tasters_32 (by decide) ?_
                  refine E_cN_ne (a := 100) (b := 100) (tgt := 47) dX12_tasters_34 (by decide) (by decide) (by decide) (fun c34 => absurd c34 (by omega)) (fun c34 => ?_)
                  refine E_iload_n dX12_tasters_37 rfl ?_
                  refine E_iload_n dX12_tasters_38 rfl ?_
                  refine E_imul dX12_tasters_39 ?_
                  refine E.top (pk_mul m T) ?_
                  refine E_aload_n dX12_tasters_40 rfl ?_
                  refine E_getI dX12_tasters_41 f_X12_128 rfl (Nat.lt_of_lt_of_le (by decide) hN) rfl ?_
                  refine E.top (hM.2.2.2.1.1) ?_
                  refine E_cN_le (a := m * T) (b := σ 9 0 0) (tgt := 49) dX12_tasters_44 (by omega) (by omega) (by decide) (fun c44 => ?_) (fun c44 => absurd c44 (by omega))
                  refine E_aload_n dX12_tasters_49 rfl ?_
                  refine E_ic (nI 0) dX12_tasters_50 (by decide) ?_
                  refine E_putI dX12_tasters_51 f_X12_128 rfl (Nat.lt_of_lt_of_le (by decide) hN) rfl ?_
                  refine E_aload_n dX12_tasters_54 rfl ?_
                  refine E_iload_n dX12_tasters_55 rfl ?_
                  refine E_iload_n dX12_tasters_56 rfl ?_
                  refine E_callV (As := [_, _]) (ci := 11) (kc' := 0) (ks' := 0) (kc := 0) (ks := 0) dX12_tasters_57 ok_X12_laysRanks w_X12_395 i_X12_laysRanks s_X12_laysRanks rfl (by decide) rfl (Nat.lt_of_lt_of_le (by decide) hN) rfl rfl rfl (Nat.le_of_ble_eq_true rfl) (Nat.le_of_ble_eq_true rfl) (Nat.le_refl _) (m_laysRanks (d := 898) hT hB hN hR (by omega) m2 t2 hm9 (fun z I2 f2 => ?_) (fun hok I2 f2 hrk => ?_))
                  · rw [gd_t z] at hQ
                    have hq := hQ I2 J (MR.congr (u0_M hM) (f2 118 (by decide)) (f2 119 (by decide)) (f2 120 (by decide)) (f2 115 (by decide)) (f2 117 (by decide)) (f2 114 (by decide)) (f2 121 (by decide)) (f2 140 (by decide))) (fun a a1 => (f2 a (by omega)).trans (up2_o I 114 7 _ a (by omega))) (by rw [f2 114 (by decide)]; rfl) (fun a a1 a2 => (f2 a (by omega)).trans (up2_o I 114 7 _ a (by omega)))
                    refine E_zN_ne (a := 0) (tgt := 66) dX12_tasters_60 (by decide) (by decide) (fun c60 => absurd c60 (by omega)) (fun c60 => ?_)
                    refine E_bp (-3) dX12_tasters_63 (by decide) ?_
                    exact E_iret dX12_tasters_65 rfl (hq)
                  · rw [gd_f (fun y => y hok)] at hQ
                    have hlx0 : ∃ r, lxP m m 0 = List.range m :: r := lx_head m1 m2
                    obtain ⟨r, hlx⟩ := hlx0
                    have hch : chB m (List.range m :: r) = true := by rw [← hlx]; exact ch_all m1 m2
                    have hb6 : rtS (tcS (tpS σ) m T) m 0 < 1000000 := by
                      have hcb : ∀ s w, s < 2 ^ m → w < m → tcS (tpS σ) m T s w ≤ 324 := fun s w _ _ => tcS_le m2 t2 s w
                      have p3 : 2 ^ 1 ≤ 2 ^ m := Nat.pow_le_pow_right (by decide) (by omega)
                      have hs2 : 0 < 2 ^ m - 1 := by omega
                      obtain ⟨b1, b2, b3, -⟩ := rt_fd (m := m) (by omega) hcb (by decide) hs2
                      have hp1 := tb_price (m := m) (by omega) hcb (Nat.two_pow_pos m) b1 b2 (Nat.zero_le (0 + 1))
                      rw [rtS_e hs2, ← b3]
                      exact Nat.lt_of_le_of_lt hp1 (by decide)
                    have H161 : ∀ I4 : IM, (∀ x, x ≠ 144 → x ≠ 145 → x ≠ 146 → I4 x = (up2 I 114 7 (nI 0)) x) → (∀ k, k < m → I4 145 k = nI (lgF (paS (tcS (tpS σ) m T) (rtS (tcS (tpS σ) m T) m) m m 0) k)) → E g mX12_tasters 900 0 0 161 [.ref 114, .int (nI m), .int (nI T), .int (nI 100), .int (nI (rtS (tcS (tpS σ) m T) m 0)), .int (nI 0), jk, jk] [] n I4 J R Q := by
                      intro I4 g4 b5
                      refine E_iload_n dX12_tasters_161 rfl ?_
                      refine E_bp (nI 100) dX12_tasters_162 (by decide) ?_
                      refine E_cN_ne (a := 100) (b := 100) (tgt := 172) dX12_tasters_164 (by decide) (by decide) (by decide) (fun c164 => absurd c164 (by omega)) (fun c164 => ?_)
                      refine E_iload dX12_tasters_167 rfl ?_
                      refine E_goto (tgt := 178) dX12_tasters_169 (by decide) ?_
                      exact E_iret dX12_tasters_178 rfl (by rw [if_pos rfl] at hQ; exact hQ I4 J (MR.congr (u0_M hM) (g4 118 (by decide) (by decide) (by decide)) (g4 119 (by decide) (by decide) (by decide)) (g4 120 (by decide) (by decide) (by decide)) (g4 115 (by decide) (by decide) (by decide)) (g4 117 (by decide) (by decide) (by decide)) (g4 114 (by decide) (by decide) (by decide)) (g4 121 (by decide) (by decide) (by decide)) (g4 140 (by decide) (by decide) (by decide))) (fun a a1 => (g4 a (by omega) (by omega) (by omega)).trans (up2_o I 114 7 _ a (by omega))) (by rw [g4 114 (by decide) (by decide) (by decide)]; rfl) (fun a a1 a2 => (g4 a (by omega) (by omega) (by omega)).trans (up2_o I 114 7 _ a (by omega))))
                    have Lk : ∀ kk, kk ≤ m → ∀ I3 : IM, ((∀ x, x ≠ 144 → I3 x = I2 x) ∧ ∀ q, q < kk → I3 144 q = nI q) → E g mX12_tasters 900 0 0 69 [.ref 114, .int (nI m), .int (nI T), .int (nI 100), .int (nI kk), jk, jk, jk] [] n I3 J R Q := by
                      refine loopU m (fun I3 hv => ?_) (fun kk hkk ih3 I3 hv => ?_)
                      · refine E_iload dX12_tasters_69 rfl ?_
                        refine E_iload_n dX12_tasters_71 rfl ?_
                        refine E_cN_ge (a := m) (b := m) (tgt := 90) dX12_tasters_72 (by omega) (by omega) (by decide) (fun c72 => ?_) (fun c72 => absurd c72 (by omega))
                        refine E_ldcw (nI 1000000) dX12_tasters_90 k_X12_398 ?_
                        refine E_istore dX12_tasters_93 (Nat.le_of_ble_eq_true rfl) ?_
                        refine E_ic (nI 1) dX12_tasters_95 (by decide) ?_
                        refine E_istore dX12_tasters_96 (Nat.le_of_ble_eq_true rfl) ?_
                        refine m_tloop (d := 898) (m := m) (T := T) hN hR m1 m2 t2 hok _ (List.range m) (1000000, []) I3 hch (Nat.le_refl _) (fun k hk => ?_) (fun q x hq hx => ?_) (fun h => absurd h (Nat.lt_irrefl _)) (fun I4 f4 b4 => ?_)
                        · rw [hv.2 k hk]
                          congr 1
                          show k = (List.range m).getD k 0
                          rw [List.getD_eq_getElem?_getD, List.getElem?_range hk]
                          rfl
                        · rw [hv.1 146 (by decide)]
                          exact hrk q x hq hx
                        · rw [← hlx, fm_all (by omega) m2 t2] at b4 ⊢
                          exact H161 I4 (fun x h1 h2 h3 => (f4 x h1 h2).trans ((hv.1 x h1).trans (f2 x h3))) (b4 hb6)
                      · refine E_iload dX12_tasters_69 rfl ?_
                        refine E_iload_n dX12_tasters_71 rfl ?_
                        refine E_cN_ge (a := kk) (b := m) (tgt := 90) dX12_tasters_72 (by omega) (by omega) (by decide) (fun c72 => absurd c72 (by omega)) (fun c72 => ?_)
                        refine E_aload_n dX12_tasters_75 rfl ?_
                        refine E_getR dX12_tasters_76 f_X12_100 rfl (Nat.lt_of_lt_of_le (by decide) hN) rfl (hR _ _ _ rfl) ?_
                        refine E_iload dX12_tasters_79 rfl ?_
                        refine E_iload dX12_tasters_81 rfl ?_
                        refine E_iastN dX12_tasters_83 rfl (Nat.lt_of_lt_of_le (by decide) hN) (by omega) ?_
                        refine E_incN dX12_tasters_84 rfl ?_
                        refine E_goto (tgt := 69) dX12_tasters_87 (by decide) ?_
                        refine ih3 _ ⟨fun x hx => (up2_o I3 144 _ _ x hx).trans (hv.1 x hx), fun q hq => ?_⟩
                        rcases Nat.lt_succ_iff_lt_or_eq.mp hq with y | y
                        · rw [up2_k I3 _ (by omega)]
                          exact hv.2 q y
                        · subst y
                          exact up2_s _ _ _ _
                    refine E_zN_ne (a := 1) (tgt := 66) dX12_tasters_60 (by decide) (by decide) (fun c60 => ?_) (fun c60 => absurd c60 (by omega))
                    refine E_ic (nI 0) dX12_tasters_66 (by decide) ?_
                    refine E_istore dX12_tasters_67 (Nat.le_of_ble_eq_true rfl) ?_
                    exact Lk 0 (Nat.zero_le _) I2 ⟨fun _ _ => rfl, fun q hq => absurd hq (Nat.not_lt_zero q)⟩
              · skip
                exact absurd rfl (z _ (by omega) (by omega))
            · skip
              exact absurd rfl (z _ (by omega) (by omega))
          · skip
            refine E_iload_n dX12_tasters_0 rfl ?_
            refine E_ic (nI 2) dX12_tasters_1 (by decide) ?_
            refine E_bp (nI 6) dX12_tasters_2 (by decide) ?_
            refine E_callS (As := [_, _, _]) (kc' := 0) (ks' := 0) (kc := 0) (ks := 0) dX12_tasters_4 ok_X12_in w_X12_124 st_X12_in rfl rfl rfl (Nat.le_of_ble_eq_true rfl) (Nat.le_of_ble_eq_true rfl) (Nat.le_refl _) (M_in (x := nI m) (by decide) (by decide) (fun _ _ _ _ => ?_) (fun z => ?_))
            · skip
              refine E_zN_eq (a := 1) (tgt := 47) dX12_tasters_7 (by decide) (by decide) (fun c7 => absurd c7 (by omega)) (fun c7 => ?_)
              refine E_iload_n dX12_tasters_10 rfl ?_
              refine E_ic (nI 1) dX12_tasters_11 (by decide) ?_
              refine E_bp (nI 9) dX12_tasters_12 (by decide) ?_
              refine E_callS (As := [_, _, _]) (kc' := 0) (ks' := 0) (kc := 0) (ks := 0) dX12_tasters_14 ok_X12_in w_X12_124 st_X12_in rfl rfl rfl (Nat.le_of_ble_eq_true rfl) (Nat.le_of_ble_eq_true rfl) (Nat.le_refl _) (M_in (x := nI T) (by decide) (by decide) (fun _ _ _ _ => ?_) (fun z => ?_))
              · skip
                refine E_zN_eq (a := 1) (tgt := 47) dX12_tasters_17 (by decide) (by decide) (fun c17 => absurd c17 (by omega)) (fun c17 => ?_)
                refine E_iload_n dX12_tasters_20 rfl ?_
                refine E_ic (nI 0) dX12_tasters_21 (by decide) ?_
                refine E_iload_n dX12_tasters_22 rfl ?_
                refine E_ic (nI 1) dX12_tasters_23 (by decide) ?_
                refine E_isub dX12_tasters_24 ?_
                refine E.top (pk_sub (a := m) (b := 1) (by omega)) ?_
                refine E_callS (As := [_, _, _]) (kc' := 0) (ks' := 0) (kc := 0) (ks := 0) dX12_tasters_25 ok_X12_in w_X12_124 st_X12_in rfl rfl rfl (Nat.le_of_ble_eq_true rfl) (Nat.le_of_ble_eq_true rfl) (Nat.le_refl _) (M_in (x := nI k) (by decide) (by omega) (fun _ _ _ _ => ?_) (fun z => ?_))
                · skip
                  refine E_zN_ne (a := 1) (tgt := 37) dX12_tasters_28 (by decide) (by decide) (fun c28 => ?_) (fun c28 => absurd c28 (by omega))
                  refine E_iload_n dX12_tasters_37 rfl ?_
                  refine E_iload_n dX12_tasters_38 rfl ?_
                  refine E_imul dX12_tasters_39 ?_
                  refine E.top (pk_mul m T) ?_
                  refine E_aload_n dX12_tasters_40 rfl ?_
                  refine E_getI dX12_tasters_41 f_X12_128 rfl (Nat.lt_of_lt_of_le (by decide) hN) rfl ?_
                  refine E.top (hM.2.2.2.1.1) ?_
                  refine E_cN_le (a := m * T) (b := σ 9 0 0) (tgt := 49) dX12_tasters_44 (by omega) (by omega) (by decide) (fun c44 => ?_) (fun c44 => absurd c44 (by omega))
                  refine E_aload_n dX12_tasters_49 rfl ?_
                  refine E_ic (nI 0) dX12_tasters_50 (by decide) ?_
                  refine E_putI dX12_tasters_51 f_X12_128 rfl (Nat.lt_of_lt_of_le (by decide) hN) rfl ?_
                  refine E_aload_n dX12_tasters_54 rfl ?_
                  refine E_iload_n dX12_tasters_55 rfl ?_
                  refine E_iload_n dX12_tasters_56 rfl ?_
                  refine E_callV (As := [_, _]) (ci := 11) (kc' := 0) (ks' := 0) (kc := 0) (ks := 0) dX12_tasters_57 ok_X12_laysRanks w_X12_395 i_X12_laysRanks s_X12_laysRanks rfl (by decide) rfl (Nat.lt_of_lt_of_le (by decide) hN) rfl rfl rfl (Nat.le_of_ble_eq_true rfl) (Nat.le_of_ble_eq_true rfl) (Nat.le_refl _) (m_laysRanks (d := 898) hT hB hN hR (by omega) m2 t2 hm9 (fun z I2 f2 => ?_) (fun hok I2 f2 hrk => ?_))
                  · rw [gd_t z] at hQ
                    have hq := hQ I2 J (MR.congr (u0_M hM) (f2 118 (by decide)) (f2 119 (by decide)) (f2 120 (by decide)) (f2 115 (by decide)) (f2 117 (by decide)) (f2 114 (by decide)) (f2 121 (by decide)) (f2 140 (by decide))) (fun a a1 => (f2 a (by omega)).trans (up2_o I 114 7 _ a (by omega))) (by rw [f2 114 (by decide)]; rfl) (fun a a1 a2 => (f2 a (by omega)).trans (up2_o I 114 7 _ a (by omega)))
                    refine E_zN_ne (a := 0) (tgt := 66) dX12_tasters_60 (by decide) (by decide) (fun c60 => absurd c60 (by omega)) (fun c60 => ?_)
                    refine E_bp (-3) dX12_tasters_63 (by decide) ?_
                    exact E_iret dX12_tasters_65 rfl (hq)
                  · rw [gd_f (fun y => y hok)] at hQ
                    have hlx0 : ∃ r, lxP m m 0 = List.range m :: r := lx_head m1 m2
                    obtain ⟨r, hlx⟩ := hlx0
                    have hch : chB m (List.range m :: r) = true := by rw [← hlx]; exact ch_all m1 m2
                    have hb6 : rtS (tcS (tpS σ) m T) m 0 < 1000000 := by
                      have hcb : ∀ s w, s < 2 ^ m → w < m → tcS (tpS σ) m T s w ≤ 324 := fun s w _ _ => tcS_le m2 t2 s w
                      have p3 : 2 ^ 1 ≤ 2 ^ m := Nat.pow_le_pow_right (by decide) (by omega)
                      have hs2 : 0 < 2 ^ m - 1 := by omega
                      obtain ⟨b1, b2, b3, -⟩ := rt_fd (m := m) (by omega) hcb (by decide) hs2
                      have hp1 := tb_price (m := m) (by omega) hcb (Nat.two_pow_pos m) b1 b2 (Nat.zero_le (0 + 1))
                      rw [rtS_e hs2, ← b3]
                      exact Nat.lt_of_le_of_lt hp1 (by decide)
                    have H161 : ∀ I4 : IM, (∀ x, x ≠ 144 → x ≠ 145 → x ≠ 146 → I4 x = (up2 I 114 7 (nI 0)) x) → (∀ k, k < m → I4 145 k = nI (lgF (paS (tcS (tpS σ) m T) (rtS (tcS (tpS σ) m T) m) m m 0) k)) → E g mX12_tasters 900 0 0 161 [.ref 114, .int (nI m), .int (nI T), .int (nI k), .int (nI (rtS (tcS (tpS σ) m T) m 0)), .int (nI 0), jk, jk] [] n I4 J R Q := by
                      intro I4 g4 b5
                      refine E_iload_n dX12_tasters_161 rfl ?_
                      refine E_bp (nI 100) dX12_tasters_162 (by decide) ?_
                      refine E_cN_ne (a := k) (b := 100) (tgt := 172) dX12_tasters_164 (by omega) (by decide) (by decide) (fun c164 => ?_) (fun c164 => absurd c164 (by omega))
                      refine E_aload_n dX12_tasters_172 rfl ?_
                      refine E_getR dX12_tasters_173 f_X12_103 rfl (Nat.lt_of_lt_of_le (by decide) hN) rfl (hR _ _ _ rfl) ?_
                      refine E_iload_n dX12_tasters_176 rfl ?_
                      refine E_ialdN dX12_tasters_177 rfl (Nat.lt_of_lt_of_le (by decide) hN) (by omega) ?_
                      refine E.top (b5 k hk) ?_
                      exact E_iret dX12_tasters_178 rfl (by
                            rw [if_neg (fun z => by have := (nI_eq (by omega) (by decide)).mp z; omega), nI_clamp (n := k) (by omega)] at hQ
                            rw [show lgF (paS (tcS (tpS σ) m T) (rtS (tcS (tpS σ) m T) m) m m 0) k = (pthS (tcS (tpS σ) m T) (rtS (tcS (tpS σ) m T) m) m (k + 1)).2 from by have := pa_nth (tcS (tpS σ) m T) (rtS (tcS (tpS σ) m T) m) m k m 0 hk; rw [Nat.zero_add] at this; exact this]
                            exact hQ I4 J (MR.congr (u0_M hM) (g4 118 (by decide) (by decide) (by decide)) (g4 119 (by decide) (by decide) (by decide)) (g4 120 (by decide) (by decide) (by decide)) (g4 115 (by decide) (by decide) (by decide)) (g4 117 (by decide) (by decide) (by decide)) (g4 114 (by decide) (by decide) (by decide)) (g4 121 (by decide) (by decide) (by decide)) (g4 140 (by decide) (by decide) (by decide))) (fun a a1 => (g4 a (by omega) (by omega) (by omega)).trans (up2_o I 114 7 _ a (by omega))) (by rw [g4 114 (by decide) (by decide) (by decide)]; rfl) (fun a a1 a2 => (g4 a (by omega) (by omega) (by omega)).trans (up2_o I 114 7 _ a (by omega))))
                    have Lk : ∀ kk, kk ≤ m → ∀ I3 : IM, ((∀ x, x ≠ 144 → I3 x = I2 x) ∧ ∀ q, q < kk → I3 144 q = nI q) → E g mX12_tasters 900 0 0 69 [.ref 114, .int (nI m), .int (nI T), .int (nI k), .int (nI kk), jk, jk, jk] [] n I3 J R Q := by
                      refine loopU m (fun I3 hv => ?_) (fun kk hkk ih3 I3 hv => ?_)
                      · refine E_iload dX12_tasters_69 rfl ?_
                        refine E_iload_n dX12_tasters_71 rfl ?_
                        refine E_cN_ge (a := m) (b := m) (tgt := 90) dX12_tasters_72 (by omega) (by omega) (by decide) (fun c72 => ?_) (fun c72 => absurd c72 (by omega))
                        refine E_ldcw (nI 1000000) dX12_tasters_90 k_X12_398 ?_
                        refine E_istore dX12_tasters_93 (Nat.le_of_ble_eq_true rfl) ?_
                        refine E_ic (nI 1) dX12_tasters_95 (by decide) ?_
                        refine E_istore dX12_tasters_96 (Nat.le_of_ble_eq_true rfl) ?_
                        refine m_tloop (d := 898) (m := m) (T := T) hN hR m1 m2 t2 hok _ (List.range m) (1000000, []) I3 hch (Nat.le_refl _) (fun k hk => ?_) (fun q x hq hx => ?_) (fun h => absurd h (Nat.lt_irrefl _)) (fun I4 f4 b4 => ?_)
                        · rw [hv.2 k hk]
                          congr 1
                          show k = (List.range m).getD k 0
                          rw [List.getD_eq_getElem?_getD, List.getElem?_range hk]
                          rfl
                        · rw [hv.1 146 (by decide)]
                          exact hrk q x hq hx
                        · rw [← hlx, fm_all (by omega) m2 t2] at b4 ⊢
                          exact H161 I4 (fun x h1 h2 h3 => (f4 x h1 h2).trans ((hv.1 x h1).trans (f2 x h3))) (b4 hb6)
                      · refine E_iload dX12_tasters_69 rfl ?_
                        refine E_iload_n dX12_tasters_71 rfl ?_
                        refine E_cN_ge (a := kk) (b := m) (tgt := 90) dX12_tasters_72 (by omega) (by omega) (by decide) (fun c72 => absurd c72 (by omega)) (fun c72 => ?_)
                        refine E_aload_n dX12_tasters_75 rfl ?_
                        refine E_getR dX12_tasters_76 f_X12_100 rfl (Nat.lt_of_lt_of_le (by decide) hN) rfl (hR _ _ _ rfl) ?_
                        refine E_iload dX12_tasters_79 rfl ?_
                        refine E_iload dX12_tasters_81 rfl ?_
                        refine E_iastN dX12_tasters_83 rfl (Nat.lt_of_lt_of_le (by decide) hN) (by omega) ?_
                        refine E_incN dX12_tasters_84 rfl ?_
                        refine E_goto (tgt := 69) dX12_tasters_87 (by decide) ?_
                        refine ih3 _ ⟨fun x hx => (up2_o I3 144 _ _ x hx).trans (hv.1 x hx), fun q hq => ?_⟩
                        rcases Nat.lt_succ_iff_lt_or_eq.mp hq with y | y
                        · rw [up2_k I3 _ (by omega)]
                          exact hv.2 q y
                        · subst y
                          exact up2_s _ _ _ _
                    refine E_zN_ne (a := 1) (tgt := 66) dX12_tasters_60 (by decide) (by decide) (fun c60 => ?_) (fun c60 => absurd c60 (by omega))
                    refine E_ic (nI 0) dX12_tasters_66 (by decide) ?_
                    refine E_istore dX12_tasters_67 (Nat.le_of_ble_eq_true rfl) ?_
                    exact Lk 0 (Nat.zero_le _) I2 ⟨fun _ _ => rfl, fun q hq => absurd hq (Nat.not_lt_zero q)⟩
                · skip
                  exact absurd rfl (z k (Nat.zero_le _) (by omega))
              · skip
                exact absurd rfl (z _ (by omega) (by omega))
            · skip
              exact absurd rfl (z _ (by omega) (by omega))
        · have hq := hNO (hng hm9)
          have hp0 := hp
          rcases hp0 with rfl | ⟨k, hk, rfl⟩
          · skip
            refine E_iload_n dX12_tasters_0 rfl ?_
            refine E_ic (nI 2) dX12_tasters_1 (by decide) ?_
            refine E_bp (nI 6) dX12_tasters_2 (by decide) ?_
            refine E_callS (As := [_, _, _]) (kc' := 0) (ks' := 0) (kc := 0) (ks := 0) dX12_tasters_4 ok_X12_in w_X12_124 st_X12_in rfl rfl rfl (Nat.le_of_ble_eq_true rfl) (Nat.le_of_ble_eq_true rfl) (Nat.le_refl _) (M_in (x := nI m) (by decide) (by decide) (fun _ _ _ _ => ?_) (fun z => ?_))
            · skip
              refine E_zN_eq (a := 1) (tgt := 47) dX12_tasters_7 (by decide) (by decide) (fun c7 => absurd c7 (by omega)) (fun c7 => ?_)
              refine E_iload_n dX12_tasters_10 rfl ?_
              refine E_ic (nI 1) dX12_tasters_11 (by decide) ?_
              refine E_bp (nI 9) dX12_tasters_12 (by decide) ?_
              refine E_callS (As := [_, _, _]) (kc' := 0) (ks' := 0) (kc := 0) (ks := 0) dX12_tasters_14 ok_X12_in w_X12_124 st_X12_in rfl rfl rfl (Nat.le_of_ble_eq_true rfl) (Nat.le_of_ble_eq_true rfl) (Nat.le_refl _) (M_in (x := nI T) (by decide) (by decide) (fun _ _ _ _ => ?_) (fun z => ?_))
              · skip
                refine E_zN_eq (a := 1) (tgt := 47) dX12_tasters_17 (by decide) (by decide) (fun c17 => absurd c17 (by omega)) (fun c17 => ?_)
                refine E_iload_n dX12_tasters_20 rfl ?_
                refine E_ic (nI 0) dX12_tasters_21 (by decide) ?_
                refine E_iload_n dX12_tasters_22 rfl ?_
                refine E_ic (nI 1) dX12_tasters_23 (by decide) ?_
                refine E_isub dX12_tasters_24 ?_
                refine E.top (pk_sub (a := m) (b := 1) (by omega)) ?_
                refine E_callS (As := [_, _, _]) (kc' := 0) (ks' := 0) (kc := 0) (ks := 0) dX12_tasters_25 ok_X12_in w_X12_124 st_X12_in rfl rfl rfl (Nat.le_of_ble_eq_true rfl) (Nat.le_of_ble_eq_true rfl) (Nat.le_refl _) (M_in (x := nI 100) (by decide) (by omega) (fun k q1 q2 q3 => ?_) (fun z => ?_))
                · skip
                  exact absurd ((nI_eq (by decide) (by omega)).mp q3) (by omega)
                · skip
                  refine E_zN_ne (a := 0) (tgt := 37) dX12_tasters_28 (by decide) (by decide) (fun c28 => absurd c28 (by omega)) (fun c28 => ?_)
                  refine E_iload_n dX12_tasters_31 rfl ?_
                  refine E_bp (nI 100) dX12_tasters_32 (by decide) ?_
                  refine E_cN_ne (a := 100) (b := 100) (tgt := 47) dX12_tasters_34 (by decide) (by decide) (by decide) (fun c34 => absurd c34 (by omega)) (fun c34 => ?_)
                  refine E_iload_n dX12_tasters_37 rfl ?_
                  refine E_iload_n dX12_tasters_38 rfl ?_
                  refine E_imul dX12_tasters_39 ?_
                  refine E.top (pk_mul m T) ?_
                  refine E_aload_n dX12_tasters_40 rfl ?_
                  refine E_getI dX12_tasters_41 f_X12_128 rfl (Nat.lt_of_lt_of_le (by decide) hN) rfl ?_
                  refine E.top (hM.2.2.2.1.1) ?_
                  refine E_cN_le (a := m * T) (b := σ 9 0 0) (tgt := 49) dX12_tasters_44 (by omega) (by omega) (by decide) (fun c44 => absurd c44 (by omega)) (fun c44 => ?_)
                  refine E_ic (-1) dX12_tasters_47 (by decide) ?_
                  exact E_iret dX12_tasters_48 rfl (hq)
              · skip
                exact absurd rfl (z _ (by omega) (by omega))
            · skip
              exact absurd rfl (z _ (by omega) (by omega))
          · skip
            refine E_iload_n dX12_tasters_0 rfl ?_
            refine E_ic (nI 2) dX12_tasters_1 (by decide) ?_
            refine E_bp (nI 6) dX12_tasters_2 (by decide) ?_
            refine E_callS (As := [_, _, _]) (kc' := 0) (ks' := 0) (kc := 0) (ks := 0) dX12_tasters_4 ok_X12_in w_X12_124 st_X12_in rfl rfl rfl (Nat.le_of_ble_eq_true rfl) (Nat.le_of_ble_eq_true rfl) (Nat.le_refl _) (M_in (x := nI m) (by decide) (by decide) (fun _ _ _ _ => ?_) (fun z => ?_))
            · skip
              refine E_zN_eq (a := 1) (tgt := 47) dX12_tasters_7 (by decide) (by decide) (fun c7 => absurd c7 (by omega)) (fun c7 => ?_)
              refine E_iload_n dX12_tasters_10 rfl ?_
              refine E_ic (nI 1) dX12_tasters_11 (by decide) ?_
              refine E_bp (nI 9) dX12_tasters_12 (by decide) ?_
              refine E_callS (As := [_, _, _]) (kc' := 0) (ks' := 0) (kc := 0) (ks := 0) dX12_tasters_14 ok_X12_in w_X12_124 st_X12_in rfl rfl rfl (Nat.le_of_ble_eq_true rfl) (Nat.le_of_ble_eq_true rfl) (Nat.le_refl _) (M_in (x := nI T) (by decide) (by decide) (fun _ _ _ _ => ?_) (fun z => ?_))
              · skip
                refine E_zN_eq (a := 1) (tgt := 47) dX12_tasters_17 (by decide) (by decide) (fun c17 => absurd c17 (by omega)) (fun c17 => ?_)
                refine E_iload_n dX12_tasters_20 rfl ?_
                refine E_ic (nI 0) dX12_tasters_21 (by decide) ?_
                refine E_iload_n dX12_tasters_22 rfl ?_
                refine E_ic (nI 1) dX12_tasters_23 (by decide) ?_
                refine E_isub dX12_tasters_24 ?_
                refine E.top (pk_sub (a := m) (b := 1) (by omega)) ?_
                refine E_callS (As := [_, _, _]) (kc' := 0) (ks' := 0) (kc := 0) (ks := 0) dX12_tasters_25 ok_X12_in w_X12_124 st_X12_in rfl rfl rfl (Nat.le_of_ble_eq_true rfl) (Nat.le_of_ble_eq_true rfl) (Nat.le_refl _) (M_in (x := nI k) (by decide) (by omega) (fun _ _ _ _ => ?_) (fun z => ?_))
                · skip
                  refine E_zN_ne (a := 1) (tgt := 37) dX12_tasters_28 (by decide) (by decide) (fun c28 => ?_) (fun c28 => absurd c28 (by omega))
                  refine E_iload_n dX12_tasters_37 rfl ?_
                  refine E_iload_n dX12_tasters_38 rfl ?_
                  refine E_imul dX12_tasters_39 ?_
                  refine E.top (pk_mul m T) ?_
                  refine E_aload_n dX12_tasters_40 rfl ?_
                  refine E_getI dX12_tasters_41 f_X12_128 rfl (Nat.lt_of_lt_of_le (by decide) hN) rfl ?_
                  refine E.top (hM.2.2.2.1.1) ?_
                  refine E_cN_le (a := m * T) (b := σ 9 0 0) (tgt := 49) dX12_tasters_44 (by omega) (by omega) (by decide) (fun c44 => absurd c44 (by omega)) (fun c44 => ?_)
                  refine E_ic (-1) dX12_tasters_47 (by decide) ?_
                  exact E_iret dX12_tasters_48 rfl (hq)
                · skip
                  exact absurd rfl (z k (Nat.zero_le _) (by omega))
              · skip
                exact absurd rfl (z _ (by omega) (by omega))
            · skip
              exact absurd rfl (z _ (by omega) (by omega))
      · have hq := hNO (fun z => by obtain ⟨m2, T2, ⟨a1, a2, a3, a4, a5, a6, a7⟩, a8⟩ := z; have e1 := (nI_eq (by omega) (by omega)).mp a3; have e2 := (nI_eq (by omega) (by omega)).mp a6; subst e1; subst e2; exact hp a8)
        refine E_iload_n dX12_tasters_0 rfl ?_
        refine E_ic (nI 2) dX12_tasters_1 (by decide) ?_
        refine E_bp (nI 6) dX12_tasters_2 (by decide) ?_
        refine E_callS (As := [_, _, _]) (kc' := 0) (ks' := 0) (kc := 0) (ks := 0) dX12_tasters_4 ok_X12_in w_X12_124 st_X12_in rfl rfl rfl (Nat.le_of_ble_eq_true rfl) (Nat.le_of_ble_eq_true rfl) (Nat.le_refl _) (M_in (x := nI m) (by decide) (by decide) (fun _ _ _ _ => ?_) (fun z => ?_))
        · skip
          refine E_zN_eq (a := 1) (tgt := 47) dX12_tasters_7 (by decide) (by decide) (fun c7 => absurd c7 (by omega)) (fun c7 => ?_)
          refine E_iload_n dX12_tasters_10 rfl ?_
          refine E_ic (nI 1) dX12_tasters_11 (by decide) ?_
          refine E_bp (nI 9) dX12_tasters_12 (by decide) ?_
          refine E_callS (As := [_, _, _]) (kc' := 0) (ks' := 0) (kc := 0) (ks := 0) dX12_tasters_14 ok_X12_in w_X12_124 st_X12_in rfl rfl rfl (Nat.le_of_ble_eq_true rfl) (Nat.le_of_ble_eq_true rfl) (Nat.le_refl _) (M_in (x := nI T) (by decide) (by decide) (fun _ _ _ _ => ?_) (fun z => ?_))
          · skip
            refine E_zN_eq (a := 1) (tgt := 47) dX12_tasters_17 (by decide) (by decide) (fun c17 => absurd c17 (by omega)) (fun c17 => ?_)
            refine E_iload_n dX12_tasters_20 rfl ?_
            refine E_ic (nI 0) dX12_tasters_21 (by decide) ?_
            refine E_iload_n dX12_tasters_22 rfl ?_
            refine E_ic (nI 1) dX12_tasters_23 (by decide) ?_
            refine E_isub dX12_tasters_24 ?_
            refine E.top (pk_sub (a := m) (b := 1) (by omega)) ?_
            refine E_callS (As := [_, _, _]) (kc' := 0) (ks' := 0) (kc := 0) (ks := 0) dX12_tasters_25 ok_X12_in w_X12_124 st_X12_in rfl rfl rfl (Nat.le_of_ble_eq_true rfl) (Nat.le_of_ble_eq_true rfl) (Nat.le_refl _) (M_in (by decide) (by omega) (fun k q1 q2 q3 => ?_) (fun z => ?_))
            · skip
              exact absurd (Or.inr ⟨k, by omega, q3⟩) hp
            · skip
              refine E_zN_ne (a := 0) (tgt := 37) dX12_tasters_28 (by decide) (by decide) (fun c28 => absurd c28 (by omega)) (fun c28 => ?_)
              refine E_iload_n dX12_tasters_31 rfl ?_
              refine E_bp (nI 100) dX12_tasters_32 (by decide) ?_
              refine E_icmp_ne (tgt := 47) dX12_tasters_34 (by decide) (fun c34 => ?_) (fun c34 => by first | exact absurd c34 (fun z => hp (Or.inl z)) | exact absurd (fun z => hp (Or.inl z)) c34)
              refine E_ic (-1) dX12_tasters_47 (by decide) ?_
              exact E_iret dX12_tasters_48 rfl (hq)
          · skip
            exact absurd rfl (z _ (by omega) (by omega))
        · skip
          exact absurd rfl (z _ (by omega) (by omega))
    · have hq := hNO (fun z => by obtain ⟨m2, T2, ⟨a1, a2, a3, a4, a5, a6, a7⟩, a8⟩ := z; exact hw ⟨T2, a4, a5, a6⟩)
      refine E_iload_n dX12_tasters_0 rfl ?_
      refine E_ic (nI 2) dX12_tasters_1 (by decide) ?_
      refine E_bp (nI 6) dX12_tasters_2 (by decide) ?_
      refine E_callS (As := [_, _, _]) (kc' := 0) (ks' := 0) (kc := 0) (ks := 0) dX12_tasters_4 ok_X12_in w_X12_124 st_X12_in rfl rfl rfl (Nat.le_of_ble_eq_true rfl) (Nat.le_of_ble_eq_true rfl) (Nat.le_refl _) (M_in (x := nI m) (by decide) (by decide) (fun _ _ _ _ => ?_) (fun z => ?_))
      · skip
        refine E_zN_eq (a := 1) (tgt := 47) dX12_tasters_7 (by decide) (by decide) (fun c7 => absurd c7 (by omega)) (fun c7 => ?_)
        refine E_iload_n dX12_tasters_10 rfl ?_
        refine E_ic (nI 1) dX12_tasters_11 (by decide) ?_
        refine E_bp (nI 9) dX12_tasters_12 (by decide) ?_
        refine E_callS (As := [_, _, _]) (kc' := 0) (ks' := 0) (kc := 0) (ks := 0) dX12_tasters_14 ok_X12_in w_X12_124 st_X12_in rfl rfl rfl (Nat.le_of_ble_eq_true rfl) (Nat.le_of_ble_eq_true rfl) (Nat.le_refl _) (M_in (by decide) (by decide) (fun m q1 q2 q3 => ?_) (fun z => ?_))
        · skip
          exact absurd ⟨m, q1, q2, q3⟩ hw
        · skip
          refine E_zN_eq (a := 0) (tgt := 47) dX12_tasters_17 (by decide) (by decide) (fun c17 => ?_) (fun c17 => absurd c17 (by omega))
          refine E_ic (-1) dX12_tasters_47 (by decide) ?_
          exact E_iret dX12_tasters_48 rfl (hq)
      · skip
        exact absurd rfl (z _ (by omega) (by omega))
  · have hq := hNO (fun z => by obtain ⟨m2, T2, ⟨a1, a2, a3, a4, a5, a6, a7⟩, a8⟩ := z; exact hx ⟨m2, a1, a2, a3⟩)
    refine E_iload_n dX12_tasters_0 rfl ?_
    refine E_ic (nI 2) dX12_tasters_1 (by decide) ?_
    refine E_bp (nI 6) dX12_tasters_2 (by decide) ?_
    refine E_callS (As := [_, _, _]) (kc' := 0) (ks' := 0) (kc := 0) (ks := 0) dX12_tasters_4 ok_X12_in w_X12_124 st_X12_in rfl rfl rfl (Nat.le_of_ble_eq_true rfl) (Nat.le_of_ble_eq_true rfl) (Nat.le_refl _) (M_in (by decide) (by decide) (fun m q1 q2 q3 => ?_) (fun z => ?_))
    · skip
      exact absurd ⟨m, q1, q2, q3⟩ hx
    · skip
      refine E_zN_eq (a := 0) (tgt := 47) dX12_tasters_7 (by decide) (by decide) (fun c7 => ?_) (fun c7 => absurd c7 (by omega))
      refine E_ic (-1) dX12_tasters_47 (by decide) ?_
      exact E_iret dX12_tasters_48 rfl (hq)
end PTastersM
