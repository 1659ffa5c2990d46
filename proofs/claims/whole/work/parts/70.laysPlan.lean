/-! ===== plan: the reference's laysPlan ===== -/
theorem rk_pk {LN : Nat} {D : FN} (hO : okD LN D) (h5 : D 5 = 0) : rkD D = rkN (pkD D) := by
  have u := un_pk hO h5
  show _ = (((unD (pkD D) 3 * 2 + unD (pkD D) 4) * 10 + unD (pkD D) 2) * 10 + unD (pkD D) 1) * 20 + unD (pkD D) 0
  rw [u 0 (by decide), u 1 (by decide), u 2 (by decide), u 3 (by decide), u 4 (by decide)]
theorem XM_0 {LN : Nat} {D : FN} {I : IM} (hLN : LN ≤ 24) (hO : okD LN D) (h5 : D 5 = 0) (hz : ∀ j, I 140 j = 0) : XM LN (skB D) (up2 (up2 I 139 0 (nI (rkN (pkD D)))) 140 (rkN (pkD D)) (nI 1)) := by
  have hp := pk_vP hLN hO h5
  rw [skB_e]
  refine ⟨fun i hi => ?_, fun t ht => ?_, fun t ht => ?_, fun z hz2 => ?_⟩
  · have : i = 0 := by have : i < 0 + 1 := hi; omega
    subst this
    show _ = nI (rkN (up1 (fun _ => 0) 0 (pkD D) 0))
    rw [up2_o _ 140 _ _ 139 (by decide), up2_s, up1_s]
  · show _ = nI (if up1 (fun _ => 0) (pkD D) 1 t = 0 then 0 else (up1 (fun _ => 0) (pkD D) 1 t - 1) / 8 + 1)
    by_cases e : t = pkD D
    · subst e
      rw [up2_s, up1_s]
      rfl
    · rw [up2_k _ _ (fun c => e (rk_inj ht hp c)), up1_n e, up2_o _ 139 _ _ 140 (by decide), hz]
      rfl
  · show ¬ up1 (fun _ => 0) (pkD D) 1 t = 0 → ¬ (up1 (fun _ => 0) (pkD D) 1 t - 1) / 8 = 0 → _
    by_cases e : t = pkD D
    · subst e
      rw [up1_s]
      exact fun _ z => absurd rfl z
    · rw [up1_n e]
      exact fun z => absurd rfl z
  · by_cases e : z = rkN (pkD D)
    · exact ⟨0, Nat.lt_succ_self _, by show z = rkN (up1 (fun _ => 0) 0 (pkD D) 0); rw [up1_s]; exact e⟩
    · rw [up2_k _ _ e, up2_o _ 139 _ _ 140 (by decide), hz] at hz2
      exact absurd rfl hz2
section PLaysPlan
variable {g : GL} {d n : Nat} {I : IM} {J : JM} {R : RM} {Q : PQ} {k LN T z0 c0 : Nat} {Y S D : FN} {q : LWD}
set_option maxRecDepth 100000 in
set_option maxHeartbeats 2000000 in
theorem m_wipe {b : BS} {c : Nat} (hN : 152 ≤ n) (hR : RS R) (hLN : LN ≤ 24) (hc : c = b.1) (hc2 : c ≤ 49501) (hP : XM LN b I) (hvv : ∀ i, i < c → vP LN (b.2.1 i)) (hQ : ∀ I2 : IM, (∀ x, x ≠ 140 → I2 x = I x) → (∀ j, I2 140 j = 0) → Q none n I2 J R) : E g mX12_laysPlan (d + 6) 0 0 269 [.ref 114, .int (nI k), .int (nI T), .int (nI z0), .int (nI c), jk, jk, jk] [] n I J R Q := by
  have L : ∀ j, j ≤ c → ∀ I2 : IM, ((∀ x, x ≠ 140 → I2 x = I x) ∧ ∀ z, ¬ I2 140 z = 0 → ∃ i, j ≤ i ∧ i < c ∧ z = rkN (b.2.1 i)) → E g mX12_laysPlan (d + 6) 0 0 272 [.ref 114, .int (nI k), .int (nI T), .int (nI z0), .int (nI c), .int (nI j), jk, jk] [] n I2 J R Q := by
    refine loopU c (fun I2 hv => ?_) (fun j hj ih I2 hv => ?_)
    · refine E_iload dX12_laysPlan_272 rfl ?_
      refine E_iload dX12_laysPlan_274 rfl ?_
      refine E_cN_ge (a := c) (b := c) (tgt := 298) dX12_laysPlan_276 (by omega) (by omega) (by decide) (fun cw276 => ?_) (fun cw276 => absurd cw276 (by omega))
      exact E_ret dX12_laysPlan_298 rfl (hQ I2 hv.1 (fun z => Decidable.byContradiction (fun y => by obtain ⟨i, i1, i2, i3⟩ := hv.2 z y; omega)))
    · refine E_iload dX12_laysPlan_272 rfl ?_
      refine E_iload dX12_laysPlan_274 rfl ?_
      refine E_cN_ge (a := j) (b := c) (tgt := 298) dX12_laysPlan_276 (by omega) (by omega) (by decide) (fun cw276 => absurd cw276 (by omega)) (fun cw276 => ?_)
      refine E_aload_n dX12_laysPlan_279 rfl ?_
      refine E_getR dX12_laysPlan_280 f_X12_87 rfl (Nat.lt_of_lt_of_le (by decide) hN) rfl (hR _ _ _ rfl) ?_
      refine E_aload_n dX12_laysPlan_283 rfl ?_
      refine E_getR dX12_laysPlan_284 f_X12_84 rfl (Nat.lt_of_lt_of_le (by decide) hN) rfl (hR _ _ _ rfl) ?_
      refine E_iload dX12_laysPlan_287 rfl ?_
      refine E_ialdN dX12_laysPlan_289 rfl (Nat.lt_of_lt_of_le (by decide) hN) (by omega) ?_
      refine E.top ((congrFun (hv.1 139 (by decide)) j).trans (hP.1 j (by omega))) ?_
      refine E_ic (nI 0) dX12_laysPlan_290 (by decide) ?_
      refine E_bastN dX12_laysPlan_291 rfl (Nat.lt_of_lt_of_le (by decide) hN) (rk_lt hLN (unD_ok (hvv j (by omega)))) ?_
      refine E_incN dX12_laysPlan_292 rfl ?_
      refine E_goto (tgt := 272) dX12_laysPlan_295 (by decide) ?_
      refine ih _ ⟨fun x hx => (up2_o _ 140 _ _ x hx).trans (hv.1 x hx), fun z hz => ?_⟩
      by_cases e : z = rkN (b.2.1 j)
      · subst e
        rw [up2_s] at hz
        exact absurd (by decide) hz
      · rw [up2_k _ _ e] at hz
        obtain ⟨i, i1, i2, i3⟩ := hv.2 z hz
        refine ⟨i, ?_, i2, i3⟩
        rcases Nat.lt_or_eq_of_le i1 with w | w
        · exact w
        · subst w
          exact absurd i3 e
  refine E_ic (nI 0) dX12_laysPlan_269 (by decide) ?_
  refine E_istore dX12_laysPlan_270 (Nat.le_of_ble_eq_true rfl) ?_
  refine L 0 (Nat.zero_le _) I ⟨fun _ _ => rfl, fun z hz => ?_⟩
  obtain ⟨i, i1, i2⟩ := hP.2.2.2 z hz
  exact ⟨i, Nat.zero_le _, by rw [hc]; exact i1, i2⟩
set_option maxRecDepth 100000 in
set_option maxHeartbeats 2000000 in
theorem m_laysPlan (hN : 152 ≤ n) (hR : RS R) (hk : k < 12) (hq : LWF q) (hLN : LN ≤ 24) (hT : T ≤ 24) (hO : okD LN D) (h5 : D 5 = 0) (h3 : D 3 ≤ T) (hX : MCr k LN Y S q I) (hD : MDr k 0 c0 Y D I) (hz : ∀ j, I 140 j = 0) (hQ : ∀ I2 : IM, FM I I2 → (∀ j, I2 140 j = 0) → I2 114 46 = (if (srP (nxP q k LN Y S) (ouP q k LN Y S T) (brP q k LN Y S) (skB D) 49500).2 = 0 then -3 else nI (((srP (nxP q k LN Y S) (ouP q k LN Y S T) (brP q k LN Y S) (skB D) 49500).2 - 1) / 8)) → I2 114 47 = (if (srP (nxP q k LN Y S) (ouP q k LN Y S T) (brP q k LN Y S) (skB D) 49500).2 = 0 then -3 else nI (((srP (nxP q k LN Y S) (ouP q k LN Y S T) (brP q k LN Y S) (skB D) 49500).2 - 1) % 8)) → Q none n I2 J R) : E g mX12_laysPlan (d + 6) 0 0 0 (ent 8 [.ref 114, .int (nI k), .int (nI T)]) [] n I J R Q := by
  have hlz : rkN (pkD D) < 100000 := rk_lt hLN (unD_ok (pk_vP hLN hO h5))
  refine E_aload_n dX12_laysPlan_0 rfl ?_
  refine E_iload_n dX12_laysPlan_1 rfl ?_
  refine E_callV (As := [_]) (ci := 11) (kc' := 0) (ks' := 0) (kc := 0) (ks := 0) dX12_laysPlan_2 ok_X12_stateOf w_X12_357 i_X12_stateOf s_X12_stateOf rfl (by decide) rfl (Nat.lt_of_lt_of_le (by decide) hN) rfl rfl rfl (Nat.le_of_ble_eq_true rfl) (Nat.le_of_ble_eq_true rfl) (Nat.le_refl _) (m_stateOf (c0 := c0) (Y := Y) (D := D) hN hR hk hD ?_)
  refine E.top (congrArg nI (rk_pk hO h5)) ?_
  refine E_istore_n dX12_laysPlan_5 (Nat.le_of_ble_eq_true rfl) ?_
  refine E_aload_n dX12_laysPlan_6 rfl ?_
  refine E_getR dX12_laysPlan_7 f_X12_84 rfl (Nat.lt_of_lt_of_le (by decide) hN) rfl (hR _ _ _ rfl) ?_
  refine E_ic (nI 0) dX12_laysPlan_10 (by decide) ?_
  refine E_iload_n dX12_laysPlan_11 rfl ?_
  refine E_iastN dX12_laysPlan_12 rfl (Nat.lt_of_lt_of_le (by decide) hN) (by decide) ?_
  refine E_aload_n dX12_laysPlan_13 rfl ?_
  refine E_getR dX12_laysPlan_14 f_X12_87 rfl (Nat.lt_of_lt_of_le (by decide) hN) rfl (hR _ _ _ rfl) ?_
  refine E_iload_n dX12_laysPlan_17 rfl ?_
  refine E_ic (nI 1) dX12_laysPlan_18 (by decide) ?_
  refine E_bastN dX12_laysPlan_19 rfl (Nat.lt_of_lt_of_le (by decide) hN) (by omega) ?_
  rw [by_n (show 1 < 128 by decide)]
  refine E_ic (nI 1) dX12_laysPlan_20 (by decide) ?_
  refine E_istore dX12_laysPlan_21 (Nat.le_of_ble_eq_true rfl) ?_
  refine E_aload_n dX12_laysPlan_23 rfl ?_
  refine E_bp (-3) dX12_laysPlan_24 (by decide) ?_
  refine E_putI dX12_laysPlan_26 f_X12_360 rfl (Nat.lt_of_lt_of_le (by decide) hN) rfl ?_
  refine E_aload_n dX12_laysPlan_29 rfl ?_
  refine E_bp (-3) dX12_laysPlan_30 (by decide) ?_
  refine E_putI dX12_laysPlan_32 f_X12_363 rfl (Nat.lt_of_lt_of_le (by decide) hN) rfl ?_
  refine E_ic (nI 0) dX12_laysPlan_35 (by decide) ?_
  refine E_istore dX12_laysPlan_36 (Nat.le_of_ble_eq_true rfl) ?_
  refine m_searchL (d := d) (T := T) (z0 := rkN (pkD D)) (D := D) (LN := LN) (Y := Y) (S := S) (q := q) (K := 49500) rfl hN hR hk hq hLN hT hO h5 h3 49501 0 1 (up2 (up2 (up2 (up2 I 139 0 (nI (rkN (pkD D)))) 140 (rkN (pkD D)) (nI 1)) 114 46 (-3)) 114 47 (-3)) rfl rfl (by show 1 = (skB D).1; rw [skB_e]) ((XM_0 hLN hO h5 hz).keep ((up2_o _ 114 _ _ 139 (by decide)).trans (up2_o _ 114 _ _ 139 (by decide))) ((up2_o _ 114 _ _ 140 (by decide)).trans (up2_o _ 114 _ _ 140 (by decide))) ((up2_o _ 114 _ _ 141 (by decide)).trans (up2_o _ 114 _ _ 141 (by decide)))) ((up2_k _ _ (by decide)).trans (up2_s _ _ _ _)) (up2_s _ _ _ _) (hX.keepM (((FM.row (up2_o I 139 0 (nI (rkN (pkD D)))) (by decide)).trans (FM.row (up2_o (up2 I 139 0 (nI (rkN (pkD D)))) 140 (rkN (pkD D)) (nI 1)) (by decide))).trans ((FM.up (up2 (up2 I 139 0 (nI (rkN (pkD D)))) 140 (rkN (pkD D)) (nI 1)) (-3) (by decide)).trans (FM.up (up2 (up2 (up2 I 139 0 (nI (rkN (pkD D)))) 140 (rkN (pkD D)) (nI 1)) 114 46 (-3)) (-3) (by decide))))) (fun I2 b2 f2 x2 n2 v2 p2 w2 => ?_)
  refine m_wipe (d := d) (LN := LN) (b := b2) hN hR hLN rfl n2 x2 v2 (fun I3 g3 z3 => ?_)
  exact hQ I3 (((((FM.row (up2_o I 139 0 (nI (rkN (pkD D)))) (by decide)).trans (FM.row (up2_o (up2 I 139 0 (nI (rkN (pkD D)))) 140 (rkN (pkD D)) (nI 1)) (by decide))).trans ((FM.up (up2 (up2 I 139 0 (nI (rkN (pkD D)))) 140 (rkN (pkD D)) (nI 1)) (-3) (by decide)).trans (FM.up (up2 (up2 (up2 I 139 0 (nI (rkN (pkD D)))) 140 (rkN (pkD D)) (nI 1)) 114 46 (-3)) (-3) (by decide)))).trans f2).trans (FM.row g3 (by decide))) z3 ((congrFun (g3 114 (by decide)) 46).trans p2) ((congrFun (g3 114 (by decide)) 47).trans w2)
end PLaysPlan
