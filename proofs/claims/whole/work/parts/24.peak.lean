/-! ===== rows of one's own in memory; peak ===== -/
/-- the cell a holds f below L -/
def put (I : IM) (a L : Nat) (f : Nat → Int32) : IM := fun x y => if x = a ∧ y < L then f y else I x y
theorem put_r (I : IM) (f : Nat → Int32) {a L i : Nat} (h : i < L) : put I a L f a i = f i := if_pos ⟨rfl, h⟩
theorem put_o (I : IM) (a L : Nat) (f : Nat → Int32) {x : Nat} (h : x ≠ a) : put I a L f x = I x := funext fun y => if_neg fun q => h q.1
theorem put_s (I : IM) (f : Nat → Int32) {a L i : Nat} {v : Int32} {f' : Nat → Int32} (h : i < L) (h' : ∀ y, y < L → f' y = if y = i then v else f y) : up2 (put I a L f) a i v = put I a L f' := by
  funext x y
  unfold up2 put
  by_cases c : x = a ∧ y < L
  · have e1 : (if x = a ∧ y < L then f' y else I x y) = f' y := if_pos c
    rw [e1, h' y c.2]
    by_cases h2 : y = i
    · rw [if_pos h2]
      exact if_pos ⟨c.1, h2⟩
    · rw [if_neg h2]
      exact (if_neg (fun q => h2 q.2)).trans (if_pos c)
  · have e1 : (if x = a ∧ y < L then f' y else I x y) = I x y := if_neg c
    rw [e1]
    exact (if_neg (fun q => c ⟨q.1, by rw [q.2]; exact h⟩)).trans (if_neg c)
theorem put_g (I : IM) (f : Nat → Int32) {a i : Nat} {v : Int32} (h : f i = v) : up2 (put I a i f) a i v = put I a (i + 1) f := by
  funext x y
  unfold up2 put
  by_cases e : x = a
  · subst e
    by_cases h2 : y = i
    · subst h2
      rw [if_pos ⟨rfl, rfl⟩, if_pos ⟨rfl, by omega⟩, h]
    · rw [if_neg (fun q => h2 q.2)]
      by_cases h1 : y < i
      · rw [if_pos ⟨rfl, h1⟩, if_pos ⟨rfl, by omega⟩]
      · rw [if_neg (fun q => h1 q.2), if_neg (fun q => by omega)]
  · rw [if_neg (fun q => e q.1), if_neg (fun q => e q.1), if_neg (fun q => e q.1)]
theorem put_0 (I : IM) (a : Nat) (f : Nat → Int32) : put I a 0 f = I := by
  funext x y
  exact if_neg (fun q => Nat.not_lt_zero _ q.2)
theorem put_fil (I : IM) (a L : Nat) (v : Int32) {f : Nat → Int32} (h : ∀ y, f y = v) : fil I a L v = put I a L f := by
  funext x y
  unfold fil put
  rw [h y]
theorem put_e (I : IM) (a L : Nat) {f f' : Nat → Int32} (h : ∀ y, y < L → f y = f' y) : put I a L f = put I a L f' := by
  funext x y
  unfold put
  by_cases c : x = a ∧ y < L
  · rw [if_pos c, if_pos c, h y c.2]
  · rw [if_neg c, if_neg c]
theorem XR.put {σ : ST} {n : Nat} {I : IM} {R : RM} (h : XR σ n I R) (a L : Nat) (f : Nat → Int32) (h1 : 9 ≤ a ∧ a < 54) : XR σ n (put I a L f) R :=
  h.congr (fun x _ _ => put_o I a L f (by omega)) (put_o I a L f (by omega)) (put_o I a L f (by omega))
theorem MR.put {σ : ST} {I : IM} (h : MR σ I) (a L : Nat) (f : Nat → Int32) (h1 : 141 ≤ a) : MR σ (put I a L f) :=
  h.congr (put_o I a L f (by omega)) (put_o I a L f (by omega)) (put_o I a L f (by omega)) (put_o I a L f (by omega)) (put_o I a L f (by omega)) (put_o I a L f (by omega)) (put_o I a L f (by omega)) (put_o I a L f (by omega))
/-- how many of m LAYERS from the a-th on are of the YEAR y; so many in all of the first K -/
def cyS (f : Nat → Nat) (y a : Nat) : Nat → Nat
  | 0 => 0
  | m + 1 => cyS f y a m + (if f (a + m) = y then 1 else 0)
def tyS (σ : ST) (y : Nat) : Nat → Nat := sumS (fun k => cyS (σ 1 k) y (σ 3 k 3) (σ 0 k 0 - σ 3 k 3))
theorem cyS_t {f : Nat → Nat} {y a m : Nat} (h : f (a + m) = y) : cyS f y a (m + 1) = cyS f y a m + 1 := by
  show _ + _ = _
  rw [if_pos h]
theorem cyS_f {f : Nat → Nat} {y a m : Nat} (h : f (a + m) ≠ y) : cyS f y a (m + 1) = cyS f y a m := by
  show _ + _ = _
  rw [if_neg h, Nat.add_zero]
theorem cyS_le (f : Nat → Nat) (y a : Nat) : ∀ m, cyS f y a m ≤ m
  | 0 => Nat.le_refl _
  | m + 1 => by
    have := cyS_le f y a m
    unfold cyS
    split <;> omega
theorem tyS_le {σ : ST} (hB : BND σ) (y : Nat) : ∀ K, K ≤ 12 → tyS σ y K ≤ 24 * K
  | 0, _ => Nat.le_refl _
  | K + 1, h => by
    have h1 := tyS_le hB y K (by omega)
    have h2 := cyS_le (σ 1 K) y (σ 3 K 3) (σ 0 K 0 - σ 3 K 3)
    have h3 := (hB.1 K (by omega)).1
    show tyS σ y K + cyS (σ 1 K) y (σ 3 K 3) (σ 0 K 0 - σ 3 K 3) ≤ _
    omega
/-- the most, and the first YEAR that has it -/
def pkS (t : Nat → Nat) : Nat → Nat × Int32
  | 0 => (0, -2)
  | y + 1 => if (pkS t y).1 < t y then (t y, nI y) else pkS t y
theorem pkS_t {t : Nat → Nat} {y : Nat} (h : (pkS t y).1 < t y) : pkS t (y + 1) = (t y, nI y) := if_pos h
theorem pkS_f {t : Nat → Nat} {y : Nat} (h : t y ≤ (pkS t y).1) : pkS t (y + 1) = pkS t y := if_neg (Nat.not_lt.mpr h)
theorem pkS_le {t : Nat → Nat} {b : Nat} (h : ∀ y, t y ≤ b) : ∀ y, (pkS t y).1 ≤ b
  | 0 => Nat.zero_le _
  | y + 1 => by
    unfold pkS
    split
    · exact h y
    · exact pkS_le h y
noncomputable def r_peak (x : Int32) (σ : ST) : Value := .int (gd (rg x 1) (if x = nI 0 then (pkS (fun y => tyS σ y 12) 100).2 else nI (pkS (fun y => tyS σ y 12) 100).1) (-1))
section PPeak
variable {g : GL} {d n : Nat} {I : IM} {J : JM} {R : RM} {Q : PQ} {σ : ST}
set_option maxRecDepth 100000 in
set_option maxHeartbeats 2000000 in
theorem x_gatherL (hB : BND σ) (hX : XR σ n I R) (hQ : Q none n (put I 52 100 (fun y => nI (tyS σ y 12))) J R) : E g mX11_gatherLayersByYear (d + 1) 0 0 0 (ent 3 [.ref 0]) [] n I J R Q := by
  have hN := hX.2.2.2.1.n.1
  have hR := hX.2.2.2.1.1
  have L : ∀ k, k ≤ 12 → E g mX11_gatherLayersByYear (d + 1) 0 0 10 [.ref 0, .int (nI k), jk] [] n (put I 52 100 (fun y => nI (tyS σ y k))) J R Q := by
    refine loopU 12 ?_ (fun k hk ihk => ?_)
    · refine E_iload_n dX11_gatherLayersByYear_10 rfl ?_
      refine E_bp (nI 12) dX11_gatherLayersByYear_11 (by decide) ?_
      refine E_cN_ge (a := 12) (b := 12) (tgt := 74) dX11_gatherLayersByYear_13 (by decide) (by decide) (by decide) (fun c13 => ?_) (fun c13 => absurd c13 (by omega))
      exact E_ret dX11_gatherLayersByYear_74 rfl (hQ)
    · have b := hB.1 k hk
      have L2 : ∀ m, m ≤ (σ 0 k 0 - σ 3 k 3) → E g mX11_gatherLayersByYear (d + 1) 0 0 29 [.ref 0, .int (nI k), .int (nI (σ 3 k 3 + m))] [] n (put I 52 100 (fun y => nI (tyS σ y k + cyS (σ 1 k) y (σ 3 k 3) m))) J R Q := by
        refine loopU (σ 0 k 0 - σ 3 k 3) ?_ (fun m hm ih => ?_)
        · have hX := hX.put 52 100 (fun y => nI (tyS σ y k + cyS (σ 1 k) y (σ 3 k 3) (σ 0 k 0 - σ 3 k 3))) (by omega)
          refine E_iload_n dX11_gatherLayersByYear_29 rfl ?_
          refine E_aload_n dX11_gatherLayersByYear_30 rfl ?_
          refine E_getR dX11_gatherLayersByYear_31 f_X11_11 rfl (Nat.lt_of_lt_of_le (by decide) hN) rfl (hR _ _ _ rfl) ?_
          refine E_iload_n dX11_gatherLayersByYear_34 rfl ?_
          refine E_aaldN dX11_gatherLayersByYear_35 rfl (Nat.lt_of_lt_of_le (by decide) hN) (by first | assumption | omega) (hR _ _ _ (RT1 k (by first | assumption | omega))) ?_
          refine E_getI dX11_gatherLayersByYear_36 f_X11_187 (LYw k (by first | assumption | omega)).1 (by first | assumption | omega) rfl ?_
          refine E.top ((hX.1 k (by first | assumption | omega)).1) ?_
          refine E_cN_ge (a := σ 3 k 3 + (σ 0 k 0 - σ 3 k 3)) (b := σ 0 k 0) (tgt := 68) dX11_gatherLayersByYear_39 (by omega) (by omega) (by decide) (fun c39 => ?_) (fun c39 => absurd c39 (by omega))
          refine E_incN dX11_gatherLayersByYear_68 rfl ?_
          refine E_goto (tgt := 10) dX11_gatherLayersByYear_71 (by decide) ?_
          refine E.mask [true, true, false] ?_
          exact ihk
        · have hX := hX.put 52 100 (fun y => nI (tyS σ y k + cyS (σ 1 k) y (σ 3 k 3) m)) (by omega)
          have hyy := b.2.1 (σ 3 k 3 + m) (by omega)
          have t1 := tyS_le hB (σ 1 k (σ 3 k 3 + m)) k (by omega)
          have t2 := cyS_le (σ 1 k) (σ 1 k (σ 3 k 3 + m)) (σ 3 k 3) m
          refine E_iload_n dX11_gatherLayersByYear_29 rfl ?_
          refine E_aload_n dX11_gatherLayersByYear_30 rfl ?_
          refine E_getR dX11_gatherLayersByYear_31 f_X11_11 rfl (Nat.lt_of_lt_of_le (by decide) hN) rfl (hR _ _ _ rfl) ?_
          refine E_iload_n dX11_gatherLayersByYear_34 rfl ?_
          refine E_aaldN dX11_gatherLayersByYear_35 rfl (Nat.lt_of_lt_of_le (by decide) hN) (by first | assumption | omega) (hR _ _ _ (RT1 k (by first | assumption | omega))) ?_
          refine E_getI dX11_gatherLayersByYear_36 f_X11_187 (LYw k (by first | assumption | omega)).1 (by first | assumption | omega) rfl ?_
          refine E.top ((hX.1 k (by first | assumption | omega)).1) ?_
          refine E_cN_ge (a := σ 3 k 3 + m) (b := σ 0 k 0) (tgt := 68) dX11_gatherLayersByYear_39 (by omega) (by omega) (by decide) (fun c39 => absurd c39 (by omega)) (fun c39 => ?_)
          refine E_aload_n dX11_gatherLayersByYear_42 rfl ?_
          refine E_getR dX11_gatherLayersByYear_43 f_X11_79 rfl (Nat.lt_of_lt_of_le (by decide) hN) rfl (hR _ _ _ rfl) ?_
          refine E_aload_n dX11_gatherLayersByYear_46 rfl ?_
          refine E_getR dX11_gatherLayersByYear_47 f_X11_11 rfl (Nat.lt_of_lt_of_le (by decide) hN) rfl (hR _ _ _ rfl) ?_
          refine E_iload_n dX11_gatherLayersByYear_50 rfl ?_
          refine E_aaldN dX11_gatherLayersByYear_51 rfl (Nat.lt_of_lt_of_le (by decide) hN) (by first | assumption | omega) (hR _ _ _ (RT1 k (by first | assumption | omega))) ?_
          refine E_getR dX11_gatherLayersByYear_52 f_X11_205 (LYw k (by first | assumption | omega)).1 (by first | assumption | omega) rfl (hR _ _ _ (RTw k (by first | assumption | omega)).1) ?_
          refine E_iload_n dX11_gatherLayersByYear_55 rfl ?_
          refine E_ialdN dX11_gatherLayersByYear_56 (LYw k (by first | assumption | omega)).2.1 (by first | assumption | omega) (by first | assumption | omega) ?_
          refine E.top (((hX.1 k (by first | assumption | omega)).2.2.1 (σ 3 k 3 + m) (by first | assumption | omega)).1) ?_
          refine E_dup2 dX11_gatherLayersByYear_57 rfl rfl ?_
          refine E_ialdN dX11_gatherLayersByYear_58 rfl (Nat.lt_of_lt_of_le (by decide) hN) (by first | assumption | omega) ?_
          refine E.top (put_r I (fun y => nI (tyS σ y k + cyS (σ 1 k) y (σ 3 k 3) m)) (by omega)) ?_
          refine E_ic (nI 1) dX11_gatherLayersByYear_59 (by decide) ?_
          refine E_iadd dX11_gatherLayersByYear_60 ?_
          refine E.top (nI_add (tyS σ (σ 1 k (σ 3 k 3 + m)) k + cyS (σ 1 k) (σ 1 k (σ 3 k 3 + m)) (σ 3 k 3) m) 1) ?_
          refine E_iastN dX11_gatherLayersByYear_61 rfl (Nat.lt_of_lt_of_le (by decide) hN) (by first | assumption | omega) ?_
          refine E.mem (put_s (f' := (fun y => nI (tyS σ y k + cyS (σ 1 k) y (σ 3 k 3) (m + 1)))) I _ (by omega) (fun y hy => ?_)) ?_
          · show nI (tyS σ y k + (cyS (σ 1 k) y (σ 3 k 3) m + _)) = _
            by_cases e : y = σ 1 k (σ 3 k 3 + m)
            · subst e
              rw [if_pos rfl, if_pos rfl, Nat.add_assoc]
            · rw [if_neg (fun q => e q.symm), if_neg e, Nat.add_zero]
          refine E_incN dX11_gatherLayersByYear_62 rfl ?_
          refine E_goto (tgt := 29) dX11_gatherLayersByYear_65 (by decide) ?_
          exact ih
      have hX := hX.put 52 100 (fun y => nI (tyS σ y k)) (by omega)
      refine E_iload_n dX11_gatherLayersByYear_10 rfl ?_
      refine E_bp (nI 12) dX11_gatherLayersByYear_11 (by decide) ?_
      refine E_cN_ge (a := k) (b := 12) (tgt := 74) dX11_gatherLayersByYear_13 (by omega) (by decide) (by decide) (fun c13 => absurd c13 (by omega)) (fun c13 => ?_)
      refine E_aload_n dX11_gatherLayersByYear_16 rfl ?_
      refine E_getR dX11_gatherLayersByYear_17 f_X11_11 rfl (Nat.lt_of_lt_of_le (by decide) hN) rfl (hR _ _ _ rfl) ?_
      refine E_iload_n dX11_gatherLayersByYear_20 rfl ?_
      refine E_aaldN dX11_gatherLayersByYear_21 rfl (Nat.lt_of_lt_of_le (by decide) hN) (by first | assumption | omega) (hR _ _ _ (RT1 k (by first | assumption | omega))) ?_
      refine E_getR dX11_gatherLayersByYear_22 f_X11_146 (LYw k (by first | assumption | omega)).1 (by first | assumption | omega) rfl (hR _ _ _ (RTw k (by first | assumption | omega)).2.2.1) ?_
      refine E_getI dX11_gatherLayersByYear_25 f_X11_190 (LYw k (by first | assumption | omega)).2.2.2.1 (by first | assumption | omega) rfl ?_
      refine E.top ((hX.1 k (by first | assumption | omega)).2.2.2.1 3 (by decide)) ?_
      refine E_istore_n dX11_gatherLayersByYear_28 (Nat.le_of_ble_eq_true rfl) ?_
      exact L2 0 (Nat.zero_le _)
  refine E_aload_n dX11_gatherLayersByYear_0 rfl ?_
  refine E_getR dX11_gatherLayersByYear_1 f_X11_79 rfl (Nat.lt_of_lt_of_le (by decide) hN) rfl (hR _ _ _ rfl) ?_
  refine E_ic (nI 0) dX11_gatherLayersByYear_4 (by decide) ?_
  refine E_callS (As := [_, _]) (kc' := 0) (ks' := 0) (kc := 0) (ks := 0) dX11_gatherLayersByYear_5 ok_J7_fill_53178 w_X11_238 st_J7_fill_53178 rfl rfl rfl (Nat.le_of_ble_eq_true rfl) (Nat.le_of_ble_eq_true rfl) (Nat.le_refl _) (c_fillI (L := 100) rfl (Nat.lt_of_lt_of_le (by decide) hN) ?_)
  refine E.mem (put_fil I 52 100 (nI 0) (f := (fun y => nI (tyS σ y 0))) (fun _ => rfl)) ?_
  refine E_ic (nI 0) dX11_gatherLayersByYear_8 (by decide) ?_
  refine E_istore_n dX11_gatherLayersByYear_9 (Nat.le_of_ble_eq_true rfl) ?_
  exact L 0 (by omega)
set_option maxRecDepth 100000 in
set_option maxHeartbeats 2000000 in
theorem sx_peak (x : Int32) : SX mX11_peak [.int x] (r_peak x) id := by
  intro g n I J R σ Q hB hX hQ
  have hN := hX.2.2.2.1.n.1
  have hR := hX.2.2.2.1.1
  have hX1 := hX.put 52 100 (fun y => nI (tyS σ y 12)) (by omega)
  unfold r_peak at hQ
  rcases i32_ix x 2 (by decide) with hx | ⟨s, hs, rfl⟩
  · rw [gd_f (rg_no hx (by decide))] at hQ
    have hq := hQ I J hX (fun _ _ _ => rfl) (fun _ _ _ => rfl)
    refine E_iload_n dX11_peak_0 rfl ?_
    refine E_if_lt (tgt := 9) dX11_peak_1 (by decide) (fun c1 => ?_) (fun c1 => ?_)
    · refine E_ic (-1) dX11_peak_9 (by decide) ?_
      exact E_iret dX11_peak_10 rfl (hq)
    · refine E_iload_n dX11_peak_4 rfl ?_
      refine E_ic (nI 1) dX11_peak_5 (by decide) ?_
      refine E_icmp_le (tgt := 11) dX11_peak_6 (by decide) (fun c6 => by first | exact absurd c6 (fun z => hx.elim c1 (fun q => nI_ge (show 1 < 2 by decide) (by decide) (Int32.le_trans q z))) | exact absurd (fun z => hx.elim c1 (fun q => nI_ge (show 1 < 2 by decide) (by decide) (Int32.le_trans q z))) c6) (fun c6 => ?_)
      refine E_ic (-1) dX11_peak_9 (by decide) ?_
      exact E_iret dX11_peak_10 rfl (hq)
  · rw [gd_t (rg_of (show s ≤ 1 by omega))] at hQ
    have hq := hQ (put I 52 100 (fun y => nI (tyS σ y 12))) J hX1 (fun a a1 _ => put_o I 52 100 _ (by omega)) (fun a a1 _ => put_o I 52 100 _ (by omega))
    have tb : ∀ y, tyS σ y 12 ≤ 288 := fun y => tyS_le hB y 12 (by omega)
    have pb : ∀ y, (pkS (fun y => tyS σ y 12) y).1 ≤ 288 := pkS_le tb
    have L : ∀ i, i ≤ 100 → E g mX11_peak 900 0 0 23 [.ref 0, .int (nI s), .int (nI ((pkS (fun y => tyS σ y 12) i).1)), .int ((pkS (fun y => tyS σ y 12) i).2), .int (nI i)] [] n (put I 52 100 (fun y => nI (tyS σ y 12))) J R Q := by
      refine loopU 100 ?_ (fun i hi ih => ?_)
      · refine E_iload dX11_peak_23 rfl ?_
        refine E_bp (nI 100) dX11_peak_25 (by decide) ?_
        refine E_cN_ge (a := 100) (b := 100) (tgt := 58) dX11_peak_27 (by decide) (by decide) (by decide) (fun c27 => ?_) (fun c27 => absurd c27 (by omega))
        refine E_iload_n dX11_peak_58 rfl ?_
        refine E_zN_ne (a := s) (tgt := 66) dX11_peak_59 (by omega) (by decide) (fun c59 => ?_) (fun c59 => ?_)
        · refine E_iload_n dX11_peak_66 rfl ?_
          exact E_iret dX11_peak_67 rfl (by first | (rw [if_pos (by rw [c59])] at hq; exact hq) | (rw [if_neg (fun q => by have := (nI_eq (by omega) (by decide)).mp q; omega)] at hq; exact hq))
        · refine E_iload_n dX11_peak_62 rfl ?_
          refine E_goto (tgt := 67) dX11_peak_63 (by decide) ?_
          exact E_iret dX11_peak_67 rfl (by first | (rw [if_pos (by rw [c59])] at hq; exact hq) | (rw [if_neg (fun q => by have := (nI_eq (by omega) (by decide)).mp q; omega)] at hq; exact hq))
      · have tb := tb i
        have pb := pb i
        refine E_iload dX11_peak_23 rfl ?_
        refine E_bp (nI 100) dX11_peak_25 (by decide) ?_
        refine E_cN_ge (a := i) (b := 100) (tgt := 58) dX11_peak_27 (by omega) (by decide) (by decide) (fun c27 => absurd c27 (by omega)) (fun c27 => ?_)
        refine E_aload_n dX11_peak_30 rfl ?_
        refine E_getR dX11_peak_31 f_X11_79 rfl (Nat.lt_of_lt_of_le (by decide) hN) rfl (hR _ _ _ rfl) ?_
        refine E_iload dX11_peak_34 rfl ?_
        refine E_ialdN dX11_peak_36 rfl (Nat.lt_of_lt_of_le (by decide) hN) (by first | assumption | omega) ?_
        refine E.top (put_r I (fun y => nI (tyS σ y 12)) (by omega)) ?_
        refine E_iload_n dX11_peak_37 rfl ?_
        refine E_cN_le (a := tyS σ i 12) (b := (pkS (fun y => tyS σ y 12) i).1) (tgt := 52) dX11_peak_38 (by omega) (by omega) (by decide) (fun c38 => ?_) (fun c38 => ?_)
        · refine E_incN dX11_peak_52 rfl ?_
          refine E_goto (tgt := 23) dX11_peak_55 (by decide) ?_
          rw [pkS_f c38] at ih
          exact ih
        · refine E_aload_n dX11_peak_41 rfl ?_
          refine E_getR dX11_peak_42 f_X11_79 rfl (Nat.lt_of_lt_of_le (by decide) hN) rfl (hR _ _ _ rfl) ?_
          refine E_iload dX11_peak_45 rfl ?_
          refine E_ialdN dX11_peak_47 rfl (Nat.lt_of_lt_of_le (by decide) hN) (by first | assumption | omega) ?_
          refine E.top (put_r I (fun y => nI (tyS σ y 12)) (by omega)) ?_
          refine E_istore_n dX11_peak_48 (Nat.le_of_ble_eq_true rfl) ?_
          refine E_iload dX11_peak_49 rfl ?_
          refine E_istore_n dX11_peak_51 (Nat.le_of_ble_eq_true rfl) ?_
          refine E_incN dX11_peak_52 rfl ?_
          refine E_goto (tgt := 23) dX11_peak_55 (by decide) ?_
          rw [pkS_t c38] at ih
          exact ih
    refine E_iload_n dX11_peak_0 rfl ?_
    refine E_zN_lt (a := s) (tgt := 9) dX11_peak_1 (by omega) (by decide) (fun c1 => c1.elim) (fun c1 => ?_)
    refine E_iload_n dX11_peak_4 rfl ?_
    refine E_ic (nI 1) dX11_peak_5 (by decide) ?_
    refine E_cN_le (a := s) (b := 1) (tgt := 11) dX11_peak_6 (by omega) (by decide) (by decide) (fun c6 => ?_) (fun c6 => absurd c6 (by omega))
    refine E_aload_n dX11_peak_11 rfl ?_
    refine E_callV (As := []) (ci := 10) (kc' := 0) (ks' := 0) (kc := 0) (ks := 0) dX11_peak_12 ok_X11_gatherLayersByYear w_X11_254 i_X11_gatherLayersByYear s_X11_gatherLayersByYear rfl (by decide) rfl (Nat.lt_of_lt_of_le (by decide) hN) rfl rfl rfl (Nat.le_of_ble_eq_true rfl) (Nat.le_of_ble_eq_true rfl) (Nat.le_refl _) (x_gatherL (d := 898) hB hX ?_)
    refine E_ic (nI 0) dX11_peak_15 (by decide) ?_
    refine E_istore_n dX11_peak_16 (Nat.le_of_ble_eq_true rfl) ?_
    refine E_bp (-2) dX11_peak_17 (by decide) ?_
    refine E_istore_n dX11_peak_19 (Nat.le_of_ble_eq_true rfl) ?_
    refine E_ic (nI 0) dX11_peak_20 (by decide) ?_
    refine E_istore dX11_peak_21 (Nat.le_of_ble_eq_true rfl) ?_
    exact L 0 (by omega)
set_option maxRecDepth 100000 in
set_option maxHeartbeats 2000000 in
theorem sm_peak (x : Int32) : SM mX12_peak [.int x] (r_peak x) id := by
  intro g n I J R σ Q hB hM hN hR hQ
  have hq := hQ I J hM (fun _ _ => rfl) rfl (fun _ _ _ => rfl)
  unfold r_peak at hq
  refine E_iload_n dX12_peak_0 rfl ?_
  refine E_ic (nI 0) dX12_peak_1 (by decide) ?_
  refine E_ic (nI 1) dX12_peak_2 (by decide) ?_
  refine E_callS (As := [_, _, _]) (kc' := 0) (ks' := 0) (kc := 0) (ks := 0) dX12_peak_3 ok_X12_in w_X12_124 st_X12_in rfl rfl rfl (Nat.le_of_ble_eq_true rfl) (Nat.le_of_ble_eq_true rfl) (Nat.le_refl _) (M_in (by decide) (by decide) (fun s _ h2 e => ?_) (fun z => ?_))
  · subst e
    rw [gd_t (rg_of h2)] at hq
    have tb : ∀ y, tyS σ y 12 ≤ 288 := fun y => tyS_le hB y 12 (by omega)
    have pb : ∀ y, (pkS (fun y => tyS σ y 12) y).1 ≤ 288 := pkS_le tb
    have L : ∀ y, y ≤ 100 → E g mX12_peak 900 0 0 19 [.ref 114, .int (nI s), .int ((pkS (fun y => tyS σ y 12) y).2), .int (nI ((pkS (fun y => tyS σ y 12) y).1)), .int (nI y), jk, jk, jk] [] n I J R Q := by
      refine loopU 100 ?_ (fun y hy ih => ?_)
      · refine E_iload dX12_peak_19 rfl ?_
        refine E_bp (nI 100) dX12_peak_21 (by decide) ?_
        refine E_cN_ge (a := 100) (b := 100) (tgt := 119) dX12_peak_23 (by decide) (by decide) (by decide) (fun c23 => ?_) (fun c23 => absurd c23 (by omega))
        refine E_iload_n dX12_peak_119 rfl ?_
        refine E_zN_ne (a := s) (tgt := 127) dX12_peak_120 (by omega) (by decide) (fun c120 => ?_) (fun c120 => ?_)
        · refine E_iload_n dX12_peak_127 rfl ?_
          exact E_iret dX12_peak_128 rfl (by first | (rw [if_pos (by rw [c120])] at hq; exact hq) | (rw [if_neg (fun q => by have := (nI_eq (by omega) (by decide)).mp q; omega)] at hq; exact hq))
        · refine E_iload_n dX12_peak_123 rfl ?_
          refine E_goto (tgt := 128) dX12_peak_124 (by decide) ?_
          exact E_iret dX12_peak_128 rfl (by first | (rw [if_pos (by rw [c120])] at hq; exact hq) | (rw [if_neg (fun q => by have := (nI_eq (by omega) (by decide)).mp q; omega)] at hq; exact hq))
      · have tb := tb y
        have pb := pb y
        have L2 : ∀ k, k ≤ 12 → E g mX12_peak 900 0 0 32 [.ref 114, .int (nI s), .int ((pkS (fun y => tyS σ y 12) y).2), .int (nI ((pkS (fun y => tyS σ y 12) y).1)), .int (nI y), .int (nI (tyS σ y k)), .int (nI k), jk] [] n I J R Q := by
          refine loopU 12 ?_ (fun k hk ihk => ?_)
          · refine E_iload dX12_peak_32 rfl ?_
            refine E_bp (nI 12) dX12_peak_34 (by decide) ?_
            refine E_cN_ge (a := 12) (b := 12) (tgt := 98) dX12_peak_36 (by decide) (by decide) (by decide) (fun c36 => ?_) (fun c36 => absurd c36 (by omega))
            refine E_iload dX12_peak_98 rfl ?_
            refine E_iload_n dX12_peak_100 rfl ?_
            refine E_cN_gt (a := tyS σ y 12) (b := (pkS (fun y => tyS σ y 12) y).1) (tgt := 107) dX12_peak_101 (by omega) (by omega) (by decide) (fun c101 => ?_) (fun c101 => ?_)
            · refine E_iload dX12_peak_107 rfl ?_
              refine E_istore_n dX12_peak_109 (Nat.le_of_ble_eq_true rfl) ?_
              refine E_iload dX12_peak_110 rfl ?_
              refine E_istore_n dX12_peak_112 (Nat.le_of_ble_eq_true rfl) ?_
              refine E_incN dX12_peak_113 rfl ?_
              refine E_goto (tgt := 19) dX12_peak_116 (by decide) ?_
              refine E.mask [true, true, true, true, true, false, false, false] ?_
              rw [pkS_t c101] at ih
              exact ih
            · refine E_goto (tgt := 113) dX12_peak_104 (by decide) ?_
              refine E_incN dX12_peak_113 rfl ?_
              refine E_goto (tgt := 19) dX12_peak_116 (by decide) ?_
              refine E.mask [true, true, true, true, true, false, false, false] ?_
              rw [pkS_f c101] at ih
              exact ih
          · have b := hB.1 k hk
            have L3 : ∀ m, m ≤ (σ 0 k 0 - σ 3 k 3) → E g mX12_peak 900 0 0 51 [.ref 114, .int (nI s), .int ((pkS (fun y => tyS σ y 12) y).2), .int (nI ((pkS (fun y => tyS σ y 12) y).1)), .int (nI y), .int (nI (tyS σ y k + cyS (σ 1 k) y (σ 3 k 3) m)), .int (nI k), .int (nI (σ 3 k 3 + m))] [] n I J R Q := by
              refine loopU (σ 0 k 0 - σ 3 k 3) ?_ (fun m hm ih => ?_)
              · refine E_iload dX12_peak_51 rfl ?_
                refine E_aload_n dX12_peak_53 rfl ?_
                refine E_getR dX12_peak_54 f_X12_19 rfl (Nat.lt_of_lt_of_le (by decide) hN) rfl (hR _ _ _ rfl) ?_
                refine E_iload dX12_peak_57 rfl ?_
                refine E_ialdN dX12_peak_59 rfl (Nat.lt_of_lt_of_le (by decide) hN) (by first | assumption | omega) ?_
                refine E.top ((hM.1 k (by first | assumption | omega)).1) ?_
                refine E_cN_ge (a := σ 3 k 3 + (σ 0 k 0 - σ 3 k 3)) (b := σ 0 k 0) (tgt := 92) dX12_peak_60 (by omega) (by omega) (by decide) (fun c60 => ?_) (fun c60 => absurd c60 (by omega))
                refine E_incN dX12_peak_92 rfl ?_
                refine E_goto (tgt := 32) dX12_peak_95 (by decide) ?_
                refine E.mask [true, true, true, true, true, true, true, false] ?_
                exact ihk
              · have hyy := b.2.1 (σ 3 k 3 + m) (by omega)
                refine E_iload dX12_peak_51 rfl ?_
                refine E_aload_n dX12_peak_53 rfl ?_
                refine E_getR dX12_peak_54 f_X12_19 rfl (Nat.lt_of_lt_of_le (by decide) hN) rfl (hR _ _ _ rfl) ?_
                refine E_iload dX12_peak_57 rfl ?_
                refine E_ialdN dX12_peak_59 rfl (Nat.lt_of_lt_of_le (by decide) hN) (by first | assumption | omega) ?_
                refine E.top ((hM.1 k (by first | assumption | omega)).1) ?_
                refine E_cN_ge (a := σ 3 k 3 + m) (b := σ 0 k 0) (tgt := 92) dX12_peak_60 (by omega) (by omega) (by decide) (fun c60 => absurd c60 (by omega)) (fun c60 => ?_)
                refine E_aload_n dX12_peak_63 rfl ?_
                refine E_getR dX12_peak_64 f_X12_22 rfl (Nat.lt_of_lt_of_le (by decide) hN) rfl (hR _ _ _ rfl) ?_
                refine E_iload dX12_peak_67 rfl ?_
                refine E_iload dX12_peak_69 rfl ?_
                refine E_callS (As := [_, _]) (kc' := 0) (ks' := 0) (kc := 0) (ks := 0) dX12_peak_71 ok_X12_at w_X12_280 st_X12_at rfl rfl rfl (Nat.le_of_ble_eq_true rfl) (Nat.le_of_ble_eq_true rfl) (Nat.le_refl _) (m_at ?_)
                refine E_ialdN dX12_peak_74 rfl (Nat.lt_of_lt_of_le (by decide) hN) (by first | assumption | omega) ?_
                refine E.top (((hM.1 k (by first | assumption | omega)).2 (σ 3 k 3 + m) (by first | assumption | omega)).1) ?_
                refine E_iload dX12_peak_75 rfl ?_
                refine E_cN_ne (a := σ 1 k (σ 3 k 3 + m)) (b := y) (tgt := 86) dX12_peak_77 (by omega) (by omega) (by decide) (fun c77 => ?_) (fun c77 => ?_)
                · refine E_incN dX12_peak_86 rfl ?_
                  refine E_goto (tgt := 51) dX12_peak_89 (by decide) ?_
                  rw [show cyS (σ 1 k) y (σ 3 k 3) (m + 1) = cyS (σ 1 k) y (σ 3 k 3) m from by show _ + _ = _; rw [if_neg c77, Nat.add_zero]] at ih
                  exact ih
                · refine E_iload dX12_peak_80 rfl ?_
                  refine E_ic (nI 1) dX12_peak_82 (by decide) ?_
                  refine E_iadd dX12_peak_83 ?_
                  refine E.top (nI_add (tyS σ y k + cyS (σ 1 k) y (σ 3 k 3) m) 1) ?_
                  refine E_istore dX12_peak_84 (Nat.le_of_ble_eq_true rfl) ?_
                  refine E_incN dX12_peak_86 rfl ?_
                  refine E_goto (tgt := 51) dX12_peak_89 (by decide) ?_
                  rw [show cyS (σ 1 k) y (σ 3 k 3) (m + 1) = cyS (σ 1 k) y (σ 3 k 3) m + 1 from by show _ + _ = _; rw [if_pos c77], ← Nat.add_assoc] at ih
                  exact ih
            refine E_iload dX12_peak_32 rfl ?_
            refine E_bp (nI 12) dX12_peak_34 (by decide) ?_
            refine E_cN_ge (a := k) (b := 12) (tgt := 98) dX12_peak_36 (by omega) (by decide) (by decide) (fun c36 => absurd c36 (by omega)) (fun c36 => ?_)
            refine E_aload_n dX12_peak_39 rfl ?_
            refine E_getR dX12_peak_40 f_X12_7 rfl (Nat.lt_of_lt_of_le (by decide) hN) rfl (hR _ _ _ rfl) ?_
            refine E_bp (nI 60) dX12_peak_43 (by decide) ?_
            refine E_iload dX12_peak_45 rfl ?_
            refine E_iadd dX12_peak_47 ?_
            refine E.top (nI_add 60 k) ?_
            refine E_ialdN dX12_peak_48 rfl (Nat.lt_of_lt_of_le (by decide) hN) (by first | assumption | omega) ?_
            refine E.top ((hM.2.1.1 k (by first | assumption | omega)).2.2.2.2.2) ?_
            refine E_istore dX12_peak_49 (Nat.le_of_ble_eq_true rfl) ?_
            exact L3 0 (Nat.zero_le _)
        refine E_iload dX12_peak_19 rfl ?_
        refine E_bp (nI 100) dX12_peak_21 (by decide) ?_
        refine E_cN_ge (a := y) (b := 100) (tgt := 119) dX12_peak_23 (by omega) (by decide) (by decide) (fun c23 => absurd c23 (by omega)) (fun c23 => ?_)
        refine E_ic (nI 0) dX12_peak_26 (by decide) ?_
        refine E_istore dX12_peak_27 (Nat.le_of_ble_eq_true rfl) ?_
        refine E_ic (nI 0) dX12_peak_29 (by decide) ?_
        refine E_istore dX12_peak_30 (Nat.le_of_ble_eq_true rfl) ?_
        exact L2 0 (by omega)
    refine E_zN_ne (a := 1) (tgt := 11) dX12_peak_6 (by decide) (by decide) (fun c6 => ?_) (fun c6 => absurd c6 (by omega))
    refine E_bp (-2) dX12_peak_11 (by decide) ?_
    refine E_istore_n dX12_peak_13 (Nat.le_of_ble_eq_true rfl) ?_
    refine E_ic (nI 0) dX12_peak_14 (by decide) ?_
    refine E_istore_n dX12_peak_15 (Nat.le_of_ble_eq_true rfl) ?_
    refine E_ic (nI 0) dX12_peak_16 (by decide) ?_
    refine E_istore dX12_peak_17 (Nat.le_of_ble_eq_true rfl) ?_
    exact L 0 (by omega)
  · rw [gd_f (fun y => by obtain ⟨j, hj, e⟩ := y; exact z j (Nat.zero_le _) hj e)] at hq
    refine E_zN_ne (a := 0) (tgt := 11) dX12_peak_6 (by decide) (by decide) (fun c6 => absurd c6 (by omega)) (fun c6 => ?_)
    refine E_ic (-1) dX12_peak_9 (by decide) ?_
    exact E_iret dX12_peak_10 rfl (hq)
end PPeak
