/-! ===== rows with counted places ===== -/
theorem LY_lt (a : Nat) : (LY a).2 < 2 ^ 31 := by
  unfold LY
  rw [List.getD_eq_getElem?_getD]
  cases h : LYL[a]? with
  | none => decide
  | some q =>
    have : ∀ q ∈ LYL, q.2 < 2 ^ 31 := by decide +kernel
    exact this q (List.mem_of_getElem? h)
theorem LY_L {a kd L : Nat} (h : LY a = (kd, L)) : L < 2 ^ 31 := by have := LY_lt a; rw [h] at this; exact this
section EX
variable {g : GL} {M : MD} {d kc ks pc n : Nat} {ls st : List Value} {I : IM} {J : JM} {R : RM} {Q : PQ}
theorem E_ialdN {a L i : Nat} (hd : decode M.2.1 pc = .ok (.iaload, 1)) (hs : LY a = (20, L)) (ha : a < n) (hi : i < L) (kk : E g M d kc ks (pc + 1) ls (.int (I a i) :: st) n I J R Q) : E g M d kc ks pc ls (.int (nI i) :: .ref a :: st) n I J R Q :=
  E_iald hd hs ha (vp_in_nI hi (LY_L hs)) (by rw [nI_clamp (Nat.lt_trans hi (LY_L hs))]; exact kk)
theorem E_baldN {a L i : Nat} (hd : decode M.2.1 pc = .ok (.baload, 1)) (hs : LY a = (22, L)) (ha : a < n) (hi : i < L) (kk : E g M d kc ks (pc + 1) ls (.int (I a i) :: st) n I J R Q) : E g M d kc ks pc ls (.int (nI i) :: .ref a :: st) n I J R Q :=
  E_bald hd hs ha (vp_in_nI hi (LY_L hs)) (by rw [nI_clamp (Nat.lt_trans hi (LY_L hs))]; exact kk)
theorem E_laldN {a L i : Nat} (hd : decode M.2.1 pc = .ok (.laload, 1)) (hs : LY a = (21, L)) (ha : a < n) (hi : i < L) (kk : E g M d kc ks (pc + 1) ls (.long (J a i) :: st) n I J R Q) : E g M d kc ks pc ls (.int (nI i) :: .ref a :: st) n I J R Q :=
  E_lald hd hs ha (vp_in_nI hi (LY_L hs)) (by rw [nI_clamp (Nat.lt_trans hi (LY_L hs))]; exact kk)
theorem E_aaldN {a L i b : Nat} (hd : decode M.2.1 pc = .ok (.aaload, 1)) (hs : LY a = (23, L)) (ha : a < n) (hi : i < L) (hb : R a i = some b) (kk : E g M d kc ks (pc + 1) ls (.ref b :: st) n I J R Q) : E g M d kc ks pc ls (.int (nI i) :: .ref a :: st) n I J R Q :=
  E_aald hd hs ha (vp_in_nI hi (LY_L hs)) (by rw [nI_clamp (Nat.lt_trans hi (LY_L hs))]; exact hb) kk
theorem E_iastN {a L i : Nat} {x : Int32} (hd : decode M.2.1 pc = .ok (.iastore, 1)) (hs : LY a = (20, L)) (ha : a < n) (hi : i < L) (kk : E g M d kc ks (pc + 1) ls st n (up2 I a i x) J R Q) : E g M d kc ks pc ls (.int x :: .int (nI i) :: .ref a :: st) n I J R Q :=
  E_iast hd hs ha (vp_in_nI hi (LY_L hs)) (by rw [nI_clamp (Nat.lt_trans hi (LY_L hs))]; exact kk)
theorem E_bastN {a L i : Nat} {x : Int32} (hd : decode M.2.1 pc = .ok (.bastore, 1)) (hs : LY a = (22, L)) (ha : a < n) (hi : i < L) (kk : E g M d kc ks (pc + 1) ls st n (up2 I a i x.toInt8.toInt32) J R Q) : E g M d kc ks pc ls (.int x :: .int (nI i) :: .ref a :: st) n I J R Q :=
  E_bast hd hs ha (vp_in_nI hi (LY_L hs)) (by rw [nI_clamp (Nat.lt_trans hi (LY_L hs))]; exact kk)
theorem E_lastN {a L i : Nat} {x : Int64} (hd : decode M.2.1 pc = .ok (.lastore, 1)) (hs : LY a = (21, L)) (ha : a < n) (hi : i < L) (kk : E g M d kc ks (pc + 1) ls st n I (up2 J a i x) R Q) : E g M d kc ks pc ls (.long x :: .int (nI i) :: .ref a :: st) n I J R Q :=
  E_last hd hs ha (vp_in_nI hi (LY_L hs)) (by rw [nI_clamp (Nat.lt_trans hi (LY_L hs))]; exact kk)
theorem E_incN {i j : Nat} (hd : decode M.2.1 pc = .ok (.iinc i 1, 3)) (hv : lgt ls i = .int (nI j)) (k : E g M d kc ks (pc + 3) (lst ls i (.int (nI (j + 1)))) st n I J R Q) : E g M d kc ks pc ls st n I J R Q :=
  E_inc 1 hd hv (by decide) (by rw [nI_1]; exact k)
theorem E_decN {i j : Nat} (hd : decode M.2.1 pc = .ok (.iinc i (-1), 3)) (hv : lgt ls i = .int (nI (j + 1))) (k : E g M d kc ks (pc + 3) (lst ls i (.int (nI j))) st n I J R Q) : E g M d kc ks pc ls st n I J R Q :=
  E_inc (-1) hd hv (by decide) (by rw [pk_m1]; exact k)
theorem E.memE {I' : IM} (k : E g M d kc ks pc ls st n I' J R Q) (h : I = I') : E g M d kc ks pc ls st n I J R Q := h ▸ k
theorem E.memJ {J' : JM} (h : J = J') (k : E g M d kc ks pc ls st n I J' R Q) : E g M d kc ks pc ls st n I J R Q := h ▸ k
/-- all places of the cell a below L become v -/
def fil (I : IM) (a L : Nat) (v : Int32) : IM := fun x y => if x = a ∧ y < L then v else I x y
def filJ (I : JM) (a L : Nat) (v : Int64) : JM := fun x y => if x = a ∧ y < L then v else I x y
theorem fil_0 (I : IM) (a : Nat) (v : Int32) : fil I a 0 v = I := by funext x y; simp [fil]
theorem fil_s (I : IM) (a i : Nat) (v : Int32) : up2 (fil I a i v) a i v = fil I a (i + 1) v := by
  funext x y
  unfold up2 fil
  by_cases h : x = a
  · subst h
    by_cases h2 : y = i
    · subst h2; simp
    · by_cases h3 : y < i
      · simp [h2, h3, Nat.lt_succ_of_lt h3]
      · simp [h2, h3, show ¬ y < i + 1 by omega]
  · simp [h]
theorem filJ_0 (I : JM) (a : Nat) (v : Int64) : filJ I a 0 v = I := by funext x y; simp [filJ]
theorem filJ_s (I : JM) (a i : Nat) (v : Int64) : up2 (filJ I a i v) a i v = filJ I a (i + 1) v := by
  funext x y
  unfold up2 filJ
  by_cases h : x = a
  · subst h
    by_cases h2 : y = i
    · subst h2; simp
    · by_cases h3 : y < i
      · simp [h2, h3, Nat.lt_succ_of_lt h3]
      · simp [h2, h3, show ¬ y < i + 1 by omega]
  · simp [h]
end EX
section PUtil
variable {g : GL} {d n : Nat} {I : IM} {J : JM} {R : RM} {Q : PQ}
set_option maxRecDepth 100000 in
set_option maxHeartbeats 4000000 in
theorem l_fillI {a L : Nat} {v : Int32} (hs : LY a = (20, L)) (ha : a < n) (hQ : Q none n (fil I a L v) J R) : ∀ (m i : Nat), i + m = L → E g mJ7_fill_53178 d 0 0 5 [.ref a, .int v, .int (nI i), .int (nI L)] [] n (fil I a i v) J R Q := by
  have hL := LY_L hs
  intro m
  induction m with
  | zero =>
    intro i hi
    have hi : i = L := hi
    subst hi
    refine E_iload_n dJ7_fill_53178_5 rfl ?_
    refine E_iload_n dJ7_fill_53178_6 rfl ?_
    refine E_icmp_ge (tgt := 20) dJ7_fill_53178_7 (by decide) (fun c7 => ?_) (fun c7 => absurd (Int32.le_refl _) c7)
    exact E_ret dJ7_fill_53178_20 rfl (hQ)
  | succ m ih =>
    intro i hi
    have hlt : i < L := by omega
    refine E_iload_n dJ7_fill_53178_5 rfl ?_
    refine E_iload_n dJ7_fill_53178_6 rfl ?_
    refine E_icmp_ge (tgt := 20) dJ7_fill_53178_7 (by decide) (fun c7 => absurd c7 (nI_ge hlt hL)) (fun c7 => ?_)
    refine E_aload_n dJ7_fill_53178_10 rfl ?_
    refine E_iload_n dJ7_fill_53178_11 rfl ?_
    refine E_iload_n dJ7_fill_53178_12 rfl ?_
    refine E_iastN dJ7_fill_53178_13 hs ha hlt ?_
    refine E_incN dJ7_fill_53178_14 rfl ?_
    refine E_goto (tgt := 5) dJ7_fill_53178_17 (by decide) ?_
    exact E.memE (ih (i + 1) (by omega)) (fil_s I a i v)
set_option maxRecDepth 100000 in
set_option maxHeartbeats 4000000 in
theorem c_fillI {a L : Nat} {v : Int32} (hs : LY a = (20, L)) (ha : a < n) (hQ : Q none n (fil I a L v) J R) : E g mJ7_fill_53178 d 0 0 0 (ent 4 [.ref a, .int v]) [] n I J R Q := by
  refine E_ic (0) dJ7_fill_53178_0 (by decide) ?_
  refine E_istore_n dJ7_fill_53178_1 (Nat.le_of_ble_eq_true rfl) ?_
  refine E_aload_n dJ7_fill_53178_2 rfl ?_
  refine E_alen dJ7_fill_53178_3 (by first | assumption | rfl) (by first | assumption | omega) (by decide) (by decide) ?_
  refine E_istore_n dJ7_fill_53178_4 (Nat.le_of_ble_eq_true rfl) ?_
  exact E.memE (l_fillI hs ha hQ L 0 (by omega)) (fil_0 I a v).symm
set_option maxRecDepth 100000 in
set_option maxHeartbeats 4000000 in
theorem l_fillJ {a L : Nat} {v : Int64} (hs : LY a = (21, L)) (ha : a < n) (hQ : Q none n I (filJ J a L v) R) : ∀ (m i : Nat), i + m = L → E g mJ7_fill_d0a16 d 0 0 6 [.ref a, .long v, jk, .int (nI i), .int (nI L)] [] n I (filJ J a i v) R Q := by
  have hL := LY_L hs
  intro m
  induction m with
  | zero =>
    intro i hi
    have hi : i = L := hi
    subst hi
    refine E_iload_n dJ7_fill_d0a16_6 rfl ?_
    refine E_iload dJ7_fill_d0a16_7 rfl ?_
    refine E_icmp_ge (tgt := 22) dJ7_fill_d0a16_9 (by decide) (fun c9 => ?_) (fun c9 => absurd (Int32.le_refl _) c9)
    exact E_ret dJ7_fill_d0a16_22 rfl (hQ)
  | succ m ih =>
    intro i hi
    have hlt : i < L := by omega
    refine E_iload_n dJ7_fill_d0a16_6 rfl ?_
    refine E_iload dJ7_fill_d0a16_7 rfl ?_
    refine E_icmp_ge (tgt := 22) dJ7_fill_d0a16_9 (by decide) (fun c9 => absurd c9 (nI_ge hlt hL)) (fun c9 => ?_)
    refine E_aload_n dJ7_fill_d0a16_12 rfl ?_
    refine E_iload_n dJ7_fill_d0a16_13 rfl ?_
    refine E_lload_n dJ7_fill_d0a16_14 rfl ?_
    refine E_lastN dJ7_fill_d0a16_15 hs ha hlt ?_
    refine E_incN dJ7_fill_d0a16_16 rfl ?_
    refine E_goto (tgt := 6) dJ7_fill_d0a16_19 (by decide) ?_
    exact E.memJ (filJ_s J a i v) (ih (i + 1) (by omega))
set_option maxRecDepth 100000 in
set_option maxHeartbeats 4000000 in
theorem c_fillJ {a L : Nat} {v : Int64} (hs : LY a = (21, L)) (ha : a < n) (hQ : Q none n I (filJ J a L v) R) : E g mJ7_fill_d0a16 d 0 0 0 (ent 5 [.ref a, .long v]) [] n I J R Q := by
  refine E_ic (0) dJ7_fill_d0a16_0 (by decide) ?_
  refine E_istore_n dJ7_fill_d0a16_1 (Nat.le_of_ble_eq_true rfl) ?_
  refine E_aload_n dJ7_fill_d0a16_2 rfl ?_
  refine E_alen dJ7_fill_d0a16_3 (by first | assumption | rfl) (by first | assumption | omega) (by decide) (by decide) ?_
  refine E_istore dJ7_fill_d0a16_4 (Nat.le_of_ble_eq_true rfl) ?_
  exact E.memJ (filJ_0 J a v).symm (l_fillJ hs ha hQ L 0 (by omega))
/-- Integer.bitCount as the machine reckons it -/
def bcI (x : Int32) : Int32 :=
  let sh (z : Int32) (k : Int32) : Int32 := (z.toUInt32 >>> (k.toUInt32 &&& Int32.toUInt32 31)).toInt32
  let a := x - (sh x 1 &&& 1431655765)
  let b := (a &&& 858993459) + (sh a 2 &&& 858993459)
  let c := (b + sh b 4) &&& 252645135
  let e := c + sh c 8
  let f := e + sh e 16
  f &&& 63
set_option maxRecDepth 100000 in
set_option maxHeartbeats 4000000 in
theorem c_bitCount {x : Int32} (hQ : Q (some (.int (bcI x))) n I J R) : E g mJ6_bitCount_0f7a4 d 0 0 0 (ent 1 [.int x]) [] n I J R Q := by
  refine E_iload_n dJ6_bitCount_0f7a4_0 rfl ?_
  refine E_iload_n dJ6_bitCount_0f7a4_1 rfl ?_
  refine E_ic (1) dJ6_bitCount_0f7a4_2 (by decide) ?_
  refine E_iushr dJ6_bitCount_0f7a4_3 ?_
  refine E_ldcw (1431655765) dJ6_bitCount_0f7a4_4 k_J6_265 ?_
  refine E_iand dJ6_bitCount_0f7a4_7 ?_
  refine E_isub dJ6_bitCount_0f7a4_8 ?_
  refine E_istore_n dJ6_bitCount_0f7a4_9 (Nat.le_of_ble_eq_true rfl) ?_
  refine E_iload_n dJ6_bitCount_0f7a4_10 rfl ?_
  refine E_ldcw (858993459) dJ6_bitCount_0f7a4_11 k_J6_266 ?_
  refine E_iand dJ6_bitCount_0f7a4_14 ?_
  refine E_iload_n dJ6_bitCount_0f7a4_15 rfl ?_
  refine E_ic (2) dJ6_bitCount_0f7a4_16 (by decide) ?_
  refine E_iushr dJ6_bitCount_0f7a4_17 ?_
  refine E_ldcw (858993459) dJ6_bitCount_0f7a4_18 k_J6_266 ?_
  refine E_iand dJ6_bitCount_0f7a4_21 ?_
  refine E_iadd dJ6_bitCount_0f7a4_22 ?_
  refine E_istore_n dJ6_bitCount_0f7a4_23 (Nat.le_of_ble_eq_true rfl) ?_
  refine E_iload_n dJ6_bitCount_0f7a4_24 rfl ?_
  refine E_iload_n dJ6_bitCount_0f7a4_25 rfl ?_
  refine E_ic (4) dJ6_bitCount_0f7a4_26 (by decide) ?_
  refine E_iushr dJ6_bitCount_0f7a4_27 ?_
  refine E_iadd dJ6_bitCount_0f7a4_28 ?_
  refine E_ldcw (252645135) dJ6_bitCount_0f7a4_29 k_J6_267 ?_
  refine E_iand dJ6_bitCount_0f7a4_32 ?_
  refine E_istore_n dJ6_bitCount_0f7a4_33 (Nat.le_of_ble_eq_true rfl) ?_
  refine E_iload_n dJ6_bitCount_0f7a4_34 rfl ?_
  refine E_iload_n dJ6_bitCount_0f7a4_35 rfl ?_
  refine E_bp (8) dJ6_bitCount_0f7a4_36 (by decide) ?_
  refine E_iushr dJ6_bitCount_0f7a4_38 ?_
  refine E_iadd dJ6_bitCount_0f7a4_39 ?_
  refine E_istore_n dJ6_bitCount_0f7a4_40 (Nat.le_of_ble_eq_true rfl) ?_
  refine E_iload_n dJ6_bitCount_0f7a4_41 rfl ?_
  refine E_iload_n dJ6_bitCount_0f7a4_42 rfl ?_
  refine E_bp (16) dJ6_bitCount_0f7a4_43 (by decide) ?_
  refine E_iushr dJ6_bitCount_0f7a4_45 ?_
  refine E_iadd dJ6_bitCount_0f7a4_46 ?_
  refine E_istore_n dJ6_bitCount_0f7a4_47 (Nat.le_of_ble_eq_true rfl) ?_
  refine E_iload_n dJ6_bitCount_0f7a4_48 rfl ?_
  refine E_bp (63) dJ6_bitCount_0f7a4_49 (by decide) ?_
  refine E_iand dJ6_bitCount_0f7a4_51 ?_
  exact E_iret dJ6_bitCount_0f7a4_52 rfl (hQ)
set_option maxRecDepth 100000 in
set_option maxHeartbeats 4000000 in
theorem c_isDigit {c : Int32} (ht : 48 ≤ c → c ≤ 57 → Q (some (.int 1)) n I J R) (hf : (c < 48 ∨ 57 < c) → Q (some (.int 0)) n I J R) : E g mX11_isDigit d 0 0 0 (ent 1 [.int c]) [] n I J R Q := by
  refine E_iload_n dX11_isDigit_0 rfl ?_
  refine E_bp (48) dX11_isDigit_1 (by decide) ?_
  refine E_icmp_lt (tgt := 16) dX11_isDigit_3 (by decide) (fun c3 => ?_) (fun c3 => ?_)
  · refine E_ic (0) dX11_isDigit_16 (by decide) ?_
    exact E_zret dX11_isDigit_17 rfl (by decide) (by first | exact ht (Int32.not_lt.mp c3) (Int32.not_lt.mp c9) | exact hf (Or.inl c3) | exact hf (Or.inr c9))
  · refine E_iload_n dX11_isDigit_6 rfl ?_
    refine E_bp (57) dX11_isDigit_7 (by decide) ?_
    refine E_icmp_gt (tgt := 16) dX11_isDigit_9 (by decide) (fun c9 => ?_) (fun c9 => ?_)
    · refine E_ic (0) dX11_isDigit_16 (by decide) ?_
      exact E_zret dX11_isDigit_17 rfl (by decide) (by first | exact ht (Int32.not_lt.mp c3) (Int32.not_lt.mp c9) | exact hf (Or.inl c3) | exact hf (Or.inr c9))
    · refine E_ic (1) dX11_isDigit_12 (by decide) ?_
      refine E_goto (tgt := 17) dX11_isDigit_13 (by decide) ?_
      exact E_zret dX11_isDigit_17 rfl (by decide) (by first | exact ht (Int32.not_lt.mp c3) (Int32.not_lt.mp c9) | exact hf (Or.inl c3) | exact hf (Or.inr c9))
/-- the place of a sign in a row of signs, or -1 -/
def plc : List Int32 → Nat → Int32 → Int32
  | [], _, _ => -1
  | b :: bs, k, c => if b = c then nI k else plc bs (k + 1) c
theorem SRL_b {i : Nat} {q : String × Nat × String × List Int32} (h : SRL[i]? = some q) : q.2.2.2.length < 100 ∧ ∀ j, q.2.2.2.getD j 0 &&& 255 = q.2.2.2.getD j 0 := by
  have h1 : ∀ q ∈ SRL, q.2.2.2.length < 100 ∧ ∀ b ∈ q.2.2.2, b &&& 255 = b := by decide
  obtain ⟨h2, h3⟩ := h1 q (List.mem_of_getElem? h)
  refine ⟨h2, fun j => ?_⟩
  rw [List.getD_eq_getElem?_getD]
  cases hj : q.2.2.2[j]? with
  | none => decide
  | some b => exact h3 b (List.mem_of_getElem? hj)
set_option maxRecDepth 100000 in
set_option maxHeartbeats 4000000 in
theorem l_placeIn {i : Nat} {q : String × Nat × String × List Int32} {c : Int32} (hq : SRL[i]? = some q) (hQ : Q (some (.int (plc q.2.2.2 0 c))) n I J R) : ∀ (bs : List Int32) (k : Nat), q.2.2.2.drop k = bs → plc q.2.2.2 0 c = plc bs k c → k ≤ q.2.2.2.length → E g mX11_placeIn (d + 4) 0 0 2 [.retAddr (2 * i + 1), .int c, .int (nI k)] [] n I J R Q := by
  have hL : q.2.2.2.length < 2 ^ 31 := Nat.lt_trans (SRL_b hq).1 (by decide)
  intro bs
  induction bs with
  | nil =>
    intro k hk he hkb
    have hle : q.2.2.2.length ≤ k := by
      rcases Nat.lt_or_ge k q.2.2.2.length with z | z
      · have := List.drop_eq_getElem_cons z
        rw [hk] at this
        cases this
      · exact z
    have hQ' : Q (some (.int (-1))) n I J R := by rw [he] at hQ; exact hQ
    refine E_iload_n dX11_placeIn_2 rfl ?_
    refine E_xload_n dX11_placeIn_3 rfl (gK_x g hq) ?_
    refine E_callT (As := []) (kc' := 0) (ks' := 0) (kc := 0) (ks := 0) dX11_placeIn_4 ok_J0_length_8abf5 rfl w_X11_338 i_J0_length_8abf5 s_J0_length_8abf5 hq rfl rfl rfl (Nat.le_of_ble_eq_true rfl) (Nat.le_of_ble_eq_true rfl) (Nat.le_refl _) (c_String_length hq ?_)
    refine E_icmp_ge (tgt := 27) dX11_placeIn_7 (by decide) (fun c7 => ?_) (fun c7 => absurd (nI_le hle (Nat.lt_of_le_of_lt hkb hL)) c7)
    refine E_ic (-1) dX11_placeIn_27 (by decide) ?_
    exact E_iret dX11_placeIn_28 rfl (hQ')
  | cons b bs ih =>
    intro k hk he hkb
    have hlt : k < q.2.2.2.length := by
      rcases Nat.lt_or_ge k q.2.2.2.length with z | z
      · exact z
      · rw [List.drop_eq_nil_of_le z] at hk
        cases hk
    have hb : q.2.2.2.getD k 0 = b ∧ q.2.2.2.drop (k + 1) = bs := by
      have h1 := List.drop_eq_getElem_cons hlt
      rw [hk] at h1
      injection h1 with h2 h3
      exact ⟨by rw [List.getD_eq_getElem?_getD, List.getElem?_eq_getElem hlt, h2]; rfl, h3.symm⟩
    have hcl : (nI k).toNatClampNeg = k := nI_clamp (Nat.lt_trans hlt hL)
    refine E_iload_n dX11_placeIn_2 rfl ?_
    refine E_xload_n dX11_placeIn_3 rfl (gK_x g hq) ?_
    refine E_callT (As := []) (kc' := 0) (ks' := 0) (kc := 0) (ks := 0) dX11_placeIn_4 ok_J0_length_8abf5 rfl w_X11_338 i_J0_length_8abf5 s_J0_length_8abf5 hq rfl rfl rfl (Nat.le_of_ble_eq_true rfl) (Nat.le_of_ble_eq_true rfl) (Nat.le_refl _) (c_String_length hq ?_)
    refine E_icmp_ge (tgt := 27) dX11_placeIn_7 (by decide) (fun c7 => absurd c7 (nI_ge hlt hL)) (fun c7 => ?_)
    refine E_xload_n dX11_placeIn_10 rfl (gK_x g hq) ?_
    refine E_iload_n dX11_placeIn_11 rfl ?_
    refine E_callT (As := [_]) (kc' := 0) (ks' := 0) (kc := 0) (ks := 0) dX11_placeIn_12 ok_J0_charAt_5068e rfl w_X11_343 i_J0_charAt_5068e s_J0_charAt_5068e hq rfl rfl rfl (Nat.le_of_ble_eq_true rfl) (Nat.le_of_ble_eq_true rfl) (Nat.le_refl _) (c_String_charAt hq (nI_pos (Nat.lt_trans hlt hL)) (nI_lt hlt hL) (by rw [hcl]; exact hlt) ?_)
    rw [hcl, (SRL_b hq).2, hb.1]
    refine E_iload_n dX11_placeIn_15 rfl ?_
    refine E_icmp_ne (tgt := 21) dX11_placeIn_16 (by decide) (fun c16 => ?_) (fun c16 => ?_)
    · refine E_incN dX11_placeIn_21 rfl ?_
      refine E_goto (tgt := 2) dX11_placeIn_24 (by decide) ?_
      exact ih (k + 1) hb.2 (by rw [he]; exact if_neg c16) (by omega)
    · refine E_iload_n dX11_placeIn_19 rfl ?_
      exact E_iret dX11_placeIn_20 rfl (by rw [he] at hQ; rw [plc, if_pos c16] at hQ; exact hQ)
set_option maxRecDepth 100000 in
set_option maxHeartbeats 4000000 in
theorem c_placeIn {i : Nat} {q : String × Nat × String × List Int32} {c : Int32} (hq : SRL[i]? = some q) (hQ : Q (some (.int (plc q.2.2.2 0 c))) n I J R) : E g mX11_placeIn (d + 4) 0 0 0 (ent 3 [.retAddr (2 * i + 1), .int c]) [] n I J R Q := by
  refine E_ic (0) dX11_placeIn_0 (by decide) ?_
  refine E_istore_n dX11_placeIn_1 (Nat.le_of_ble_eq_true rfl) ?_
  exact l_placeIn hq hQ _ 0 rfl rfl (Nat.zero_le _)
end PUtil
