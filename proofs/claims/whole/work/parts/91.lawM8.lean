/-! ===== law, the reference ===== -/
section PLawM8
variable {g : GL} {d n : Nat} {I : IM} {J : JM} {R : RM} {Q : PQ} {t c : Nat → Nat} {L : Nat} {σ : ST}
set_option maxRecDepth 100000 in
set_option maxHeartbeats 2000000 in
theorem m_takes {z p : Nat} (hd : 1 ≤ d) (hN : 152 ≤ n) (hR : RS R) (hc : okc t L c) (hL : L ≤ 240) (hC : CLm t L I) (hz : z < 256) (hp : p ≤ L) (h8 : I 114 8 = nI p) (ht : c p = z → Q (some (.int 1)) n (up2 I 114 8 (nI (p + 1))) J R) (hf : ¬ c p = z → Q (some (.int 0)) n (up2 I 114 10 (flt 1 p)) J R) : E g mX12_takes d 0 0 0 (ent 2 [.ref 114, .int (nI z)]) [] n I J R Q := by
  refine E_aload_n dX12_takes_0 rfl ?_
  refine E_callV (As := []) (ci := 11) (kc' := 0) (ks' := 0) (kc := 0) (ks := 0) dX12_takes_1 ok_X12_here w_X12_142 i_X12_here s_X12_here rfl (by decide) rfl (Nat.lt_of_lt_of_le (by decide) hN) rfl rfl rfl (Nat.le_of_ble_eq_true rfl) (Nat.le_of_ble_eq_true rfl) (by omega) (m_here (d := 0) hN hR hc (Nat.le_trans hL (by decide)) hC.1 hC.2 (p := p) (by omega) h8 ?_)
  refine E_iload_n dX12_takes_4 rfl ?_
  refine E_icmp_eq (tgt := 18) dX12_takes_5 (by decide) (fun cw5 => ?_) (fun cw5 => ?_)
  · refine E_aload_n dX12_takes_18 rfl ?_
    refine E_aload_n dX12_takes_19 rfl ?_
    refine E_getI dX12_takes_20 f_X12_136 rfl (Nat.lt_of_lt_of_le (by decide) hN) rfl ?_
    refine E.top (h8) ?_
    refine E_ic (nI 1) dX12_takes_23 (by decide) ?_
    refine E_iadd dX12_takes_24 ?_
    refine E.top (nI_add p 1) ?_
    refine E_putI dX12_takes_25 f_X12_136 rfl (Nat.lt_of_lt_of_le (by decide) hN) rfl ?_
    refine E_ic (nI 1) dX12_takes_28 (by decide) ?_
    exact E_zret dX12_takes_29 rfl (by decide) (ht ((ch_eq hz).mp cw5))
  · refine E_aload_n dX12_takes_8 rfl ?_
    refine E_ic (nI 1) dX12_takes_9 (by decide) ?_
    refine E_aload_n dX12_takes_10 rfl ?_
    refine E_getI dX12_takes_11 f_X12_136 rfl (Nat.lt_of_lt_of_le (by decide) hN) rfl ?_
    refine E.top (h8) ?_
    refine E_callV (As := [_, _]) (ci := 11) (kc' := 0) (ks' := 0) (kc := 0) (ks := 0) dX12_takes_14 ok_X12_wrongAt w_X12_149 i_X12_wrongAt s_X12_wrongAt rfl (by decide) rfl (Nat.lt_of_lt_of_le (by decide) hN) rfl rfl rfl (Nat.le_of_ble_eq_true rfl) (Nat.le_of_ble_eq_true rfl) (by omega) (m_wrongAt (d := 0) (k := 1) (q := p) hN ?_)
    exact E_zret dX12_takes_17 rfl (by decide) (hf (fun y => cw5 ((ch_eq hz).mpr y)))
set_option maxRecDepth 100000 in
set_option maxHeartbeats 2000000 in
theorem m_lawC {w : LWD} {IA : IM} (hN : 152 ≤ n) (hR : RS R) (w16 : w.1 ≤ 16) (w24 : wS w ≤ 240) (hA13 : IA 114 13 = nI (wS w)) (hA15 : IA 114 15 = nI w.1) (hA16 : IA 114 16 = nI w.1) (hA22 : ∀ i, i < wS w → IA 122 i = nI (1048576 * (wC w i).1 + (wC w i).2)) (hD : LDm w IA) (hQ : ∀ I' : IM, (∀ x, x ≠ 128 → (x < 129 ∨ 132 < x) → I' x = IA x) → LMq w I' → Q (some (.int (nI w.1))) n I' J R) : E g mX12_law d 0 0 95 [.ref 114, .int (nI L), .int (nI 1), .int (nI 0)] [] n IA J R Q := by
  have L2 : ∀ I3 : IM, (∀ x, x ≠ 128 → I3 x = IA x) → (∀ i, i < wS w → I3 128 i = nI (1048576 * (wC w i).1 + (wC w i).2)) → E g mX12_law d 0 0 123 [.ref 114, .int (nI L), .int (nI 1), .int (nI 0)] [] n I3 J R Q := by
    intro I3 g3 k3
    have L3 : ∀ j, j ≤ (w.1) → ∀ I4 : IM, ((∀ x, (x < 129 ∨ 132 < x) → I4 x = I3 x) ∧ ∀ r, r < j → I4 129 r = nI (w.2.1 r) ∧ I4 130 r = nI (w.2.2.1 r) ∧ I4 131 r = nI (w.2.2.2.1 r) ∧ I4 132 r = nI (w.2.2.2.2.1 r)) → E g mX12_law d 0 0 123 [.ref 114, .int (nI L), .int (nI 1), .int (nI j)] [] n I4 J R Q := by
      refine loopU (w.1) (fun I4 hv4 => ?_) (fun j hj ihj I4 hv4 => ?_)
      · refine E_iload_n dX12_law_123 rfl ?_
        refine E_aload_n dX12_law_124 rfl ?_
        refine E_getI dX12_law_125 f_X12_216 rfl (Nat.lt_of_lt_of_le (by decide) hN) rfl ?_
        refine E.top ((congrFun (hv4.1 114 (by decide)) 15).trans ((congrFun (g3 114 (by decide)) 15).trans hA15)) ?_
        refine E_cN_ge (a := w.1) (b := w.1) (tgt := 185) dX12_law_128 (by omega) (by omega) (by decide) (fun cw128 => ?_) (fun cw128 => absurd cw128 (by omega))
        refine E_aload_n dX12_law_185 rfl ?_
        refine E_getI dX12_law_186 f_X12_216 rfl (Nat.lt_of_lt_of_le (by decide) hN) rfl ?_
        refine E.top ((congrFun (hv4.1 114 (by decide)) 15).trans ((congrFun (g3 114 (by decide)) 15).trans hA15)) ?_
        exact E_iret dX12_law_189 rfl (hQ I4 (fun x h1 h2 => (hv4.1 x (by omega)).trans (g3 x (by omega))) ⟨(congrFun (hv4.1 114 (by decide)) 16).trans ((congrFun (g3 114 (by decide)) 16).trans hA16), hv4.2, fun i hi => by rw [hv4.1 128 (by decide)]; exact k3 i hi⟩)
      · refine E_iload_n dX12_law_123 rfl ?_
        refine E_aload_n dX12_law_124 rfl ?_
        refine E_getI dX12_law_125 f_X12_216 rfl (Nat.lt_of_lt_of_le (by decide) hN) rfl ?_
        refine E.top ((congrFun (hv4.1 114 (by decide)) 15).trans ((congrFun (g3 114 (by decide)) 15).trans hA15)) ?_
        refine E_cN_ge (a := j) (b := w.1) (tgt := 185) dX12_law_128 (by omega) (by omega) (by decide) (fun cw128 => absurd cw128 (by omega)) (fun cw128 => ?_)
        refine E_aload_n dX12_law_131 rfl ?_
        refine E_getR dX12_law_132 f_X12_53 rfl (Nat.lt_of_lt_of_le (by decide) hN) rfl (hR _ _ _ rfl) ?_
        refine E_iload_n dX12_law_135 rfl ?_
        refine E_aload_n dX12_law_136 rfl ?_
        refine E_getR dX12_law_137 f_X12_38 rfl (Nat.lt_of_lt_of_le (by decide) hN) rfl (hR _ _ _ rfl) ?_
        refine E_iload_n dX12_law_140 rfl ?_
        refine E_ialdN dX12_law_141 rfl (Nat.lt_of_lt_of_le (by decide) hN) (by omega) ?_
        refine E.top ((congrFun (hv4.1 124 (by decide)) j).trans ((congrFun (g3 124 (by decide)) j).trans (hD.2 j (by omega)).1)) ?_
        refine E_iastN dX12_law_142 rfl (Nat.lt_of_lt_of_le (by decide) hN) (by omega) ?_
        refine E_aload_n dX12_law_143 rfl ?_
        refine E_getR dX12_law_144 f_X12_56 rfl (Nat.lt_of_lt_of_le (by decide) hN) rfl (hR _ _ _ rfl) ?_
        refine E_iload_n dX12_law_147 rfl ?_
        refine E_aload_n dX12_law_148 rfl ?_
        refine E_getR dX12_law_149 f_X12_41 rfl (Nat.lt_of_lt_of_le (by decide) hN) rfl (hR _ _ _ rfl) ?_
        refine E_iload_n dX12_law_152 rfl ?_
        refine E_ialdN dX12_law_153 rfl (Nat.lt_of_lt_of_le (by decide) hN) (by omega) ?_
        refine E.top ((congrFun (up2_o _ 129 _ _ 125 (by decide)) j).trans ((congrFun (hv4.1 125 (by decide)) j).trans ((congrFun (g3 125 (by decide)) j).trans (hD.2 j (by omega)).2.1))) ?_
        refine E_iastN dX12_law_154 rfl (Nat.lt_of_lt_of_le (by decide) hN) (by omega) ?_
        refine E_aload_n dX12_law_155 rfl ?_
        refine E_getR dX12_law_156 f_X12_59 rfl (Nat.lt_of_lt_of_le (by decide) hN) rfl (hR _ _ _ rfl) ?_
        refine E_iload_n dX12_law_159 rfl ?_
        refine E_aload_n dX12_law_160 rfl ?_
        refine E_getR dX12_law_161 f_X12_44 rfl (Nat.lt_of_lt_of_le (by decide) hN) rfl (hR _ _ _ rfl) ?_
        refine E_iload_n dX12_law_164 rfl ?_
        refine E_ialdN dX12_law_165 rfl (Nat.lt_of_lt_of_le (by decide) hN) (by omega) ?_
        refine E.top ((congrFun (up2_o _ 130 _ _ 126 (by decide)) j).trans ((congrFun (up2_o _ 129 _ _ 126 (by decide)) j).trans ((congrFun (hv4.1 126 (by decide)) j).trans ((congrFun (g3 126 (by decide)) j).trans (hD.2 j (by omega)).2.2.1)))) ?_
        refine E_iastN dX12_law_166 rfl (Nat.lt_of_lt_of_le (by decide) hN) (by omega) ?_
        refine E_aload_n dX12_law_167 rfl ?_
        refine E_getR dX12_law_168 f_X12_62 rfl (Nat.lt_of_lt_of_le (by decide) hN) rfl (hR _ _ _ rfl) ?_
        refine E_iload_n dX12_law_171 rfl ?_
        refine E_aload_n dX12_law_172 rfl ?_
        refine E_getR dX12_law_173 f_X12_47 rfl (Nat.lt_of_lt_of_le (by decide) hN) rfl (hR _ _ _ rfl) ?_
        refine E_iload_n dX12_law_176 rfl ?_
        refine E_ialdN dX12_law_177 rfl (Nat.lt_of_lt_of_le (by decide) hN) (by omega) ?_
        refine E.top ((congrFun (up2_o _ 131 _ _ 127 (by decide)) j).trans ((congrFun (up2_o _ 130 _ _ 127 (by decide)) j).trans ((congrFun (up2_o _ 129 _ _ 127 (by decide)) j).trans ((congrFun (hv4.1 127 (by decide)) j).trans ((congrFun (g3 127 (by decide)) j).trans (hD.2 j (by omega)).2.2.2))))) ?_
        refine E_iastN dX12_law_178 rfl (Nat.lt_of_lt_of_le (by decide) hN) (by omega) ?_
        refine E_incN dX12_law_179 rfl ?_
        refine E_goto (tgt := 123) dX12_law_182 (by decide) ?_
        refine ihj _ ⟨fun x hx => (up2_o _ 132 _ _ x (by omega)).trans ((up2_o _ 131 _ _ x (by omega)).trans ((up2_o _ 130 _ _ x (by omega)).trans ((up2_o _ 129 _ _ x (by omega)).trans (hv4.1 x hx)))), fun r hr => ?_⟩
        rw [up2_o _ 132 _ _ 129 (by decide), up2_o _ 132 _ _ 130 (by decide), up2_o _ 132 _ _ 131 (by decide), up2_o _ 131 _ _ 129 (by decide), up2_o _ 131 _ _ 130 (by decide), up2_o _ 130 _ _ 129 (by decide)]
        by_cases e : r = j
        · rw [e, up2_s, up2_s, up2_s, up2_s]
          exact ⟨rfl, rfl, rfl, rfl⟩
        · have q9 := hv4.2 r (by omega)
          exact ⟨(up2_k _ _ e).trans q9.1, (up2_k _ _ e).trans ((up2_k _ _ e).trans q9.2.1), (up2_k _ _ e).trans ((up2_k _ _ e).trans ((up2_k _ _ e).trans q9.2.2.1)), (up2_k _ _ e).trans ((up2_k _ _ e).trans ((up2_k _ _ e).trans ((up2_k _ _ e).trans q9.2.2.2)))⟩
    exact L3 0 (Nat.zero_le _) I3 ⟨fun _ _ => rfl, fun r hr => absurd hr (Nat.not_lt_zero r)⟩
  have L1 : ∀ k, k ≤ (wS w) → ∀ I2 : IM, ((∀ x, x ≠ 128 → I2 x = IA x) ∧ ∀ i, i < k → I2 128 i = nI (1048576 * (wC w i).1 + (wC w i).2)) → E g mX12_law d 0 0 95 [.ref 114, .int (nI L), .int (nI 1), .int (nI k)] [] n I2 J R Q := by
    refine loopU (wS w) (fun I2 hv => ?_) (fun k hk ih I2 hv => ?_)
    · refine E_iload_n dX12_law_95 rfl ?_
      refine E_aload_n dX12_law_96 rfl ?_
      refine E_getI dX12_law_97 f_X12_160 rfl (Nat.lt_of_lt_of_le (by decide) hN) rfl ?_
      refine E.top ((congrFun (hv.1 114 (by decide)) 13).trans hA13) ?_
      refine E_cN_ge (a := wS w) (b := wS w) (tgt := 121) dX12_law_100 (by omega) (by omega) (by decide) (fun cw100 => ?_) (fun cw100 => absurd cw100 (by omega))
      refine E_ic (nI 0) dX12_law_121 (by decide) ?_
      refine E_istore_n dX12_law_122 (Nat.le_of_ble_eq_true rfl) ?_
      exact L2 I2 hv.1 hv.2
    · refine E_iload_n dX12_law_95 rfl ?_
      refine E_aload_n dX12_law_96 rfl ?_
      refine E_getI dX12_law_97 f_X12_160 rfl (Nat.lt_of_lt_of_le (by decide) hN) rfl ?_
      refine E.top ((congrFun (hv.1 114 (by decide)) 13).trans hA13) ?_
      refine E_cN_ge (a := k) (b := wS w) (tgt := 121) dX12_law_100 (by omega) (by omega) (by decide) (fun cw100 => absurd cw100 (by omega)) (fun cw100 => ?_)
      refine E_aload_n dX12_law_103 rfl ?_
      refine E_getR dX12_law_104 f_X12_50 rfl (Nat.lt_of_lt_of_le (by decide) hN) rfl (hR _ _ _ rfl) ?_
      refine E_iload_n dX12_law_107 rfl ?_
      refine E_aload_n dX12_law_108 rfl ?_
      refine E_getR dX12_law_109 f_X12_32 rfl (Nat.lt_of_lt_of_le (by decide) hN) rfl (hR _ _ _ rfl) ?_
      refine E_iload_n dX12_law_112 rfl ?_
      refine E_ialdN dX12_law_113 rfl (Nat.lt_of_lt_of_le (by decide) hN) (by omega) ?_
      refine E.top ((congrFun (hv.1 122 (by decide)) k).trans (hA22 k (by omega))) ?_
      refine E_iastN dX12_law_114 rfl (Nat.lt_of_lt_of_le (by decide) hN) (by omega) ?_
      refine E_incN dX12_law_115 rfl ?_
      refine E_goto (tgt := 95) dX12_law_118 (by decide) ?_
      refine ih _ ⟨fun x hx => (up2_o _ 128 _ _ x hx).trans (hv.1 x hx), fun i hi => ?_⟩
      by_cases e : i = k
      · rw [e, up2_s]
      · rw [up2_k _ _ e]
        exact hv.2 i (by omega)
  exact L1 0 (Nat.zero_le _) IA ⟨fun _ _ => rfl, fun i hi => absurd hi (Nat.not_lt_zero i)⟩
def LTm (I : IM) (J : JM) (R : RM) (n : Nat) (Q : PQ) : Int32 ⊕ LWD → Prop
  | .inl x => ∀ I' : IM, (∀ y, y ≠ 114 → (y < 122 ∨ 132 < y) → I' y = I y) → (∀ y, 128 ≤ y → y ≤ 132 → I' y = I y) → (∀ j, (j < 7 ∨ j = 9 ∨ 15 < j) → I' 114 j = I 114 j) → I' 114 7 = nI 0 → Q (some (.int x)) n I' J R
  | .inr w => ∀ I' : IM, (∀ y, y ≠ 114 → (y < 122 ∨ 132 < y) → I' y = I y) → (∀ j, (j < 7 ∨ j = 9 ∨ 16 < j) → I' 114 j = I 114 j) → I' 114 7 = nI 0 → LMq w I' → Q (some (.int (nI w.1))) n I' J R
def lwT (c : Nat → Nat) (e p : Nat) (w : LWD) : Int32 ⊕ LWD := if 256 ≤ c p then .inr w else if c p = 59 then lwL c e (p + 1) w else .inl (flt 1 p)
theorem lw_t {c : Nat → Nat} {e p : Nat} {w : LWD} {r : Nat × LWD} (h : ruL c p w = .inr r) : lwL c (e + 1) p w = lwT c e r.1 r.2 := lw_r h
theorem LTm.rw {I : IM} {J : JM} {R : RM} {n : Nat} {Q : PQ} {y z : Int32 ⊕ LWD} (h : LTm I J R n Q y) (e : y = z) : LTm I J R n Q z := e ▸ h
set_option maxRecDepth 100000 in
set_option maxHeartbeats 2000000 in
theorem m_lawL (hd : 8 ≤ d) (hN : 152 ≤ n) (hR : RS R) (hc : okc t L c) (hL : L ≤ 240) (hC : CLm t L I) : (∀ (x : Int32) (I4 : IM), FQm I I4 → I4 114 10 = x → LTm I J R n Q (.inl x) → E g mX12_law d 0 0 31 [.ref 114, .int (nI L), .int (nI 0), jk] [] n I4 J R Q) ∧ ∀ (e p : Nat) (w : LWD) (I2 : IM), w.1 + e = 17 → p ≤ L → LWG w p → FQm I I2 → PQm (p, wS w, wC w) I2 → LDm w I2 → LTm I J R n Q (lwT c e p w) → E g mX12_law d 0 0 31 [.ref 114, .int (nI L), .int (nI 1), jk] [] n I2 J R Q := by
  have flt_ : ∀ (x : Int32) (I4 : IM), FQm I I4 → I4 114 10 = x → LTm I J R n Q (.inl x) → E g mX12_law d 0 0 31 [.ref 114, .int (nI L), .int (nI 0), jk] [] n I4 J R Q := by
    intro x I4 f4 e4 hX
    refine E_iload_n dX12_law_31 rfl ?_
    refine E_zN_eq (a := 0) (tgt := 71) dX12_law_32 (by decide) (by decide) (fun cw32 => ?_) (fun cw32 => absurd cw32 (by omega))
    refine E_aload_n dX12_law_71 rfl ?_
    refine E_ic (nI 0) dX12_law_72 (by decide) ?_
    refine E_putI dX12_law_73 f_X12_128 rfl (Nat.lt_of_lt_of_le (by decide) hN) rfl ?_
    refine E_iload_n dX12_law_76 rfl ?_
    refine E_zN_ne (a := 0) (tgt := 85) dX12_law_77 (by decide) (by decide) (fun cw77 => absurd cw77 (by omega)) (fun cw77 => ?_)
    refine E_aload_n dX12_law_80 rfl ?_
    refine E_getI dX12_law_81 f_X12_146 rfl (Nat.lt_of_lt_of_le (by decide) hN) rfl ?_
    refine E.top ((up2_k _ _ (by decide)).trans e4) ?_
    exact E_iret dX12_law_84 rfl (hX _ (fun y h1 h2 => (up2_o _ 114 _ _ y h1).trans (f4.1 y h1 (by omega))) (fun y h1 h2 => (up2_o _ 114 _ _ y (by omega)).trans (f4.1 y (by omega) (by omega))) (fun j hj => (up2_k _ _ (by omega)).trans (f4.2 j (by unfold fkP; omega))) (up2_s _ _ _ _))
  refine ⟨flt_, ?_⟩
  intro e
  induction e with
  | zero =>
    intro p w I2 hwe hp hw f2 p2 d2 hT
    exact absurd hw.1 (by omega)
  | succ e ih =>
    intro p w I2 hwe hp hw f2 p2 d2 hT
    by_cases ce : 256 ≤ c p
    · have hpe : L ≤ p := by
        rcases hc.at p with z | z
        · omega
        · exact z.1
      refine E_iload_n dX12_law_31 rfl ?_
      refine E_zN_eq (a := 1) (tgt := 71) dX12_law_32 (by decide) (by decide) (fun cw32 => absurd cw32 (by omega)) (fun cw32 => ?_)
      refine E_aload_n dX12_law_35 rfl ?_
      refine E_getI dX12_law_36 f_X12_136 rfl (Nat.lt_of_lt_of_le (by decide) hN) rfl ?_
      refine E.top (p2.1) ?_
      refine E_aload_n dX12_law_39 rfl ?_
      refine E_getI dX12_law_40 f_X12_139 rfl (Nat.lt_of_lt_of_le (by decide) hN) rfl ?_
      refine E.top ((hC.keepQ f2).1) ?_
      refine E_cN_ge (a := p) (b := L) (tgt := 71) dX12_law_43 (by omega) (by omega) (by decide) (fun cw43 => ?_) (fun cw43 => absurd cw43 (by omega))
      refine E_aload_n dX12_law_71 rfl ?_
      refine E_ic (nI 0) dX12_law_72 (by decide) ?_
      refine E_putI dX12_law_73 f_X12_128 rfl (Nat.lt_of_lt_of_le (by decide) hN) rfl ?_
      refine E_iload_n dX12_law_76 rfl ?_
      refine E_zN_ne (a := 1) (tgt := 85) dX12_law_77 (by decide) (by decide) (fun cw77 => ?_) (fun cw77 => absurd cw77 (by omega))
      refine E_aload_n dX12_law_85 rfl ?_
      refine E_aload_n dX12_law_86 rfl ?_
      refine E_getI dX12_law_87 f_X12_216 rfl (Nat.lt_of_lt_of_le (by decide) hN) rfl ?_
      refine E.top ((up2_k _ _ (by decide)).trans d2.1) ?_
      refine E_putI dX12_law_90 f_X12_231 rfl (Nat.lt_of_lt_of_le (by decide) hN) rfl ?_
      refine E_ic (nI 0) dX12_law_93 (by decide) ?_
      refine E_istore_n dX12_law_94 (Nat.le_of_ble_eq_true rfl) ?_
      obtain ⟨l1, l2, l3, l4⟩ := LWG.f hw (by omega)
      refine m_lawC (w := w) (d := d) hN hR l1 l2 ((up2_k _ _ (by decide)).trans ((up2_k _ _ (by decide)).trans p2.2.1)) ((up2_k _ _ (by decide)).trans ((up2_k _ _ (by decide)).trans d2.1)) (up2_s _ _ _ _) (fun i hi => (congrFun ((up2_o _ 114 _ _ 122 (by decide)).trans (up2_o _ 114 _ _ 122 (by decide))) i).trans (p2.2.2 i hi)) ⟨(up2_k _ _ (by decide)).trans ((up2_k _ _ (by decide)).trans d2.1), fun r hr => by rw [up2_o _ 114 _ _ 124 (by decide), up2_o _ 114 _ _ 125 (by decide), up2_o _ 114 _ _ 126 (by decide), up2_o _ 114 _ _ 127 (by decide), up2_o _ 114 _ _ 124 (by decide), up2_o _ 114 _ _ 125 (by decide), up2_o _ 114 _ _ 126 (by decide), up2_o _ 114 _ _ 127 (by decide)]; exact d2.2 r hr⟩ (fun I5 g5 q5 => ?_)
      refine (show ∀ I' : IM, (∀ y, y ≠ 114 → (y < 122 ∨ 132 < y) → I' y = I y) → (∀ j, (j < 7 ∨ j = 9 ∨ 16 < j) → I' 114 j = I 114 j) → I' 114 7 = nI 0 → LMq w I' → Q (some (.int (nI w.1))) n I' J R from hT.rw (if_pos ce)) I5 (fun y h1 h2 => (g5 y (by omega) (by omega)).trans ((up2_o _ 114 _ _ y h1).trans ((up2_o _ 114 _ _ y h1).trans (f2.1 y h1 (by omega))))) (fun j hj => (congrFun (g5 114 (by decide) (by decide)) j).trans ((up2_k _ _ (by omega)).trans ((up2_k _ _ (by omega)).trans (f2.2 j (by unfold fkP; omega))))) ((congrFun (g5 114 (by decide) (by decide)) 7).trans ((up2_k _ _ (by decide)).trans (up2_s _ _ _ _))) q5
    · have hpl : p < L := hc.lt (p := p) (by omega)
      refine E_iload_n dX12_law_31 rfl ?_
      refine E_zN_eq (a := 1) (tgt := 71) dX12_law_32 (by decide) (by decide) (fun cw32 => absurd cw32 (by omega)) (fun cw32 => ?_)
      refine E_aload_n dX12_law_35 rfl ?_
      refine E_getI dX12_law_36 f_X12_136 rfl (Nat.lt_of_lt_of_le (by decide) hN) rfl ?_
      refine E.top (p2.1) ?_
      refine E_aload_n dX12_law_39 rfl ?_
      refine E_getI dX12_law_40 f_X12_139 rfl (Nat.lt_of_lt_of_le (by decide) hN) rfl ?_
      refine E.top ((hC.keepQ f2).1) ?_
      refine E_cN_ge (a := p) (b := L) (tgt := 71) dX12_law_43 (by omega) (by omega) (by decide) (fun cw43 => absurd cw43 (by omega)) (fun cw43 => ?_)
      refine E_aload_n dX12_law_46 rfl ?_
      refine E_bp (nI 59) dX12_law_47 (by decide) ?_
      refine E_callV (As := [_]) (ci := 11) (kc' := 0) (ks' := 0) (kc := 0) (ks := 0) dX12_law_49 ok_X12_takes w_X12_228 i_X12_takes s_X12_takes rfl (by decide) rfl (Nat.lt_of_lt_of_le (by decide) hN) rfl rfl rfl (Nat.le_of_ble_eq_true rfl) (Nat.le_of_ble_eq_true rfl) (by omega) (m_takes (d := 1) (z := 59) (p := p) (by decide) hN hR hc hL (hC.keepQ f2) (by decide) hp p2.1 (fun c59 => ?_) (fun c59 => ?_))
      · skip
        refine E_zN_eq (a := 1) (tgt := 66) dX12_law_52 (by decide) (by decide) (fun cw52 => absurd cw52 (by omega)) (fun cw52 => ?_)
        refine E_aload_n dX12_law_55 rfl ?_
        refine E_callV (As := []) (ci := 11) (kc' := 0) (ks' := 0) (kc := 0) (ks := 0) dX12_law_56 ok_X12_readsRule w_X12_225 i_X12_readsRule s_X12_readsRule rfl (by decide) rfl (Nat.lt_of_lt_of_le (by decide) hN) rfl rfl rfl (Nat.le_of_ble_eq_true rfl) (Nat.le_of_ble_eq_true rfl) (by omega) (m_readsRule (d := 7) (p := p + 1) (w := w) (by decide) hN hR hc hL (hC.keepQ (f2.trans (FQm.up I2 _ (by decide)))) hpl ⟨hw.1, Nat.le_succ_of_le hw.2.1, hw.2.2⟩ (PQm.at (q := (p, wS w, wC w)) p2 (p + 1)) ⟨(up2_k _ _ (by decide)).trans d2.1, fun r hr => by rw [up2_o _ 114 _ _ 124 (by decide), up2_o _ 114 _ _ 125 (by decide), up2_o _ 114 _ _ 126 (by decide), up2_o _ 114 _ _ 127 (by decide)]; exact d2.2 r hr⟩ (fun x hx I4 f4 e4 => ?_) (fun r hr I4 f4 p4 d4 => ?_))
        · skip
          refine E_zN_eq (a := 0) (tgt := 66) dX12_law_59 (by decide) (by decide) (fun cw59 => ?_) (fun cw59 => absurd cw59 (by omega))
          refine E_ic (nI 0) dX12_law_66 (by decide) ?_
          refine E_istore_n dX12_law_67 (Nat.le_of_ble_eq_true rfl) ?_
          refine E_goto (tgt := 31) dX12_law_68 (by decide) ?_
          have hTx := hT.rw ((if_neg ce).trans ((if_pos c59).trans (lw_l hx)))
          exact flt_ x I4 ((f2.trans (FQm.up I2 _ (by decide))).trans f4) e4 hTx
        · skip
          refine E_zN_eq (a := 1) (tgt := 66) dX12_law_59 (by decide) (by decide) (fun cw59 => absurd cw59 (by omega)) (fun cw59 => ?_)
          refine E_ic (nI 1) dX12_law_62 (by decide) ?_
          refine E_goto (tgt := 67) dX12_law_63 (by decide) ?_
          refine E_istore_n dX12_law_67 (Nat.le_of_ble_eq_true rfl) ?_
          refine E_goto (tgt := 31) dX12_law_68 (by decide) ?_
          obtain ⟨g1, g2, g3, g4⟩ := ru_ok hc hL (w := w) (p := p + 1) ⟨hw.1, Nat.le_succ_of_le hw.2.1, hw.2.2⟩ hr
          have en := ru_n hr
          exact ih r.1 r.2 I4 (by omega) g2 g1 ((f2.trans (FQm.up I2 _ (by decide))).trans f4) p4 d4 (hT.rw ((if_neg ce).trans ((if_pos c59).trans (lw_t hr))))
      · skip
        refine E_zN_eq (a := 0) (tgt := 66) dX12_law_52 (by decide) (by decide) (fun cw52 => ?_) (fun cw52 => absurd cw52 (by omega))
        refine E_ic (nI 0) dX12_law_66 (by decide) ?_
        refine E_istore_n dX12_law_67 (Nat.le_of_ble_eq_true rfl) ?_
        refine E_goto (tgt := 31) dX12_law_68 (by decide) ?_
        have hTx := hT.rw ((if_neg ce).trans (if_neg c59))
        exact flt_ (flt 1 p) _ (f2.trans (FQm.up I2 _ (by decide))) (up2_s _ _ _ _) hTx
end PLawM8
