/-! ===== a State's six cells: fizz, cork, turns, out, stands unstopped, broken ===== -/
theorem E_inc {g : GL} {M : MD} {d kc ks pc n : Nat} {ls st : List Value} {I : IM} {J : JM} {R : RM} {Q : PQ} {i : Nat} {z : Int} {x : Int32} (v : Int32) (hd : decode M.2.1 pc = .ok (.iinc i z, 3)) (hv : lgt ls i = .int x) (hz : Int32.ofInt z = v) (k : E g M d kc ks (pc + 3) (lst ls i (.int (x + v))) st n I J R Q) : E g M d kc ks pc ls st n I J R Q := E_iinc hd hv (by rw [hz]; exact k)
/-- the first N places of the cell a become those of b -/
def blk (I : IM) (a b N : Nat) : IM := fun x y => if x = a ∧ y < N then I b y else I x y
/-- the six places of the cell a become these -/
def st6 (I : IM) (a : Nat) (v0 v1 v2 v3 v4 v5 : Int32) : IM := fun x y => if x = a then (match y with | 0 => v0 | 1 => v1 | 2 => v2 | 3 => v3 | 4 => v4 | 5 => v5 | _ => I x y) else I x y
section PState
variable {g : GL} {d n a b : Nat} {I : IM} {J : JM} {R : RM} {Q : PQ}
set_option maxRecDepth 100000 in
set_option maxHeartbeats 4000000 in
theorem c_State_take (hsa : (LY a).1 = 7) (hsb : (LY b).1 = 7) (ha : a < n) (hb : b < n) (h4 : I b 4 = 0 ∨ I b 4 = 1) (h5 : I b 5 = 0 ∨ I b 5 = 1) (hQ : Q none n (blk I a b 6) J R) : E g mX8_take d 0 0 0 (ent 2 [.ref a, .ref b]) [] n I J R Q := by
  have e : ∀ I0, I0 = blk I a b 6 → Q none n I0 J R := fun _ h => h ▸ hQ
  refine E_aload_n dX8_take_0 rfl ?_
  refine E_aload_n dX8_take_1 rfl ?_
  refine E_getI dX8_take_2 f_X8_9 (by first | assumption | rfl) (by first | assumption | omega) rfl ?_
  refine E_putI dX8_take_5 f_X8_9 (by first | assumption | rfl) (by first | assumption | omega) rfl ?_
  refine E_aload_n dX8_take_8 rfl ?_
  refine E_aload_n dX8_take_9 rfl ?_
  refine E_getI dX8_take_10 f_X8_15 (by first | assumption | rfl) (by first | assumption | omega) rfl ?_
  refine E_putI dX8_take_13 f_X8_15 (by first | assumption | rfl) (by first | assumption | omega) rfl ?_
  refine E_aload_n dX8_take_16 rfl ?_
  refine E_aload_n dX8_take_17 rfl ?_
  refine E_getI dX8_take_18 f_X8_18 (by first | assumption | rfl) (by first | assumption | omega) rfl ?_
  refine E_putI dX8_take_21 f_X8_18 (by first | assumption | rfl) (by first | assumption | omega) rfl ?_
  refine E_aload_n dX8_take_24 rfl ?_
  refine E_aload_n dX8_take_25 rfl ?_
  refine E_getI dX8_take_26 f_X8_21 (by first | assumption | rfl) (by first | assumption | omega) rfl ?_
  refine E_putI dX8_take_29 f_X8_21 (by first | assumption | rfl) (by first | assumption | omega) rfl ?_
  refine E_aload_n dX8_take_32 rfl ?_
  refine E_aload_n dX8_take_33 rfl ?_
  refine E_getI dX8_take_34 f_X8_24 (by first | assumption | rfl) (by first | assumption | omega) rfl ?_
  refine E_putZ dX8_take_37 f_X8_24 (by first | assumption | rfl) (by first | assumption | omega) rfl (by simpa [up2] using h4) ?_
  refine E_aload_n dX8_take_40 rfl ?_
  refine E_aload_n dX8_take_41 rfl ?_
  refine E_getI dX8_take_42 f_X8_28 (by first | assumption | rfl) (by first | assumption | omega) rfl ?_
  refine E_putZ dX8_take_45 f_X8_28 (by first | assumption | rfl) (by first | assumption | omega) rfl (by simpa [up2] using h5) ?_
  exact E_ret dX8_take_48 rfl (e _ (by
    funext x y
    by_cases h : x = a
    · subst h
      rcases y with _ | _ | _ | _ | _ | _ | y <;> first | (simp [up2, blk]; done) | (simp [up2, blk]; intro h; omega)
    · simp [up2, blk, h]))
set_option maxRecDepth 100000 in
set_option maxHeartbeats 4000000 in
theorem c_State_renew (hsa : (LY a).1 = 7) (ha : a < n) (hQ : Q none n (st6 I a 0 9 0 0 0 0) J R) : E g mX8_renew d 0 0 0 (ent 1 [.ref a]) [] n I J R Q := by
  have e : ∀ I0, I0 = st6 I a 0 9 0 0 0 0 → Q none n I0 J R := fun _ h => h ▸ hQ
  refine E_aload_n dX8_renew_0 rfl ?_
  refine E_ic (0) dX8_renew_1 (by decide) ?_
  refine E_putI dX8_renew_2 f_X8_9 (by first | assumption | rfl) (by first | assumption | omega) rfl ?_
  refine E_aload_n dX8_renew_5 rfl ?_
  refine E_bp (9) dX8_renew_6 (by decide) ?_
  refine E_putI dX8_renew_8 f_X8_15 (by first | assumption | rfl) (by first | assumption | omega) rfl ?_
  refine E_aload_n dX8_renew_11 rfl ?_
  refine E_ic (0) dX8_renew_12 (by decide) ?_
  refine E_putI dX8_renew_13 f_X8_18 (by first | assumption | rfl) (by first | assumption | omega) rfl ?_
  refine E_aload_n dX8_renew_16 rfl ?_
  refine E_ic (0) dX8_renew_17 (by decide) ?_
  refine E_putI dX8_renew_18 f_X8_21 (by first | assumption | rfl) (by first | assumption | omega) rfl ?_
  refine E_aload_n dX8_renew_21 rfl ?_
  refine E_ic (0) dX8_renew_22 (by decide) ?_
  refine E_putZ dX8_renew_23 f_X8_24 (by first | assumption | rfl) (by first | assumption | omega) rfl (by decide) ?_
  refine E_aload_n dX8_renew_26 rfl ?_
  refine E_ic (0) dX8_renew_27 (by decide) ?_
  refine E_putZ dX8_renew_28 f_X8_28 (by first | assumption | rfl) (by first | assumption | omega) rfl (by decide) ?_
  exact E_ret dX8_renew_31 rfl (e _ (by
    funext x y
    by_cases h : x = a
    · subst h
      rcases y with _ | _ | _ | _ | _ | _ | y <;> first | (simp [up2, st6]; done) | (simp [up2, st6]; intro h; omega)
    · simp [up2, st6, h]))
set_option maxRecDepth 100000 in
set_option maxHeartbeats 4000000 in
theorem c_State_opens (hsa : (LY a).1 = 7) (ha : a < n) (hQ : Q none n (up2 (up2 I a 4 1) a 2 0) J R) : E g mX8_opens d 0 0 0 (ent 1 [.ref a]) [] n I J R Q := by
  refine E_aload_n dX8_opens_0 rfl ?_
  refine E_ic (1) dX8_opens_1 (by decide) ?_
  refine E_putZ dX8_opens_2 f_X8_24 (by first | assumption | rfl) (by first | assumption | omega) rfl (by decide) ?_
  refine E_aload_n dX8_opens_5 rfl ?_
  refine E_ic (0) dX8_opens_6 (by decide) ?_
  refine E_putI dX8_opens_7 f_X8_18 (by first | assumption | rfl) (by first | assumption | omega) rfl ?_
  exact E_ret dX8_opens_10 rfl (hQ)
set_option maxRecDepth 100000 in
set_option maxHeartbeats 4000000 in
theorem c_State_corks (hsa : (LY a).1 = 7) (ha : a < n) (hQ : Q none n (up2 (up2 (up2 I a 4 0) a 1 9) a 2 0) J R) : E g mX8_corks d 0 0 0 (ent 1 [.ref a]) [] n I J R Q := by
  refine E_aload_n dX8_corks_0 rfl ?_
  refine E_ic (0) dX8_corks_1 (by decide) ?_
  refine E_putZ dX8_corks_2 f_X8_24 (by first | assumption | rfl) (by first | assumption | omega) rfl (by decide) ?_
  refine E_aload_n dX8_corks_5 rfl ?_
  refine E_bp (9) dX8_corks_6 (by decide) ?_
  refine E_putI dX8_corks_8 f_X8_15 (by first | assumption | rfl) (by first | assumption | omega) rfl ?_
  refine E_aload_n dX8_corks_11 rfl ?_
  refine E_ic (0) dX8_corks_12 (by decide) ?_
  refine E_putI dX8_corks_13 f_X8_18 (by first | assumption | rfl) (by first | assumption | omega) rfl ?_
  exact E_ret dX8_corks_16 rfl (hQ)
def loo (I : IM) (a : Nat) (v : Int32) : IM := if 0 < I a 1 - v then up2 I a 1 (I a 1 - v) else up2 (up2 I a 1 0) a 5 1
set_option maxRecDepth 100000 in
set_option maxHeartbeats 4000000 in
theorem c_State_loosen {v : Int32} (hsa : (LY a).1 = 7) (ha : a < n) (hQ : Q none n (loo I a v) J R) : E g mX8_loosen d 0 0 0 (ent 2 [.ref a, .int v]) [] n I J R Q := by
  have e : ∀ I0, I0 = loo I a v → Q none n I0 J R := fun _ h => h ▸ hQ
  refine E_aload_n dX8_loosen_0 rfl ?_
  refine E_dup dX8_loosen_1 rfl ?_
  refine E_getI dX8_loosen_2 f_X8_15 (by first | assumption | rfl) (by first | assumption | omega) rfl ?_
  refine E_iload_n dX8_loosen_5 rfl ?_
  refine E_isub dX8_loosen_6 ?_
  refine E_putI dX8_loosen_7 f_X8_15 (by first | assumption | rfl) (by first | assumption | omega) rfl ?_
  refine E_aload_n dX8_loosen_10 rfl ?_
  refine E_getI dX8_loosen_11 f_X8_15 (by first | assumption | rfl) (by first | assumption | omega) rfl ?_
  refine E_if_gt (tgt := 27) dX8_loosen_14 (by decide) (fun c14 => ?_) (fun c14 => ?_)
  · exact E_ret dX8_loosen_27 rfl (e _ (by
      rw [up2_s] at c14
      first
      | (unfold loo; rw [if_pos c14]; done)
      | (unfold loo; rw [if_neg c14]; funext x y; simp only [up2]; split <;> first | rfl | (split <;> first | rfl | (split <;> first | rfl | omega)))))
  · refine E_aload_n dX8_loosen_17 rfl ?_
    refine E_ic (0) dX8_loosen_18 (by decide) ?_
    refine E_putI dX8_loosen_19 f_X8_15 (by first | assumption | rfl) (by first | assumption | omega) rfl ?_
    refine E_aload_n dX8_loosen_22 rfl ?_
    refine E_ic (1) dX8_loosen_23 (by decide) ?_
    refine E_putZ dX8_loosen_24 f_X8_28 (by first | assumption | rfl) (by first | assumption | omega) rfl (by decide) ?_
    exact E_ret dX8_loosen_27 rfl (e _ (by
      rw [up2_s] at c14
      first
      | (unfold loo; rw [if_pos c14]; done)
      | (unfold loo; rw [if_neg c14]; funext x y; simp only [up2]; split <;> first | rfl | (split <;> first | rfl | (split <;> first | rfl | omega)))))
end PState
