/-! ===== plan: the reference, the deeds of one state ===== -/
def FM (I I' : IM) : Prop := (∀ x, x ≠ 114 → x ≠ 115 → x ≠ 133 → x ≠ 134 → x ≠ 139 → x ≠ 140 → x ≠ 141 → I' x = I x) ∧ ∀ j, j ≠ 40 → j ≠ 41 → j ≠ 46 → j ≠ 47 → I' 114 j = I 114 j
theorem FM.refl (I : IM) : FM I I := ⟨fun _ _ _ _ _ _ _ _ => rfl, fun _ _ _ _ _ => rfl⟩
theorem FM.trans {I I' I2 : IM} (h : FM I I') (h2 : FM I' I2) : FM I I2 := ⟨fun x a b c d e f g => (h2.1 x a b c d e f g).trans (h.1 x a b c d e f g), fun j a b c d => (h2.2 j a b c d).trans (h.2 j a b c d)⟩
theorem FM.ofM {k wr : Nat} {I I' : IM} (h : MFr k wr I I') : FM I I' := ⟨fun x a b c d _ _ _ => h.1 x a b c d, fun j a b _ _ => h.2.1 j a b⟩
theorem FM.row {I I' : IM} {a : Nat} (h : ∀ x, x ≠ a → I' x = I x) (ha : a = 115 ∨ a = 134 ∨ a = 139 ∨ a = 140 ∨ a = 141) : FM I I' := ⟨fun x h1 h2 h3 h4 h5 h6 h7 => h x (by omega), fun j _ _ _ _ => congrFun (h 114 (by omega)) j⟩
theorem FM.up (I : IM) {j : Nat} (v : Int32) (hj : j = 46 ∨ j = 47) : FM I (up2 I 114 j v) := ⟨fun x h1 _ _ _ _ _ _ => up2_o I 114 j v x h1, fun i h1 h2 h3 h4 => up2_k I v (by omega)⟩
theorem MCr.keepM {k LN : Nat} {Y S : FN} {q : LWD} {I I' : IM} (h : MCr k LN Y S q I) (f : FM I I') : MCr k LN Y S q I' := ⟨(congrFun (f.1 118 (by decide) (by decide) (by decide) (by decide) (by decide) (by decide) (by decide)) k).trans h.1, fun i hi => by rw [f.1 119 (by decide) (by decide) (by decide) (by decide) (by decide) (by decide) (by decide), f.1 120 (by decide) (by decide) (by decide) (by decide) (by decide) (by decide) (by decide)]; exact h.2.1 i hi, h.2.2.keep (f.2 16 (by decide) (by decide) (by decide) (by decide)) (fun a a1 a2 => f.1 a (by omega) (by omega) (by omega) (by omega) (by omega) (by omega) (by omega))⟩
theorem XM.keep {LN : Nat} {b : BS} {I I' : IM} (h : XM LN b I) (h1 : I' 139 = I 139) (h2 : I' 140 = I 140) (h3 : I' 141 = I 141) : XM LN b I' := by
  unfold XM
  rw [h1, h2, h3]
  exact h
theorem by_n {v : Nat} (h : v < 128) : (nI v).toInt8.toInt32 = nI v := by
  have key : ∀ v, v < 128 → (nI v).toInt8.toInt32 = nI v := by decide +kernel
  exact key v h
