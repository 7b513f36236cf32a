theorem updL0 (k : Nat) : vp_updL (fun _ => 0) k 0 = (fun _ => 0) := by
  funext j
  unfold vp_updL
  split <;> rfl
theorem updB0 (k : Nat) : upd (fun _ => 0) k (vp_nar .boolean 0) = (fun _ => 0) := by
  funext j
  unfold upd
  split <;> rfl
theorem cpy0 (a b n : Nat) : va_cpy (fun _ => (0 : Int64)) (fun _ => (0 : Int64)) a b n = (fun _ => (0 : Int64)) := by
  funext j
  unfold va_cpy
  split <;> rfl
theorem st_in {j : Int32} (h1 : ¬ j < 0) (h2 : j ≤ 2) : 0 ≤ j.toInt ∧ j.toInt < (3 : Nat) := by
  have a := Int32.not_lt.mp h1
  rw [Int32.le_iff_toInt_le] at a h2
  have e0 : (0 : Int32).toInt = 0 := by decide
  have e2 : (2 : Int32).toInt = 2 := by decide
  omega
theorem no_in (v : Int32) : v < 0 ∨ (-1) < v := by
  rw [Int32.lt_iff_toInt_lt, Int32.lt_iff_toInt_lt]
  have e0 : (0 : Int32).toInt = 0 := by decide
  have e2 : (-1 : Int32).toInt = -1 := by decide
  omega
theorem nz_of {j : Int32} (h : j < 0 ∨ 1 < j) : ¬ j = 0 := by
  intro e
  subst e
  exact h.elim (by decide) (by decide)
theorem ne_sp {j : Int32} (h : ¬ j = 0) : j < 0 ∨ 0 < j := by
  rw [Int32.lt_iff_toInt_lt, Int32.lt_iff_toInt_lt]
  have e0 : (0 : Int32).toInt = 0 := by decide
  have : ¬ j.toInt = 0 := fun e => h (Int32.toInt_inj.mp (e.trans e0.symm))
  omega
