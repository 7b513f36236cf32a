theorem updL0 (k : Nat) : vp_updL (fun _ => 0) k 0 = (fun _ => 0) := by
  funext j
  unfold vp_updL
  split <;> rfl
theorem updB0 (k : Nat) : upd (fun _ => 0) k (vp_nar .boolean 0) = (fun _ => 0) := by
  funext j
  unfold upd
  split <;> rfl
theorem cpy0 (a b n : Nat) : va_cpy (fun _ => (0 : Int64)) (fun _ => (0 : Int64)) a b n = (fun _ => (0 : Int64)) := by
  funext j
  unfold va_cpy
  split <;> rfl
theorem st_in {j : Int32} (h1 : ¬ j < 0) (h2 : j ≤ 2) : 0 ≤ j.toInt ∧ j.toInt < (3 : Nat) := by
  have a := Int32.not_lt.mp h1
  rw [Int32.le_iff_toInt_le] at a h2
  have e0 : (0 : Int32).toInt = 0 := by decide
  have e2 : (2 : Int32).toInt = 2 := by decide
  omega
theorem no_in (v : Int32) : v < 0 ∨ (-1) < v := by
  rw [Int32.lt_iff_toInt_lt, Int32.lt_iff_toInt_lt]
  have e0 : (0 : Int32).toInt = 0 := by decide
  have e2 : (-1 : Int32).toInt = -1 := by decide
  omega
theorem nz_of {j : Int32} (h : j < 0 ∨ 1 < j) : ¬ j = 0 := by
  intro e
  subst e
  exact h.elim (by decide) (by decide)
theorem ne_sp {j : Int32} (h : ¬ j = 0) : j < 0 ∨ 0 < j := by
  rw [Int32.lt_iff_toInt_lt, Int32.lt_iff_toInt_lt]
  have e0 : (0 : Int32).toInt = 0 := by decide
  have : ¬ j.toInt = 0 := fun e => h (Int32.toInt_inj.mp (e.trans e0.symm))
  omega
theorem eqI {j k : Int32} {n : Int} (hk : k.toInt = n) (h : j.toInt = n) : j = k := Int32.toInt_inj.mp (h.trans hk.symm)
theorem in12 (j : Int32) : (j = 0 ∨ j = 1 ∨ j = 2 ∨ j = 3 ∨ j = 4 ∨ j = 5 ∨ j = 6 ∨ j = 7 ∨ j = 8 ∨ j = 9 ∨ j = 10 ∨ j = 11) ∨ (j < 0 ∨ 11 < j) := by
  have h : j.toInt = 0 ∨ j.toInt = 1 ∨ j.toInt = 2 ∨ j.toInt = 3 ∨ j.toInt = 4 ∨ j.toInt = 5 ∨ j.toInt = 6 ∨ j.toInt = 7 ∨ j.toInt = 8 ∨ j.toInt = 9 ∨ j.toInt = 10 ∨ j.toInt = 11 ∨ j.toInt < 0 ∨ 11 < j.toInt := by omega
  rcases h with h | h | h | h | h | h | h | h | h | h | h | h | h | h
  · exact Or.inl (by rw [eqI (k := 0) (by decide) h]; decide)
  · exact Or.inl (by rw [eqI (k := 1) (by decide) h]; decide)
  · exact Or.inl (by rw [eqI (k := 2) (by decide) h]; decide)
  · exact Or.inl (by rw [eqI (k := 3) (by decide) h]; decide)
  · exact Or.inl (by rw [eqI (k := 4) (by decide) h]; decide)
  · exact Or.inl (by rw [eqI (k := 5) (by decide) h]; decide)
  · exact Or.inl (by rw [eqI (k := 6) (by decide) h]; decide)
  · exact Or.inl (by rw [eqI (k := 7) (by decide) h]; decide)
  · exact Or.inl (by rw [eqI (k := 8) (by decide) h]; decide)
  · exact Or.inl (by rw [eqI (k := 9) (by decide) h]; decide)
  · exact Or.inl (by rw [eqI (k := 10) (by decide) h]; decide)
  · exact Or.inl (by rw [eqI (k := 11) (by decide) h]; decide)
  · exact Or.inr (Or.inl (Int32.lt_iff_toInt_lt.mpr h))
  · exact Or.inr (Or.inr (Int32.lt_iff_toInt_lt.mpr h))
theorem in2 (j : Int32) : j = 0 ∨ j = 1 ∨ (j < 0 ∨ 1 < j) := by
  have h : j.toInt = 0 ∨ j.toInt = 1 ∨ j.toInt < 0 ∨ 1 < j.toInt := by omega
  rcases h with h | h | h | h
  · exact Or.inl (eqI (k := 0) (by decide) h)
  · exact Or.inr (Or.inl (eqI (k := 1) (by decide) h))
  · exact Or.inr (Or.inr (Or.inl (Int32.lt_iff_toInt_lt.mpr h)))
  · exact Or.inr (Or.inr (Or.inr (Int32.lt_iff_toInt_lt.mpr h)))
theorem st3 (j : Int32) : (¬ j < 0 ∧ ¬ 2 < j) ∨ (j < 0 ∨ 2 < j) := by
  by_cases h1 : j < 0
  · exact Or.inr (Or.inl h1)
  · by_cases h2 : 2 < j
    · exact Or.inr (Or.inr h2)
    · exact Or.inl ⟨h1, h2⟩
theorem in32 {j : Nat} (h : j < 2 ^ 5) : j = 0 ∨ j = 1 ∨ j = 2 ∨ j = 3 ∨ j = 4 ∨ j = 5 ∨ j = 6 ∨ j = 7 ∨ j = 8 ∨ j = 9 ∨ j = 10 ∨ j = 11 ∨ j = 12 ∨ j = 13 ∨ j = 14 ∨ j = 15 ∨ j = 16 ∨ j = 17 ∨ j = 18 ∨ j = 19 ∨ j = 20 ∨ j = 21 ∨ j = 22 ∨ j = 23 ∨ j = 24 ∨ j = 25 ∨ j = 26 ∨ j = 27 ∨ j = 28 ∨ j = 29 ∨ j = 30 ∨ j = 31 := by omega
