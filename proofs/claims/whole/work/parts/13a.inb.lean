/-! ===== an int in a range of nats ===== -/
def inB (x : Int32) (n : Nat) : Bool := !decide (x < 0) && !decide (nI n ≤ x)
abbrev NN (x : Int32) : Nat := x.toNatClampNeg
theorem inB_f {x : Int32} {n : Nat} (h : x < 0 ∨ nI n ≤ x) : inB x n = false := by
  unfold inB
  rcases h with h | h <;> simp [h]
theorem inB_t {x : Int32} {n j : Nat} (hj : j < n) (h : x = nI j) (hn : n < 2 ^ 31) : inB x n = true := by
  subst h
  unfold inB
  simp [nI_pos (show j < 2 ^ 31 by omega), nI_ge hj hn]
theorem inB_of {x : Int32} {n : Nat} (h : inB x n = true) (hn : n < 2 ^ 31) : ∃ j : Nat, j < n ∧ x = nI j := by
  unfold inB at h
  simp only [Bool.and_eq_true, Bool.not_eq_true', decide_eq_false_iff_not] at h
  exact ((pk_ix x hn).resolve_left h.1).resolve_left h.2
theorem N_of {x : Int32} {j : Nat} (h : x = nI j) (hj : j < 2 ^ 31) : NN x = j := by rw [h]; exact nI_clamp hj
theorem isC_eq {σ : Sg} {R C : Nat} (hR : σ 21 0 = nI R) (hC : σ 21 1 = nI C) (x y : Int32) : isC σ x y = (inB x R && inB y C) := by
  unfold isC inB
  rw [hR, hC]
  simp only [Bool.and_assoc]
theorem inC_of {x y : Int32} {R C : Nat} (h : (inB x R && inB y C) = true) (hR : R ≤ 10) (hC : C ≤ 16) : ∃ r c : Nat, r < R ∧ c < C ∧ x = nI r ∧ y = nI c ∧ NN x = r ∧ NN y = c := by
  rw [Bool.and_eq_true] at h
  obtain ⟨r, h1, h2⟩ := inB_of h.1 (by omega)
  obtain ⟨c, h3, h4⟩ := inB_of h.2 (by omega)
  exact ⟨r, c, h1, h3, h2, h4, N_of h2 (by omega), N_of h4 (by omega)⟩
theorem isW_of {x : Int32} {a b : Nat} (h : isW x (nI a) (nI b) = true) (ha : a < 2 ^ 31) (hb : b < 2 ^ 31) : ∃ j : Nat, a ≤ j ∧ j ≤ b ∧ x = nI j ∧ NN x = j := by
  unfold isW at h
  simp only [Bool.and_eq_true, Bool.not_eq_true', decide_eq_false_iff_not] at h
  have h0 : ¬ x < 0 := fun q => h.1 (by have := nI_pos' ha; grind)
  obtain ⟨j, hj, rfl⟩ := nI_of h0
  refine ⟨j, ?_, ?_, rfl, nI_clamp hj⟩
  · exact Nat.le_of_not_lt (fun q => h.1 (nI_lt q ha))
  · exact Nat.le_of_not_lt (fun q => h.2 (nI_lt q hj))
