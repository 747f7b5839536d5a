/-! ===== routes: legs (2 * strip, plus 1 westbound), sets of strips as numbers, the least time left ===== -/
def ftF (sp q : S4) (e : Bool) : Nat := (q.2.2.1 - q.2.1) * 1000 / (if e then sp.2.2.1 else sp.2.2.2)
def enF (q : S4) (e : Bool) : Nat := if e then q.2.1 else q.2.2.1
def exF (q : S4) (e : Bool) : Nat := if e then q.2.2.1 else q.2.1
def trF (sp : S4) (r c : Nat) (q : S4) (e : Bool) : Nat := (ad1 q.1 r + ad1 (enF q e) c) * 1000 / sp.1 + sp.2.1
def stF (sp : S4) (r c : Nat) (q : S4) (e : Bool) : Nat := trF sp r c q e + ftF sp q e
def okP (sp : S4) : Prop := 50 ≤ sp.1 ∧ sp.1 ≤ 300 ∧ sp.2.1 ≤ 500 ∧ 10 ≤ sp.2.2.1 ∧ sp.2.2.1 ≤ 340 ∧ 10 ≤ sp.2.2.2 ∧ sp.2.2.2 ≤ 340
theorem enF_lt {q : S4} (h : okS q) (e : Bool) : enF q e < 16 := by
  obtain ⟨h1, h2, h3, h4, h5⟩ := h
  unfold enF; split <;> omega
theorem exF_lt {q : S4} (h : okS q) (e : Bool) : exF q e < 16 := by
  obtain ⟨h1, h2, h3, h4, h5⟩ := h
  unfold exF; split <;> omega
theorem div_le {a d b : Nat} (hd : 0 < d) (h : a ≤ b * d) : a / d ≤ b := Nat.div_le_of_le_mul (by rw [Nat.mul_comm]; exact h)
theorem stF_le {sp : S4} {r c : Nat} {q : S4} (e : Bool) (hp : okP sp) (hq : okS q) (hr : r < 10) (hc : c < 16) : stF sp r c q e ≤ 3000 := by
  obtain ⟨p1, p2, p3, p4, p5, p6, p7⟩ := hp
  have he := enF_lt hq e
  obtain ⟨q1, q2, q3, q4, q5⟩ := hq
  have h1 : trF sp r c q e ≤ 980 := by
    unfold trF
    have hd : ad1 q.1 r + ad1 (enF q e) c ≤ 24 := by unfold ad1; omega
    have : (ad1 q.1 r + ad1 (enF q e) c) * 1000 / sp.1 ≤ 480 := div_le (by omega) (by omega)
    omega
  have h2 : ftF sp q e ≤ 1500 := by
    unfold ftF
    apply div_le
    · split <;> omega
    · split <;> omega
  unfold stF; omega
def ea (l : Nat) : Bool := decide (l % 2 = 0)
def has (m i : Nat) : Bool := decide (m / 2 ^ i % 2 = 1)
def rmv (m i : Nat) : Nat := if has m i then m - 2 ^ i else m
theorem has_nI8 : ∀ m, m < 256 → ∀ i, i < 8 → ((nI m >>> (nI i &&& 31)) &&& 1) = nI (m / 2 ^ i % 2) := by decide +kernel
theorem rmv_nI8 : ∀ m, m < 256 → ∀ i, i < 8 → (nI m &&& (((1 : Int32) <<< (nI i &&& 31)) ^^^ (-1))) = nI (rmv m i) := by decide +kernel
theorem pow_nI8 : ∀ n, n ≤ 8 → ((1 : Int32) <<< (nI n &&& 31)) = nI (2 ^ n) := by decide +kernel
theorem rmv_facts : ∀ m, m < 256 → ∀ i, i < 8 → has m i = true → rmv m i < m ∧ has (rmv m i) i = false ∧ cnt (has (rmv m i)) 8 + 1 = cnt (has m) 8 := by decide +kernel
theorem has_lt : ∀ n, n ≤ 8 → ∀ m, m < 2 ^ n → ∀ i, i < 8 → has m i = true → i < n := by decide +kernel
theorem full_cnt : ∀ n, n ≤ 8 → cnt (has (2 ^ n - 1)) 8 = n := by decide +kernel
theorem pow_le8 {n : Nat} (h : n ≤ 8) : 2 ^ n ≤ 256 := Nat.pow_le_pow_right (by omega) h (n := 2)
theorem rmv_le (m i : Nat) : rmv m i ≤ m := by
  unfold rmv
  split
  · exact Nat.sub_le _ _
  · exact Nat.le_refl _
/-- the first best leg below k, with its time -/
def lsF (f : Nat → Nat) (m : Nat) : Nat → Option (Nat × Nat)
  | 0 => none
  | k + 1 => if has m (k / 2) then (match lsF f m k with
      | none => some (k, f k)
      | some a => if f k < a.2 then some (k, f k) else some a) else lsF f m k
theorem lsF_congr {f g : Nat → Nat} {m k : Nat} (h : ∀ l, l < k → has m (l / 2) = true → f l = g l) : lsF f m k = lsF g m k := by
  induction k with
  | zero => rfl
  | succ k ih =>
    have h1 := ih (fun l hl hm => h l (by omega) hm)
    simp only [lsF]
    by_cases hm : has m (k / 2) = true
    · rw [if_pos hm, if_pos hm, h1, h k (by omega) hm]
    · rw [if_neg hm, if_neg hm, h1]
theorem lsF_some {f : Nat → Nat} {m k : Nat} {a : Nat × Nat} (h : lsF f m k = some a) : a.1 < k ∧ has m (a.1 / 2) = true ∧ a.2 = f a.1 ∧ (∀ l, l < k → has m (l / 2) = true → a.2 ≤ f l) ∧ (∀ l, l < a.1 → has m (l / 2) = true → a.2 < f l) := by
  induction k generalizing a with
  | zero => cases h
  | succ k ih =>
    simp only [lsF] at h
    by_cases hm : has m (k / 2) = true
    · rw [if_pos hm] at h
      cases ho : lsF f m k with
      | none =>
        rw [ho] at h
        have no : ∀ l, l < k → ¬ has m (l / 2) = true := by
          intro l hl hq
          have : ∀ j, l < j → lsF f m j ≠ none := by
            intro j
            induction j with
            | zero => intro hh; omega
            | succ j ihj =>
              intro hh hn
              simp only [lsF] at hn
              by_cases hmj : has m (j / 2) = true
              · rw [if_pos hmj] at hn
                revert hn
                cases lsF f m j with
                | none => intro hn; cases hn
                | some b => intro hn; dsimp only at hn; split at hn <;> cases hn
              · rw [if_neg hmj] at hn
                by_cases hlj : l = j
                · rw [hlj] at hq; exact hmj hq
                · exact ihj (by omega) hn
          exact this k hl ho
        cases h
        refine ⟨Nat.lt_succ_self k, hm, rfl, fun l hl hq => ?_, fun l hl hq => absurd hq (no l hl)⟩
        by_cases hlk : l = k
        · rw [hlk]; exact Nat.le_refl _
        · exact absurd hq (no l (by omega))
      | some b =>
        rw [ho] at h
        obtain ⟨b1, b2, b3, b4, b5⟩ := ih ho
        dsimp only at h
        by_cases hlt : f k < b.2
        · rw [if_pos hlt] at h
          cases h
          refine ⟨Nat.lt_succ_self k, hm, rfl, fun l hl hq => ?_, fun l hl hq => Nat.lt_of_lt_of_le hlt (b4 l hl hq)⟩
          by_cases hlk : l = k
          · rw [hlk]; exact Nat.le_refl _
          · exact Nat.le_trans (Nat.le_of_lt hlt) (b4 l (by omega) hq)
        · rw [if_neg hlt] at h
          cases h
          refine ⟨by omega, b2, b3, fun l hl hq => ?_, b5⟩
          by_cases hlk : l = k
          · rw [hlk]; omega
          · exact b4 l (by omega) hq
    · rw [if_neg hm] at h
      obtain ⟨b1, b2, b3, b4, b5⟩ := ih h
      refine ⟨by omega, b2, b3, fun l hl hq => ?_, b5⟩
      by_cases hlk : l = k
      · rw [hlk] at hq; exact absurd hq hm
      · exact b4 l (by omega) hq
theorem lsF_none {f : Nat → Nat} {m k : Nat} (h : lsF f m k = none) {l : Nat} (hl : l < k) : has m (l / 2) = false := by
  induction k with
  | zero => omega
  | succ k ih =>
    simp only [lsF] at h
    by_cases hm : has m (k / 2) = true
    · rw [if_pos hm] at h
      revert h
      cases lsF f m k with
      | none => intro h; cases h
      | some b => intro h; dsimp only at h; split at h <;> cases h
    · rw [if_neg hm] at h
      by_cases hlk : l = k
      · rw [hlk]; simpa using hm
      · exact ih h (by omega)
def tmO (o : Option (Nat × Nat)) : Nat := match o with
  | none => 0
  | some a => a.2
def rsF (sp : S4) (sq : Nat → S4) (n m l : Nat) : Nat :=
  tmO (lsF (fun k => stF sp (sq (l / 2)).1 (exF (sq (l / 2)) (ea l)) (sq (k / 2)) (ea k) + (if h : rmv m (k / 2) < m then rsF sp sq n (rmv m (k / 2)) k else 0)) m (2 * n))
termination_by m
decreasing_by exact h
/-- all the time by a leg, from a place -/
def toF (sp : S4) (sq : Nat → S4) (n m r c l : Nat) : Nat := stF sp r c (sq (l / 2)) (ea l) + rsF sp sq n (rmv m (l / 2)) l
theorem rsF_eq (sp : S4) (sq : Nat → S4) {n m : Nat} (l : Nat) (hn : n ≤ 8) (hm : m < 2 ^ n) : rsF sp sq n m l = tmO (lsF (toF sp sq n m (sq (l / 2)).1 (exF (sq (l / 2)) (ea l))) m (2 * n)) := by
  rw [rsF]
  congr 1
  apply lsF_congr
  intro k hk hh
  have h8 := pow_le8 hn
  unfold toF
  rw [dif_pos (rmv_facts m (by omega) (k / 2) (by omega) hh).1]
theorem toF_le {sp : S4} {sq : Nat → S4} {n : Nat} (hp : okP sp) (hs : ∀ i, i < n → okS (sq i)) (hn : n ≤ 8) : ∀ m, m < 2 ^ n → ∀ r c l, r < 10 → c < 16 → l < 2 * n → has m (l / 2) = true → toF sp sq n m r c l ≤ 3000 * m := by
  intro m
  induction m using Nat.strongRecOn with
  | ind m ih =>
    intro hm r c l hr hc hl hh
    have h8 := pow_le8 hn
    obtain ⟨r1, r2, r3⟩ := rmv_facts m (by omega) (l / 2) (by omega) hh
    have hst := stF_le (ea l) hp (hs (l / 2) (by omega)) hr hc
    have hrs : rsF sp sq n (rmv m (l / 2)) l ≤ 3000 * (rmv m (l / 2)) := by
      rw [rsF_eq sp sq l hn (by omega)]
      cases ho : lsF (toF sp sq n (rmv m (l / 2)) (sq (l / 2)).1 (exF (sq (l / 2)) (ea l))) (rmv m (l / 2)) (2 * n) with
      | none => simp [tmO]
      | some a =>
        obtain ⟨a1, a2, a3, -, -⟩ := lsF_some ho
        show a.2 ≤ _
        rw [a3]
        exact ih _ r1 (by omega) _ _ _ (hs (l / 2) (by omega)).1 (exF_lt (hs (l / 2) (by omega)) _) a1 a2
    unfold toF
    omega
theorem rsF_le {sp : S4} {sq : Nat → S4} {n : Nat} (hp : okP sp) (hs : ∀ i, i < n → okS (sq i)) (hn : n ≤ 8) {m l : Nat} (hm : m < 2 ^ n) (hl : l < 2 * n) : rsF sp sq n m l ≤ 3000 * m := by
  rw [rsF_eq sp sq l hn hm]
  cases ho : lsF (toF sp sq n m (sq (l / 2)).1 (exF (sq (l / 2)) (ea l))) m (2 * n) with
  | none => simp [tmO]
  | some a =>
    obtain ⟨a1, a2, a3, -, -⟩ := lsF_some ho
    show a.2 ≤ _
    rw [a3]
    exact toF_le hp hs hn m hm _ _ _ (hs (l / 2) (by omega)).1 (exF_lt (hs (l / 2) (by omega)) _) a1 a2
def lgO (o : Option (Nat × Nat)) : Nat := match o with
  | none => 0
  | some a => a.1
def stO (o : Option (Nat × Nat)) : Int32 := match o with
  | none => -6
  | some a => nI a.1
/-- the set that is left and the leg that is flown, at step j -/
def rtF (sp : S4) (sq : Nat → S4) (n r c : Nat) : Nat → Nat × Nat
  | 0 => (2 ^ n - 1, lgO (lsF (toF sp sq n (2 ^ n - 1) r c) (2 ^ n - 1) (2 * n)))
  | j + 1 => (rmv (rtF sp sq n r c j).1 ((rtF sp sq n r c j).2 / 2), lgO (lsF (toF sp sq n (rmv (rtF sp sq n r c j).1 ((rtF sp sq n r c j).2 / 2)) (sq ((rtF sp sq n r c j).2 / 2)).1 (exF (sq ((rtF sp sq n r c j).2 / 2)) (ea (rtF sp sq n r c j).2))) (rmv (rtF sp sq n r c j).1 ((rtF sp sq n r c j).2 / 2)) (2 * n)))
theorem ls_ex {f : Nat → Nat} {n m : Nat} (hn : n ≤ 8) (hm : m < 2 ^ n) (hc : 0 < cnt (has m) 8) : ∃ a, lsF f m (2 * n) = some a := by
  cases ho : lsF f m (2 * n) with
  | some a => exact ⟨a, rfl⟩
  | none =>
    exfalso
    have : ∀ k, k ≤ 8 → cnt (has m) k = 0 := by
      intro k
      induction k with
      | zero => intro _; rfl
      | succ k ih =>
        intro hk
        have hk0 : has m k = false := by
          cases hh : has m k with
          | false => rfl
          | true =>
            have h1 := has_lt n hn m hm k (by omega) hh
            have h2 := lsF_none ho (l := 2 * k) (by omega)
            rw [show 2 * k / 2 = k by omega, hh] at h2
            exact h2
        rw [cnt_f hk0]
        exact ih (by omega)
    have := this 8 (by omega)
    omega
theorem rtF_ok (sp : S4) (sq : Nat → S4) {n : Nat} (r c : Nat) (hn : n ≤ 8) : ∀ j, j < n → (rtF sp sq n r c j).1 < 2 ^ n ∧ cnt (has (rtF sp sq n r c j).1) 8 + j = n ∧ (rtF sp sq n r c j).2 < 2 * n ∧ has (rtF sp sq n r c j).1 ((rtF sp sq n r c j).2 / 2) = true := by
  intro j
  have h8 := pow_le8 hn
  have hp : 0 < 2 ^ n := Nat.pow_pos (by omega)
  induction j with
  | zero =>
    intro h0
    have hc := full_cnt n hn
    obtain ⟨a, ha⟩ := ls_ex (f := toF sp sq n (2 ^ n - 1) r c) hn (m := 2 ^ n - 1) (by omega) (by omega)
    obtain ⟨a1, a2, -⟩ := lsF_some ha
    refine ⟨show 2 ^ n - 1 < 2 ^ n by omega, hc, ?_, ?_⟩
    · simp only [rtF, ha]; exact a1
    · simp only [rtF, ha]; exact a2
  | succ j ih =>
    intro hj
    obtain ⟨i1, i2, i3, i4⟩ := ih (by omega)
    obtain ⟨r1, r2, r3⟩ := rmv_facts _ (by omega) _ (by omega) i4
    obtain ⟨a, ha⟩ := ls_ex (f := toF sp sq n (rmv (rtF sp sq n r c j).1 ((rtF sp sq n r c j).2 / 2)) (sq ((rtF sp sq n r c j).2 / 2)).1 (exF (sq ((rtF sp sq n r c j).2 / 2)) (ea (rtF sp sq n r c j).2))) hn (m := rmv (rtF sp sq n r c j).1 ((rtF sp sq n r c j).2 / 2)) (by omega) (by omega)
    obtain ⟨a1, a2, -⟩ := lsF_some ha
    refine ⟨show rmv _ _ < 2 ^ n by omega, show cnt (has (rmv _ _)) 8 + (j + 1) = n by omega, ?_, ?_⟩
    · simp only [rtF, ha]; exact a1
    · simp only [rtF, ha]; exact a2
theorem ls_n {f : Nat → Nat} {m k : Nat} (h : has m (k / 2) = false) : lsF f m (k + 1) = lsF f m k := by
  simp only [lsF, h]; rfl
theorem ls_new {f : Nat → Nat} {m k : Nat} (h : has m (k / 2) = true) (hk : k ≤ 16) (ho : stO (lsF f m k) = -6) : lsF f m (k + 1) = some (k, f k) := by
  simp only [lsF, h]
  cases hq : lsF f m k with
  | none => rfl
  | some a =>
    exfalso
    rw [hq] at ho
    have h1 := (lsF_some hq).1
    have h2 : nI a.1 = -6 := ho
    have h3 := nI_pos (n := a.1) (by omega)
    rw [h2] at h3
    exact h3 (by decide)
theorem ls_lt {f : Nat → Nat} {m k : Nat} (h : has m (k / 2) = true) (ho : ¬ stO (lsF f m k) = -6) (hlt : f k < tmO (lsF f m k)) : lsF f m (k + 1) = some (k, f k) := by
  simp only [lsF, h]
  cases hq : lsF f m k with
  | none => rfl
  | some a =>
    rw [hq] at hlt
    have : f k < a.2 := hlt
    simp [this]
theorem ls_ge {f : Nat → Nat} {m k : Nat} (h : has m (k / 2) = true) (ho : ¬ stO (lsF f m k) = -6) (hlt : ¬ f k < tmO (lsF f m k)) : lsF f m (k + 1) = lsF f m k := by
  simp only [lsF, h]
  cases hq : lsF f m k with
  | none => rw [hq] at ho; exact absurd rfl ho
  | some a =>
    rw [hq] at hlt
    have : ¬ f k < a.2 := hlt
    simp [this]
