/-! ===== numbers: counts, distances, the line of sight, what a photo sees ===== -/
def cnt (p : Nat → Bool) : Nat → Nat
  | 0 => 0
  | n + 1 => cnt p n + (if p n then 1 else 0)
theorem cnt_t {p : Nat → Bool} {i : Nat} (h : p i = true) : cnt p (i + 1) = cnt p i + 1 := by simp [cnt, h]
theorem cnt_f {p : Nat → Bool} {i : Nat} (h : p i = false) : cnt p (i + 1) = cnt p i := by simp [cnt, h]
theorem cnt_le (p : Nat → Bool) (n : Nat) : cnt p n ≤ n := by
  induction n with
  | zero => simp [cnt]
  | succ n ih => simp only [cnt]; split <;> omega
theorem cnt_mono (p : Nat → Bool) {a b : Nat} (h : a ≤ b) : cnt p a ≤ cnt p b := by
  induction b with
  | zero => have : a = 0 := by omega
            subst this; exact Nat.le_refl _
  | succ b ih =>
    by_cases hb : a = b + 1
    · subst hb; exact Nat.le_refl _
    · exact Nat.le_trans (ih (by omega)) (by simp only [cnt]; omega)
theorem cnt_pos {p : Nat → Bool} {i n : Nat} (h : p i = true) (hi : i < n) : 0 < cnt p n := by
  have h1 := cnt_t (p := p) h
  have h2 := cnt_mono p (show i + 1 ≤ n by omega)
  omega
theorem cnt_congr {p q : Nat → Bool} {n : Nat} (h : ∀ i, i < n → p i = q i) : cnt p n = cnt q n := by
  induction n with
  | zero => rfl
  | succ n ih => simp only [cnt]; rw [ih (fun i hi => h i (by omega)), h n (by omega)]
abbrev Cm : Type := Int32 × Int32 × Int32 × Int32
abbrev S4 : Type := Nat × Nat × Nat × Nat
def ab (x : Int32) : Int32 := if x < 0 then -x else x
theorem ab_m (x : Int32) : (if 0 ≤ x then x else 0 - x) = ab x := by grind [ab]
def ad1 (a b : Nat) : Nat := (a - b) + (b - a)
theorem sub_lt {a b : Nat} (ha : a < 2 ^ 20) (hb : b < 2 ^ 20) : nI a - nI b < 0 ↔ a < b := by
  rw [Int32.lt_iff_toInt_lt, pk_sub_toInt (by omega) (by omega)]
  show (a : Int) - b < 0 ↔ _
  omega
theorem neg_sub (a b : Nat) : -(nI a - nI b) = nI b - nI a := by grind
theorem ab_nI {a b : Nat} (ha : a < 2 ^ 20) (hb : b < 2 ^ 20) : ab (nI a - nI b) = nI (ad1 a b) := by
  unfold ab ad1
  by_cases h : a < b
  · rw [if_pos ((sub_lt ha hb).mpr h), neg_sub, pk_sub (by omega)]
    congr 1; omega
  · rw [if_neg (fun q => h ((sub_lt ha hb).mp q)), pk_sub (by omega)]
    congr 1; omega
theorem ad1_s (a b : Nat) : ad1 a b = ad1 b a := by unfold ad1; omega
def mx (a b : Nat) : Nat := if a < b then b else a
theorem mx_nI {a b : Nat} (ha : a < 2 ^ 31) (hb : b < 2 ^ 31) : (if nI a < nI b then nI b else nI a) = nI (mx a b) := by
  unfold mx
  by_cases h : a < b
  · rw [if_pos ((nI_ltI ha hb).mpr h), if_pos h]
  · rw [if_neg (fun q => h ((nI_ltI ha hb).mp q)), if_neg h]
/-- the step of the line that goes from x to y in n steps -/
def qz (k n x y : Nat) : Nat := ((2 * (k : Int) * ((y : Int) - x) + n) / (2 * n) + x).toNat
theorem qz_rng {k n x y : Nat} (hk : 1 ≤ k) (hkn : k < n) (hd : ad1 y x ≤ n) : (x ≤ qz k n x y ∨ y ≤ qz k n x y) ∧ (qz k n x y ≤ x ∨ qz k n x y ≤ y) ∧ (2 * (k : Int) * ((y : Int) - x) + n) / (2 * n) + x = (qz k n x y : Int) := by
  unfold ad1 at hd
  have hn : (0 : Int) < 2 * n := by omega
  by_cases hxy : x ≤ y
  · -- forward
    have h0 : 0 ≤ 2 * (k : Int) * ((y : Int) - x) + n := by
      have : 0 ≤ (k : Int) * ((y : Int) - x) := Int.mul_nonneg (by omega) (by omega)
      grind
    have h1 : 0 ≤ (2 * (k : Int) * ((y : Int) - x) + n) / (2 * n) := Int.ediv_nonneg h0 (by omega)
    have h2 : (2 * (k : Int) * ((y : Int) - x) + n) / (2 * n) < (y : Int) - x + 1 := by
      apply Int.ediv_lt_of_lt_mul hn
      have : (k : Int) * ((y : Int) - x) ≤ n * ((y : Int) - x) := Int.mul_le_mul_of_nonneg_right (by omega) (by omega)
      grind
    have e : (2 * (k : Int) * ((y : Int) - x) + n) / (2 * n) + x = (qz k n x y : Int) := by
      unfold qz; rw [Int.toNat_of_nonneg (by omega)]
    refine ⟨by omega, by omega, e⟩
  · have h1 : (y : Int) - x ≤ (2 * (k : Int) * ((y : Int) - x) + n) / (2 * n) := by
      apply Int.le_ediv_of_mul_le hn
      have : (n : Int) * ((x : Int) - y) ≥ k * ((x : Int) - y) := Int.mul_le_mul_of_nonneg_right (by omega) (by omega)
      grind
    have h2 : (2 * (k : Int) * ((y : Int) - x) + n) / (2 * n) < 1 := by
      apply Int.ediv_lt_of_lt_mul hn
      have : 0 ≤ (k : Int) * ((x : Int) - y) := Int.mul_nonneg (by omega) (by omega)
      grind
    have e : (2 * (k : Int) * ((y : Int) - x) + n) / (2 * n) + x = (qz k n x y : Int) := by
      unfold qz; rw [Int.toNat_of_nonneg (by omega)]
    refine ⟨by omega, by omega, e⟩
/-! division towards zero, as the machine does it, and downwards -/
def sm (z : Int) : Prop := -1000000 ≤ z ∧ z ≤ 1000000
theorem sm_mn {z : Int} (h : sm z) : Int32.minValue.toInt ≤ z ∧ z ≤ Int32.maxValue.toInt := by
  have h1 : Int32.minValue.toInt = -2147483648 := by decide
  have h2 : Int32.maxValue.toInt = 2147483647 := by decide
  unfold sm at h
  omega
theorem oi_toInt {z : Int} (h : sm z) : (Int32.ofInt z).toInt = z := Int32.toInt_ofInt_of_le (by unfold sm at h; omega) (by unfold sm at h; omega)
theorem oi_lt {a b : Int} (ha : sm a) (hb : sm b) : Int32.ofInt a < Int32.ofInt b ↔ a < b := by rw [Int32.lt_iff_toInt_lt, oi_toInt ha, oi_toInt hb]
theorem oi_le {a b : Int} (ha : sm a) (hb : sm b) : Int32.ofInt a ≤ Int32.ofInt b ↔ a ≤ b := by rw [Int32.le_iff_toInt_le, oi_toInt ha, oi_toInt hb]
theorem oi_eq {a b : Int} (ha : sm a) (hb : sm b) : Int32.ofInt a = Int32.ofInt b ↔ a = b := by
  constructor
  · intro h
    have := congrArg Int32.toInt h
    rwa [oi_toInt ha, oi_toInt hb] at this
  · intro h; rw [h]
theorem oi_nI (n : Nat) : nI n = Int32.ofInt (n : Int) := by
  first | rfl | exact (Int32.ofInt_eq_ofNat).symm | exact Int32.ofInt_natCast.symm
theorem oi_div {a b : Int} (ha : sm a) (hb : sm b) : Int32.ofInt a / Int32.ofInt b = Int32.ofInt (a.tdiv b) := (Int32.ofInt_tdiv (sm_mn ha).1 (sm_mn ha).2 (sm_mn hb).1 (sm_mn hb).2).symm
/-- Math.floorDiv -/
def fdI (x y : Int32) : Int32 := if 0 ≤ (x ^^^ y) then x / y else if x / y * y = x then x / y else x / y - 1
theorem xor_pos (x y : Int32) (hy : 0 ≤ y) : 0 ≤ (x ^^^ y) ↔ 0 ≤ x := by
  have key : ∀ z : Int32, 0 ≤ z ↔ z.toBitVec.msb = false := by
    intro z
    rw [Int32.le_iff_toInt_le]
    show (0 : Int) ≤ z.toBitVec.toInt ↔ _
    rw [BitVec.msb_eq_toInt]
    simp
  rw [key, key, Int32.toBitVec_xor, BitVec.msb_xor, (key y).mp hy]
  simp
theorem fl_facts (z : Int) {d : Nat} (hd : 0 < d) : ∃ e r t : Int, z / (d : Int) = e ∧ t = e * d ∧ t + r = z ∧ 0 ≤ r ∧ r < d ∧ ((0 ≤ z ∨ (d : Int) ∣ z) → z.tdiv d = e ∧ (r = 0 ∨ 0 ≤ z)) ∧ (¬ (0 ≤ z ∨ (d : Int) ∣ z) → z.tdiv d = e + 1 ∧ r ≠ 0 ∧ z < 0) := by
  refine ⟨z / d, z % d, z / d * d, rfl, rfl, by have := Int.emod_add_mul_ediv z d; grind, Int.emod_nonneg z (by omega), Int.emod_lt_of_pos z (by omega), ?_, ?_⟩
  · intro h
    refine ⟨by rw [Int.tdiv_eq_ediv, if_pos h]; omega, ?_⟩
    rcases h with h | h
    · exact Or.inr h
    · exact Or.inl (Int.emod_eq_zero_of_dvd h)
  · intro h
    refine ⟨by rw [Int.tdiv_eq_ediv, if_neg h, Int.sign_eq_one_of_pos (by omega)], fun q => h (Or.inr (Int.dvd_of_emod_eq_zero q)), by omega⟩
theorem fd_ok {z : Int} {d : Nat} (hz : -100000 ≤ z ∧ z ≤ 100000) (hd : 0 < d) (hd2 : d ≤ 1000) : fdI (Int32.ofInt z) (nI d) = Int32.ofInt (z / d) := by
  obtain ⟨e, r, t, he, ht, hr, h0, h1, hA, hB⟩ := fl_facts z hd
  have hsz : sm z := by unfold sm; omega
  have hsd : sm (d : Int) := by unfold sm; omega
  have hst : sm t := by unfold sm; omega
  have hst2 : sm (t + d) := by unfold sm; omega
  have hpos : (0 : Int32) ≤ Int32.ofInt z ↔ 0 ≤ z := oi_le (a := 0) (b := z) (by unfold sm; omega) hsz
  have hdp : (0 : Int32) ≤ Int32.ofInt (d : Int) := (oi_le (a := 0) (b := (d : Int)) (by unfold sm; omega) hsd).mpr (by omega)
  unfold fdI
  have hxp := (xor_pos (Int32.ofInt z) _ hdp).trans hpos
  rw [oi_nI, oi_div hsz hsd, ← Int32.ofInt_mul, he]
  by_cases hc : 0 ≤ z ∨ (d : Int) ∣ z
  · obtain ⟨h2, h3⟩ := hA hc
    rw [h2, ← ht]
    by_cases hp : 0 ≤ z
    · rw [if_pos (hxp.mpr hp)]
    · rw [if_neg (fun q => hp (hxp.mp q)), if_pos ((oi_eq hst hsz).mpr (by omega))]
  · obtain ⟨h2, h3, h4⟩ := hB hc
    have e2 : (e + 1) * (d : Int) = t + d := by grind
    rw [h2, e2, if_neg (fun q => by have := hxp.mp q; omega), if_neg (fun q => by have := (oi_eq hst2 hsz).mp q; omega), Int32.ofInt_add]
    grind
/-- the reference's own rounding down -/
def nrI (u w : Int32) : Int32 := if u < u / w * w then u / w - 1 else u / w
theorem nr_ok {z : Int} {d : Nat} (hz : -100000 ≤ z ∧ z ≤ 100000) (hd : 0 < d) (hd2 : d ≤ 1000) : nrI (Int32.ofInt z) (nI d) = Int32.ofInt (z / d) := by
  obtain ⟨e, r, t, he, ht, hr, h0, h1, hA, hB⟩ := fl_facts z hd
  have hsz : sm z := by unfold sm; omega
  have hsd : sm (d : Int) := by unfold sm; omega
  have hst : sm t := by unfold sm; omega
  have hst2 : sm (t + d) := by unfold sm; omega
  unfold nrI
  rw [oi_nI, oi_div hsz hsd, ← Int32.ofInt_mul, he]
  by_cases hc : 0 ≤ z ∨ (d : Int) ∣ z
  · obtain ⟨h2, h3⟩ := hA hc
    rw [h2, ← ht, if_neg (fun q => by have := (oi_lt hsz hst).mp q; omega)]
  · obtain ⟨h2, h3, h4⟩ := hB hc
    have e2 : (e + 1) * (d : Int) = t + d := by grind
    rw [h2, e2, if_pos ((oi_lt hsz hst2).mpr (by omega)), Int32.ofInt_add]
    grind
theorem ln_arg (k n x y : Nat) : (2 : Int32) * nI k * (nI y - nI x) + nI n = Int32.ofInt (2 * (k : Int) * ((y : Int) - x) + n) := by
  rw [oi_nI, oi_nI, oi_nI, oi_nI, show (2 : Int32) = Int32.ofInt 2 from rfl, ← Int32.ofInt_mul, ← Int32.ofInt_sub, ← Int32.ofInt_mul, ← Int32.ofInt_add]
theorem ln_rng {k n x y : Nat} (hkn : k < n) (hn : n ≤ 16) (hx : x < 16) (hy : y < 16) : -100000 ≤ 2 * (k : Int) * ((y : Int) - x) + n ∧ 2 * (k : Int) * ((y : Int) - x) + n ≤ 100000 := by
  have h1 : (k : Int) * ((y : Int) - x) ≤ 16 * 16 := by
    have := Int.mul_le_mul_of_nonneg_left (c := (k : Int)) (show (y : Int) - x ≤ 16 by omega) (by omega)
    omega
  have h2 : -(16 * 16) ≤ (k : Int) * ((y : Int) - x) := by
    have := Int.mul_le_mul_of_nonneg_left (c := (k : Int)) (show (-16 : Int) ≤ (y : Int) - x by omega) (by omega)
    omega
  have e : 2 * (k : Int) * ((y : Int) - x) = 2 * ((k : Int) * ((y : Int) - x)) := by grind
  omega
theorem ln_end {k n x y : Nat} (hk : 1 ≤ k) (hkn : k < n) (hd : ad1 y x ≤ n) : nI x + Int32.ofInt ((2 * (k : Int) * ((y : Int) - x) + n) / ((2 * n : Nat) : Int)) = nI (qz k n x y) := by
  have h := (qz_rng hk hkn hd).2.2
  rw [oi_nI, ← Int32.ofInt_add, oi_nI]
  congr 1
  have e : ((2 * n : Nat) : Int) = 2 * n := by omega
  rw [e]; omega
theorem ln_c {k n x y : Nat} (hk : 1 ≤ k) (hkn : k < n) (hn : n ≤ 16) (hx : x < 16) (hy : y < 16) (hd : ad1 y x ≤ n) : nI x + fdI ((2 : Int32) * nI k * (nI y - nI x) + nI n) ((2 : Int32) * nI n) = nI (qz k n x y) := by
  rw [ln_arg, show (2 : Int32) * nI n = nI (2 * n) from (pk_mul 2 n), fd_ok (ln_rng hkn hn hx hy) (by omega) (by omega)]
  exact ln_end hk hkn hd
theorem ln_m {k n x y : Nat} (hk : 1 ≤ k) (hkn : k < n) (hn : n ≤ 16) (hx : x < 16) (hy : y < 16) (hd : ad1 y x ≤ n) : nI x + nrI ((2 : Int32) * (nI k * (nI y - nI x)) + nI n) ((2 : Int32) * nI n) = nI (qz k n x y) := by
  rw [show (2 : Int32) * (nI k * (nI y - nI x)) + nI n = (2 : Int32) * nI k * (nI y - nI x) + nI n by grind, ln_arg, show (2 : Int32) * nI n = nI (2 * n) from (pk_mul 2 n), nr_ok (ln_rng hkn hn hx hy) (by omega) (by omega)]
  exact ln_end hk hkn hd
theorem qz_lt {k n x y B : Nat} (hk : 1 ≤ k) (hkn : k < n) (hd : ad1 y x ≤ n) (hx : x < B) (hy : y < B) : qz k n x y < B := by
  have := (qz_rng hk hkn hd).2.1
  omega
def nnF (pr pc r c : Nat) : Nat := mx (ad1 r pr) (ad1 c pc)
theorem nnF_1 (pr pc r c : Nat) : ad1 r pr ≤ nnF pr pc r c := by unfold nnF mx; split <;> omega
theorem nnF_2 (pr pc r c : Nat) : ad1 c pc ≤ nnF pr pc r c := by unfold nnF mx; split <;> omega
theorem nnF_le {pr pc r c : Nat} (h1 : pr < 10) (h2 : pc < 16) (h3 : r < 10) (h4 : c < 16) : nnF pr pc r c ≤ 15 := by unfold nnF mx ad1; split <;> omega
def blk (g : Nat → Int32) (alt h : Int32) (pr pc r c n k : Nat) : Bool := decide (1 ≤ k) && !decide (g (16 * qz k n pr r + qz k n pc c) * nI n ≤ alt * nI n + (h - alt) * nI k)
def lfr (g : Nat → Int32) (alt h : Int32) (pr pc r c : Nat) : Bool := decide (cnt (blk g alt h pr pc r c (nnF pr pc r c)) (nnF pr pc r c) = 0)
def seesF (g : Nat → Int32) (cm : Cm) (pr pc r c : Nat) : Bool := decide (g (16 * r + c) < cm.1) && (!decide ((cm.1 - g (16 * r + c)) * cm.2.1 / 10 < ab (100 * (nI c - nI pc) + cm.2.2.2 * (nI r - nI pr))) && (!decide ((cm.1 - g (16 * r + c)) * cm.2.2.1 / 10 < ab (100 * (nI r - nI pr) - cm.2.2.2 * (nI c - nI pc))) && lfr g cm.1 (g (16 * r + c)) pr pc r c))
/-- strips: (row, first, last, spacing) -/
def phF (q : S4) : Nat := (q.2.2.1 - q.2.1) / q.2.2.2 + 1
def psF (g : Nat → Int32) (cm : Cm) (q : S4) (p r c : Nat) : Bool := seesF g cm q.1 (q.2.1 + p * q.2.2.2) r c
def okS (q : S4) : Prop := q.1 < 10 ∧ q.2.1 ≤ q.2.2.1 ∧ q.2.2.1 < 16 ∧ 1 ≤ q.2.2.2 ∧ q.2.2.2 ≤ 16
theorem phF_le {q : S4} (h : okS q) : phF q ≤ 16 := by
  unfold phF okS at *
  have := Nat.div_le_self (q.2.2.1 - q.2.1) q.2.2.2
  omega
theorem ph_col {q : S4} (h : okS q) {p : Nat} (hp : p < phF q) : q.2.1 + p * q.2.2.2 ≤ q.2.2.1 := by
  unfold phF at hp
  obtain ⟨h1, h2, h3, h4, h5⟩ := h
  have h6 : p ≤ (q.2.2.1 - q.2.1) / q.2.2.2 := by omega
  have h7 := (Nat.le_div_iff_mul_le (by omega)).mp h6
  omega
def ssF (g : Nat → Int32) (cm : Cm) (q : S4) (r c : Nat) : Bool := decide (0 < cnt (fun p => psF g cm q p r c) (phF q))
def covF (g : Nat → Int32) (cm : Cm) (sq : Nat → S4) (r c : Nat) : Nat → Nat
  | 0 => 0
  | i + 1 => covF g cm sq r c i + cnt (fun p => psF g cm (sq i) p r c) (phF (sq i))
theorem covF_le (g : Nat → Int32) (cm : Cm) (sq : Nat → S4) (r c : Nat) {n : Nat} (h : ∀ i, i < n → okS (sq i)) : covF g cm sq r c n ≤ 16 * n := by
  induction n with
  | zero => simp [covF]
  | succ n ih =>
    have h1 := ih (fun i hi => h i (by omega))
    have h2 := cnt_le (fun p => psF g cm (sq n) p r c) (phF (sq n))
    have h3 := phF_le (h n (by omega))
    simp only [covF]; omega
/-- a strip in the world; the strips of a list -/
def VS (σ : Sg) (k : Nat) (q : S4) : Prop := σ k 0 = nI q.1 ∧ σ k 1 = nI q.2.1 ∧ σ k 2 = nI q.2.2.1 ∧ σ k 3 = nI q.2.2.2 ∧ okS q
def LSt (σ : Sg) (b n : Nat) (sq : Nat → S4) : Prop := σ (16 + b) 0 = nI n ∧ n ≤ 8 ∧ ∀ i, i < n → VS σ (8 * b + i) (sq i)
def cmC (σ : Sg) : Cm := (σ 23 0, σ 23 1, σ 23 2, σ 23 3)
/-- heights and altitude as the calls keep them -/
def hB (g : Nat → Int32) (alt : Int32) : Prop := (∀ j, j < 160 → 0 ≤ g j ∧ g j ≤ 999) ∧ 100 ≤ alt ∧ alt ≤ 5000
