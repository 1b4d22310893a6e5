/-! counted loops, as functions -/
def sbs (a b : Nat) : Bool := ndf a b == 0
theorem sbs_iff {a b : Nat} : sbs a b = true ↔ ∀ i, a.testBit i = true → b.testBit i = true := by
  unfold sbs
  rw [beq_iff_eq]
  constructor
  · intro h i hi
    have := ndf_bit a b i
    rw [h, Nat.zero_testBit, hi] at this
    cases hb : b.testBit i
    · rw [hb] at this; simp at this
    · rfl
  · intro h
    apply Nat.eq_of_testBit_eq
    intro i
    rw [ndf_bit, Nat.zero_testBit]
    cases ha : a.testBit i
    · rfl
    · rw [h i ha]; rfl
def anyN : Nat → (Nat → Bool) → Bool
  | 0, _ => false
  | k + 1, p => anyN k p || p k
def allN : Nat → (Nat → Bool) → Bool
  | 0, _ => true
  | k + 1, p => allN k p && p k
def cntN : Nat → (Nat → Bool) → Nat
  | 0, _ => 0
  | k + 1, p => cntN k p + (p k).toNat
def mskN : Nat → (Nat → Bool) → Nat
  | 0, _ => 0
  | k + 1, p => mskN k p ||| (if p k then 2 ^ k else 0)
/-- the i-th k under n with p; -1: none -/
def nthN : Nat → (Nat → Bool) → Int → Int
  | 0, _, _ => -1
  | k + 1, p, i => if nthN k p i = -1 then (if p k = true ∧ (cntN k p : Int) = i then (k : Int) else -1) else nthN k p i
/-- the first k under n with p; z: none -/
def fstN : Nat → (Nat → Bool) → Int → Int
  | 0, _, z => z
  | k + 1, p, z => if anyN k p = true then fstN k p z else if p k = true then (k : Int) else z
def sumN : Nat → (Nat → Int) → Int
  | 0, _ => 0
  | k + 1, f => sumN k f + f k
theorem anyN_iff {n : Nat} {p : Nat → Bool} : anyN n p = true ↔ ∃ k, k < n ∧ p k = true := by
  induction n with
  | zero => simp [anyN]
  | succ n ih =>
    simp only [anyN, Bool.or_eq_true, ih]
    constructor
    · rintro (⟨k, h1, h2⟩ | h)
      · exact ⟨k, by omega, h2⟩
      · exact ⟨n, by omega, h⟩
    · rintro ⟨k, h1, h2⟩
      by_cases hk : k = n
      · subst hk; exact Or.inr h2
      · exact Or.inl ⟨k, by omega, h2⟩
theorem allN_iff {n : Nat} {p : Nat → Bool} : allN n p = true ↔ ∀ k, k < n → p k = true := by
  induction n with
  | zero => simp [allN]
  | succ n ih =>
    simp only [allN, Bool.and_eq_true, ih]
    constructor
    · rintro ⟨h1, h2⟩ k hk
      by_cases hkn : k = n
      · subst hkn; exact h2
      · exact h1 k (by omega)
    · intro h
      exact ⟨fun k hk => h k (by omega), h n (by omega)⟩
theorem anyN_false {n : Nat} {p : Nat → Bool} : anyN n p = false ↔ ∀ k, k < n → p k = false := by
  rw [← Bool.not_eq_true, anyN_iff]
  constructor
  · intro h k hk
    cases hp : p k
    · rfl
    · exact absurd ⟨k, hk, hp⟩ h
  · rintro h ⟨k, h1, h2⟩
    rw [h k h1] at h2
    exact absurd h2 (by decide)
theorem anyN_congr {n : Nat} {p q : Nat → Bool} (h : ∀ k, k < n → p k = q k) : anyN n p = anyN n q := by
  induction n with
  | zero => rfl
  | succ n ih => simp only [anyN]; rw [ih (fun k hk => h k (by omega)), h n (by omega)]
theorem allN_congr {n : Nat} {p q : Nat → Bool} (h : ∀ k, k < n → p k = q k) : allN n p = allN n q := by
  induction n with
  | zero => rfl
  | succ n ih => simp only [allN]; rw [ih (fun k hk => h k (by omega)), h n (by omega)]
theorem cntN_congr {n : Nat} {p q : Nat → Bool} (h : ∀ k, k < n → p k = q k) : cntN n p = cntN n q := by
  induction n with
  | zero => rfl
  | succ n ih => simp only [cntN]; rw [ih (fun k hk => h k (by omega)), h n (by omega)]
theorem mskN_congr {n : Nat} {p q : Nat → Bool} (h : ∀ k, k < n → p k = q k) : mskN n p = mskN n q := by
  induction n with
  | zero => rfl
  | succ n ih => simp only [mskN]; rw [ih (fun k hk => h k (by omega)), h n (by omega)]
theorem nthN_congr {n : Nat} {p q : Nat → Bool} {i : Int} (h : ∀ k, k < n → p k = q k) : nthN n p i = nthN n q i := by
  induction n with
  | zero => rfl
  | succ n ih => simp only [nthN]; rw [ih (fun k hk => h k (by omega)), h n (by omega), cntN_congr (fun k hk => h k (by omega))]
theorem fstN_congr {n : Nat} {p q : Nat → Bool} {z : Int} (h : ∀ k, k < n → p k = q k) : fstN n p z = fstN n q z := by
  induction n with
  | zero => rfl
  | succ n ih => simp only [fstN]; rw [ih (fun k hk => h k (by omega)), h n (by omega), anyN_congr (fun k hk => h k (by omega))]
theorem sumN_congr {n : Nat} {p q : Nat → Int} (h : ∀ k, k < n → p k = q k) : sumN n p = sumN n q := by
  induction n with
  | zero => rfl
  | succ n ih => simp only [sumN]; rw [ih (fun k hk => h k (by omega)), h n (by omega)]
theorem cntN_le (n : Nat) (p : Nat → Bool) : cntN n p ≤ n := by
  induction n with
  | zero => simp [cntN]
  | succ n ih => simp only [cntN]; have := Bool.toNat_le (p n); omega
theorem cntN_mono {p : Nat → Bool} {m n : Nat} (h : m ≤ n) : cntN m p ≤ cntN n p := by
  induction n with
  | zero => rw [Nat.le_zero.mp h]; exact Nat.le_refl _
  | succ n ih =>
    by_cases hm : m = n + 1
    · subst hm; exact Nat.le_refl _
    · simp only [cntN]; have := ih (by omega); omega
theorem cntN_beyond {p : Nat → Bool} {m n : Nat} (h : m ≤ n) (hp : ∀ k, m ≤ k → k < n → p k = false) : cntN n p = cntN m p := by
  induction n with
  | zero => rw [Nat.le_zero.mp h]
  | succ n ih =>
    by_cases hm : m = n + 1
    · subst hm; rfl
    · simp only [cntN]; rw [ih (by omega) (fun k h1 h2 => hp k h1 (by omega)), hp n (by omega) (by omega)]; rfl
theorem mskN_lt (n : Nat) (p : Nat → Bool) : mskN n p < 2 ^ n := by
  induction n with
  | zero => simp [mskN]
  | succ n ih =>
    simp only [mskN]
    apply Nat.or_lt_two_pow
    · exact Nat.lt_of_lt_of_le ih (Nat.pow_le_pow_right (by decide) (by omega))
    · split
      · exact Nat.pow_lt_pow_right (by decide) (by omega)
      · exact Nat.two_pow_pos _
theorem mskN_bit (n : Nat) (p : Nat → Bool) (i : Nat) : (mskN n p).testBit i = (decide (i < n) && p i) := by
  induction n with
  | zero => simp [mskN]
  | succ n ih =>
    simp only [mskN]
    rw [Nat.testBit_or, ih]
    by_cases h : i = n
    · subst h
      cases hp : p i <;> simp
    · have h2 : (if p n = true then 2 ^ n else 0).testBit i = false := by
        split
        · rw [Nat.testBit_two_pow]; simp; omega
        · simp
      rw [h2]
      by_cases h3 : i < n
      · simp [h3, show i < n + 1 by omega]
      · simp [h3, show ¬ i < n + 1 by omega]
theorem mskN_31 {n : Nat} {p : Nat → Bool} (h : n ≤ 30) : mskN n p < 2147483648 := Nat.lt_of_lt_of_le (mskN_lt n p) (Nat.le_trans (Nat.pow_le_pow_right (by decide) h) (by decide))
theorem mskN_zero {n : Nat} {p : Nat → Bool} : mskN n p = 0 ↔ anyN n p = false := by
  rw [anyN_false]
  constructor
  · intro h k hk
    have := mskN_bit n p k
    rw [h, Nat.zero_testBit] at this
    simpa [hk] using this.symm
  · intro h
    apply Nat.eq_of_testBit_eq
    intro i
    rw [mskN_bit, Nat.zero_testBit]
    by_cases hi : i < n
    · simp [hi, h i hi]
    · simp [hi]
theorem nthN_neg {n : Nat} {p : Nat → Bool} {i : Int} (h : i < 0) : nthN n p i = -1 := by
  induction n with
  | zero => rfl
  | succ n ih => simp only [nthN]; rw [if_pos ih, if_neg (by omega)]
theorem nthN_none {n : Nat} {p : Nat → Bool} {i : Int} (h : (cntN n p : Int) ≤ i) : nthN n p i = -1 := by
  induction n with
  | zero => rfl
  | succ n ih =>
    simp only [nthN, cntN] at h ⊢
    rw [if_pos (ih (by omega))]
    rw [if_neg]
    rintro ⟨h1, h2⟩
    rw [h1] at h
    simp only [Bool.toNat_true] at h
    omega
theorem nthN_stay {m n : Nat} {p : Nat → Bool} {i : Int} (h : ¬ nthN m p i = -1) (hmn : m ≤ n) : nthN n p i = nthN m p i := by
  induction n with
  | zero => rw [Nat.le_zero.mp hmn]
  | succ n ih =>
    by_cases hm : m = n + 1
    · rw [hm]
    · simp only [nthN]
      have := ih (by omega)
      rw [if_neg (by rw [this]; exact h), this]
theorem nthN_hit {m n : Nat} {p : Nat → Bool} {i : Int} (hp : p m = true) (hc : (cntN m p : Int) = i) (hmn : m < n) : nthN n p i = (m : Int) := by
  have h1 : nthN (m + 1) p i = (m : Int) := by
    simp only [nthN]
    rw [if_pos (nthN_none (by omega)), if_pos ⟨hp, hc⟩]
  rw [← h1]
  exact nthN_stay (by rw [h1]; omega) hmn
theorem fstN_none {n : Nat} {p : Nat → Bool} {z : Int} (h : anyN n p = false) : fstN n p z = z := by
  induction n with
  | zero => rfl
  | succ n ih =>
    simp only [anyN, Bool.or_eq_false_iff] at h
    simp only [fstN]
    rw [if_neg (by rw [h.1]; decide), if_neg (by rw [h.2]; decide)]
theorem fstN_hit {m n : Nat} {p : Nat → Bool} {z : Int} (h : anyN m p = false) (hp : p m = true) (hmn : m < n) : fstN n p z = (m : Int) := by
  induction n with
  | zero => omega
  | succ n ih =>
    simp only [fstN]
    by_cases hm : m = n
    · subst hm
      rw [if_neg (by rw [h]; decide), if_pos hp]
    · rw [if_pos (anyN_iff.mpr ⟨m, by omega, hp⟩)]
      exact ih (by omega)
