/-! what the memory holds -/
def Ch (ks : List Nat) (M M' : jM) : Prop := ∀ k, k ∉ ks → M' k = M k
theorem Ch_rf {ks : List Nat} {M : jM} : Ch ks M M := fun _ _ => rfl
theorem Ch_up {ks : List Nat} {M M1 : jM} {k : Nat} {z v : Int} (hk : k ∈ ks) (h : Ch ks M M1) : Ch ks M (j_up M1 k z v) := by
  intro j hj
  rw [j_up_ne (by rintro rfl; exact hj hk)]
  exact h j hj
theorem Ch_tr {ks : List Nat} {M M1 M2 : jM} (h1 : Ch ks M M1) (h2 : Ch ks M1 M2) : Ch ks M M2 := fun k hk => (h2 k hk).trans (h1 k hk)
theorem Ch_mo {ks ks' : List Nat} {M M1 : jM} (h : Ch ks M M1) (hs : ∀ k ∈ ks, k ∈ ks') : Ch ks' M M1 := fun k hk => h k (fun q => hk (hs k q))
def WF (P D n : Nat) (F O : Nat → Nat) : Prop := P ≤ 7 ∧ D ≤ 5 ∧ n ≤ 12 ∧ D ≤ P ∧ (∀ i, i < n → F i < 2 ^ P ∧ popc (F i) = D) ∧ (∀ i j, i < n → j < n → F i = F j → i = j) ∧ (∀ i, i < n → O i < n) ∧ (∀ i j, i < n → j < n → O i = O j → i = j) ∧ (0 < n → 0 < P ∧ 0 < D) ∧ (n = 0 → P = 0 ∧ D = 0)
theorem WF.fb {P D n : Nat} {F O : Nat → Nat} (h : WF P D n F O) {i : Nat} (hi : i < n) : F i < 128 := Nat.lt_of_lt_of_le (h.2.2.2.2.1 i hi).1 (Nat.le_trans (Nat.pow_le_pow_right (by decide) h.1) (by decide))
/-- the reference's complex -/
def MR (P D n : Nat) (F O : Nat → Nat) (M : jM) : Prop := WF P D n F O ∧ M 23 6 = (P : Int) ∧ M 23 7 = (D : Int) ∧ M 23 8 = (n : Int) ∧ M 23 11 = (((decide (0 < n)).toNat : Nat) : Int) ∧ (∀ i : Nat, i < n → M 25 (i : Int) = (F i : Int)) ∧ ∀ i : Nat, i < n → M 26 (i : Int) = (O i : Int)
section MRS
variable {P D n : Nat} {F O : Nat → Nat} {M : jM}
theorem MR.wf (h : MR P D n F O M) : WF P D n F O := h.1
theorem MR.gP (h : MR P D n F O M) : M 23 6 = (P : Int) := h.2.1
theorem MR.gD (h : MR P D n F O M) : M 23 7 = (D : Int) := h.2.2.1
theorem MR.gn (h : MR P D n F O M) : M 23 8 = (n : Int) := h.2.2.2.1
theorem MR.gt (h : MR P D n F O M) : M 23 11 = (((decide (0 < n)).toNat : Nat) : Int) := h.2.2.2.2.1
theorem MR.gF (h : MR P D n F O M) {i : Nat} (hi : i < n) : M 25 (i : Int) = (F i : Int) := h.2.2.2.2.2.1 i hi
theorem MR.gO (h : MR P D n F O M) {i : Nat} (hi : i < n) : M 26 (i : Int) = (O i : Int) := h.2.2.2.2.2.2 i hi
theorem MR.hP (h : MR P D n F O M) : P ≤ 7 := h.1.1
theorem MR.hD (h : MR P D n F O M) : D ≤ 5 := h.1.2.1
theorem MR.hn (h : MR P D n F O M) : n ≤ 12 := h.1.2.2.1
theorem MR.fb (h : MR P D n F O M) {i : Nat} (hi : i < n) : F i < 128 := h.1.fb hi
theorem MR.f31 (h : MR P D n F O M) {i : Nat} (hi : i < n) : F i < 2147483648 := by have := h.fb hi; omega
theorem MR.ob (h : MR P D n F O M) {i : Nat} (hi : i < n) : O i < n := h.1.2.2.2.2.2.2.1 i hi
theorem MR.ix (h : MR P D n F O M) {i : Nat} (hi : i < n) : 0 ≤ (i : Int) ∧ (i : Int) < ((12 : Nat) : Int) := by have := h.hn; omega
theorem mr_upA {k : Nat} {z v : Int} (hk : k ≠ 23 ∧ k ≠ 25 ∧ k ≠ 26) (h : MR P D n F O M) : MR P D n F O (j_up M k z v) := by
  obtain ⟨h0, h1, h2, h3, h4, h5, h6⟩ := h
  refine ⟨h0, ?_, ?_, ?_, ?_, ?_, ?_⟩
  · rw [j_up_ne (by omega)]; exact h1
  · rw [j_up_ne (by omega)]; exact h2
  · rw [j_up_ne (by omega)]; exact h3
  · rw [j_up_ne (by omega)]; exact h4
  · intro i hi; rw [j_up_ne (by omega)]; exact h5 i hi
  · intro i hi; rw [j_up_ne (by omega)]; exact h6 i hi
theorem mr_upF {z v : Int} (hz : z ≠ 6 ∧ z ≠ 7 ∧ z ≠ 8 ∧ z ≠ 11) (h : MR P D n F O M) : MR P D n F O (j_up M 23 z v) := by
  obtain ⟨h0, h1, h2, h3, h4, h5, h6⟩ := h
  refine ⟨h0, ?_, ?_, ?_, ?_, ?_, ?_⟩
  · rw [j_up_nz (by omega)]; exact h1
  · rw [j_up_nz (by omega)]; exact h2
  · rw [j_up_nz (by omega)]; exact h3
  · rw [j_up_nz (by omega)]; exact h4
  · intro i hi; rw [j_up_ne (by omega)]; exact h5 i hi
  · intro i hi; rw [j_up_ne (by omega)]; exact h6 i hi
theorem mr_ch {ks : List Nat} {M' : jM} (hc : Ch ks M M') (h23 : 23 ∉ ks) (h25 : 25 ∉ ks) (h26 : 26 ∉ ks) (h : MR P D n F O M) : MR P D n F O M' := by
  unfold MR at h ⊢
  rw [hc 23 h23, hc 25 h25, hc 26 h26]
  exact h
end MRS
/-- faces by a row of truth values -/
def IA (M : jM) (G : Nat → Bool) : Prop := ∀ s : Nat, s < 128 → M 28 (s : Int) = (((G s).toNat : Nat) : Int)
theorem ia_upA {M : jM} {G : Nat → Bool} {k : Nat} {z v : Int} (hk : k ≠ 28) (h : IA M G) : IA (j_up M k z v) G := by
  intro s hs
  rw [j_up_ne (by omega)]
  exact h s hs
theorem ia_ch {M M' : jM} {G : Nat → Bool} {ks : List Nat} (hc : Ch ks M M') (hk : 28 ∉ ks) (h : IA M G) : IA M' G := by
  intro s hs
  rw [hc 28 hk]
  exact h s hs
def lyg (n : Nat) (F : Nat → Nat) (s : Nat) : Nat := mskN n (fun k => sbs s (F k))
def isF (n : Nat) (F : Nat → Nat) (s : Nat) : Bool := anyN n (fun k => sbs s (F k))
theorem cntN_t {k : Nat} {p : Nat → Bool} (h : p k = true) : cntN (k + 1) p = cntN k p + 1 := by simp [cntN, h]
theorem cntN_f {k : Nat} {p : Nat → Bool} (h : p k = false) : cntN (k + 1) p = cntN k p := by simp [cntN, h]
theorem mskN_t {k : Nat} {p : Nat → Bool} (h : p k = true) : mskN (k + 1) p = mskN k p ||| 2 ^ k := by simp [mskN, h]
theorem mskN_f {k : Nat} {p : Nat → Bool} (h : p k = false) : mskN (k + 1) p = mskN k p := by simp [mskN, h]
theorem anyN_t {k : Nat} {p : Nat → Bool} (h : p k = true) : anyN (k + 1) p = true := by simp [anyN, h]
theorem anyN_f {k : Nat} {p : Nat → Bool} (h : p k = false) : anyN (k + 1) p = anyN k p := by simp [anyN, h]
theorem allN_t {k : Nat} {p : Nat → Bool} (h : p k = true) : allN (k + 1) p = allN k p := by simp [allN, h]
theorem allN_f {k : Nat} {p : Nat → Bool} (h : p k = false) : allN (k + 1) p = false := by simp [allN, h]
theorem anyN_up {k n : Nat} {p : Nat → Bool} (h : anyN k p = true) (hk : k ≤ n) : anyN n p = true := by
  obtain ⟨j, h1, h2⟩ := anyN_iff.mp h
  exact anyN_iff.mpr ⟨j, by omega, h2⟩
theorem allN_dn {k n : Nat} {p : Nat → Bool} (h : allN n p = true) (hk : k ≤ n) : allN k p = true := allN_iff.mpr (fun j hj => allN_iff.mp h j (by omega))
theorem allN_no {k n : Nat} {p : Nat → Bool} (h : p k = false) (hk : k < n) : allN n p = false := by
  cases q : allN n p
  · rfl
  · rw [allN_iff.mp q k hk] at h
    exact absurd h (by decide)
theorem nthN_ge {n : Nat} {p : Nat → Bool} {i : Nat} (h : i < cntN n p) : 0 ≤ nthN n p (i : Int) ∧ nthN n p (i : Int) < (n : Int) := by
  induction n with
  | zero => simp [cntN] at h
  | succ n ih =>
    simp only [nthN]
    by_cases h1 : i < cntN n p
    · have := ih h1
      rw [if_neg (by omega)]
      omega
    · have hp : p n = true := by
        cases q : p n
        · rw [cntN_f q] at h; exact absurd h h1
        · rfl
      rw [cntN_t hp] at h
      rw [if_pos (nthN_none (by omega)), if_pos ⟨hp, by omega⟩]
      omega
theorem fstN_rng {n : Nat} {p : Nat → Bool} {z : Int} : fstN n p z = z ∨ (0 ≤ fstN n p z ∧ fstN n p z < (n : Int)) := by
  induction n with
  | zero => exact Or.inl rfl
  | succ n ih =>
    simp only [fstN]
    split
    · rcases ih with h | h
      · exact Or.inl h
      · exact Or.inr ⟨h.1, by omega⟩
    · split
      · exact Or.inr (by omega)
      · exact Or.inl rfl
theorem nthN_rng {n : Nat} {p : Nat → Bool} {i : Int} : nthN n p i = -1 ∨ (0 ≤ nthN n p i ∧ nthN n p i < (n : Int)) := by
  induction n with
  | zero => exact Or.inl rfl
  | succ n ih =>
    simp only [nthN]
    split
    · split
      · exact Or.inr (by omega)
      · exact Or.inl rfl
    · rcases ih with h | h
      · exact Or.inl h
      · exact Or.inr ⟨h.1, by omega⟩
theorem nthR {P D n : Nat} {F O : Nat → Nat} {M : jM} (h : MR P D n F O M) (p : Nat → Bool) (i : Int) : -2147483648 ≤ nthN n p i ∧ nthN n p i < 2147483648 := by
  have := h.hn
  rcases nthN_rng (n := n) (p := p) (i := i) with q | q <;> omega
theorem fstR {P D n : Nat} {F O : Nat → Nat} {M : jM} (h : MR P D n F O M) (p : Nat → Bool) (z : Int) (hz : -2147483648 ≤ z ∧ z < 2147483648 := by decide) : -2147483648 ≤ fstN n p z ∧ fstN n p z < 2147483648 := by
  have := h.hn
  rcases fstN_rng (n := n) (p := p) (z := z) with q | q <;> omega
theorem cnt31 {P D n : Nat} {F O : Nat → Nat} {M : jM} (h : MR P D n F O M) (p : Nat → Bool) : cntN n p < 2147483648 := by
  have := h.hn
  have := cntN_le n p
  omega
theorem af31 {P D n : Nat} {F O : Nat → Nat} {M : jM} (h : MR P D n F O M) : 2 ^ n - 1 < 2147483648 := by
  have := Nat.pow_le_pow_right (n := 2) (by decide) h.hn
  omega
