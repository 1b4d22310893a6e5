/-! the class's tables, as functions, and what they say -/
theorem WF.fP {P D n : Nat} {F O : Nat → Nat} (h : WF P D n F O) {i : Nat} (hi : i < n) : F i < 2 ^ P := (h.2.2.2.2.1 i hi).1
theorem WF.fD {P D n : Nat} {F O : Nat → Nat} (h : WF P D n F O) {i : Nat} (hi : i < n) : popc (F i) = D := (h.2.2.2.2.1 i hi).2
theorem WF.inj {P D n : Nat} {F O : Nat → Nat} (h : WF P D n F O) {i j : Nat} (hi : i < n) (hj : j < n) (e : F i = F j) : i = j := h.2.2.2.2.2.1 i j hi hj e
theorem WF.on {P D n : Nat} {F O : Nat → Nat} (h : WF P D n F O) {i : Nat} (hi : i < n) : O i < n := h.2.2.2.2.2.2.1 i hi
theorem WF.oi {P D n : Nat} {F O : Nat → Nat} (h : WF P D n F O) {i j : Nat} (hi : i < n) (hj : j < n) (e : O i = O j) : i = j := h.2.2.2.2.2.2.2.1 i j hi hj e
theorem beqB {a b : Bool} (h : a = true ↔ b = true) : a = b := by
  cases a <;> cases b <;> simp_all
theorem cntN_split (n : Nat) (p q : Nat → Bool) : cntN n p = cntN n (fun k => p k && q k) + cntN n (fun k => p k && !q k) := by
  induction n with
  | zero => rfl
  | succ n ih =>
    simp only [cntN]
    rw [ih]
    cases p n <;> cases q n <;> simp <;> omega
theorem popc_and_ndf (a b : Nat) : popc (a &&& b) + popc (ndf a b) = popc a := by
  have h0 : a < 2 ^ a := Nat.lt_two_pow_self
  rw [popc_cnt a a h0, popc_cnt a _ (nb_and h0), popc_cnt a _ (nb_ndf h0), cntN_split a (fun i => a.testBit i) (fun i => b.testBit i)]
  congr 1
  · exact cntN_congr (fun k _ => Nat.testBit_and a b k)
  · exact cntN_congr (fun k _ => ndf_bit a b k)
theorem popc_z {x : Nat} : popc x = 0 ↔ x = 0 := by
  constructor
  · intro h
    rcases Nat.eq_zero_or_pos x with q | q
    · exact q
    · have := popc_pos (n := x) (by omega)
      omega
  · intro h
    rw [h, popc_zero]
theorem ndf_self (x : Nat) : ndf x x = 0 := by
  unfold ndf
  rw [Nat.and_self, Nat.xor_self]
theorem popc_p2 (p : Nat) : popc (2 ^ p) = 1 := by
  have h := popc_rem' (s := 2 ^ p) (k := p) (by rw [Nat.testBit_two_pow]; simp)
  rw [ndf_self, popc_zero] at h
  omega
theorem p2_bit (p i : Nat) : (2 ^ p).testBit i = decide (p = i) := Nat.testBit_two_pow
theorem ne_bit {x : Nat} (h : ¬ x = 0) : ∃ k, x.testBit k = true := by
  obtain ⟨k, h1, -⟩ := lwb_bit (x := x) h
  exact ⟨k, h1⟩
theorem and_ne {a b : Nat} : ¬ a &&& b = 0 ↔ ∃ j, a.testBit j = true ∧ b.testBit j = true := by
  constructor
  · intro h
    obtain ⟨k, hk⟩ := ne_bit h
    rw [Nat.testBit_and, Bool.and_eq_true] at hk
    exact ⟨k, hk⟩
  · rintro ⟨j, h1, h2⟩ h
    have := Nat.testBit_and a b j
    rw [h, Nat.zero_testBit, h1, h2] at this
    exact absurd this (by decide)
theorem ndf_ne {a b : Nat} : ¬ ndf a b = 0 ↔ ∃ j, a.testBit j = true ∧ b.testBit j = false := by
  constructor
  · intro h
    obtain ⟨k, hk⟩ := ne_bit h
    rw [ndf_bit, Bool.and_eq_true, Bool.not_eq_true'] at hk
    exact ⟨k, hk⟩
  · rintro ⟨j, h1, h2⟩ h
    have := ndf_bit a b j
    rw [h, Nat.zero_testBit, h1, h2] at this
    exact absurd this (by decide)
theorem near_iff {a b : Nat} : popc (a &&& b) + 1 = popc a ↔ ∃ p, a.testBit p = true ∧ b.testBit p = false ∧ sbs (ndf a (2 ^ p)) b = true := by
  have h0 := popc_and_ndf a b
  constructor
  · intro h
    have h1 : popc (ndf a b) = 1 := by omega
    obtain ⟨p, hp⟩ := ne_bit (x := ndf a b) (by intro e; rw [e, popc_zero] at h1; omega)
    have h2 := popc_rem' hp
    have h3 : ndf (ndf a b) (2 ^ p) = 0 := popc_z.mp (by omega)
    have hp' := hp
    rw [ndf_bit, Bool.and_eq_true, Bool.not_eq_true'] at hp'
    refine ⟨p, hp'.1, hp'.2, sbs_iff.mpr ?_⟩
    intro i hi
    rw [ndf_bit, p2_bit, Bool.and_eq_true, Bool.not_eq_true', decide_eq_false_iff_not] at hi
    have h4 := ndf_bit (ndf a b) (2 ^ p) i
    rw [h3, Nat.zero_testBit, ndf_bit, p2_bit, hi.1, decide_eq_false hi.2] at h4
    cases hb : b.testBit i
    · rw [hb] at h4; exact absurd h4 (by decide)
    · rfl
  · rintro ⟨p, h1, h2, h3⟩
    have h4 : ndf a b = 2 ^ p := by
      apply Nat.eq_of_testBit_eq
      intro i
      rw [ndf_bit, p2_bit]
      by_cases e : p = i
      · subst e
        rw [h1, h2]
        simp
      · rw [decide_eq_false e]
        cases ha : a.testBit i
        · rfl
        · have := sbs_iff.mp h3 i (by rw [ndf_bit, p2_bit, ha, decide_eq_false e]; rfl)
          rw [this]
          rfl
    rw [h4, popc_p2] at h0
    omega
theorem sbs_eq {a b : Nat} (h : sbs a b = true) (hp : popc a = popc b) : a = b := by
  have h1 : b &&& a = a := by
    apply Nat.eq_of_testBit_eq
    intro i
    rw [Nat.testBit_and]
    cases ha : a.testBit i
    · simp
    · rw [sbs_iff.mp h i ha]; rfl
  have h2 := popc_and_ndf b a
  rw [h1] at h2
  have h3 : ndf b a = 0 := popc_z.mp (by omega)
  apply Nat.eq_of_testBit_eq
  intro i
  have h4 := ndf_bit b a i
  rw [h3, Nat.zero_testBit] at h4
  cases ha : a.testBit i
  · cases hb : b.testBit i
    · rfl
    · rw [ha, hb] at h4; exact absurd h4 (by decide)
  · exact (sbs_iff.mp h i ha).symm
def hvg (n : Nat) (F : Nat → Nat) (p : Nat) : Nat := mskN n (fun i => (F i).testBit p)
def acr (n : Nat) (F : Nat → Nat) (i p : Nat) : Nat := if (F i).testBit p = true then ndf (lyg n F (ndf (F i) (2 ^ p))) (hvg n F p) else 0
theorem hvg_bit (n : Nat) (F : Nat → Nat) (p i : Nat) : (hvg n F p).testBit i = (decide (i < n) && (F i).testBit p) := mskN_bit _ _ _
theorem lyg_bit (n : Nat) (F : Nat → Nat) (s i : Nat) : (lyg n F s).testBit i = (decide (i < n) && sbs s (F i)) := mskN_bit _ _ _
theorem acr_bit (n : Nat) (F : Nat → Nat) (i p j : Nat) : (acr n F i p).testBit j = ((F i).testBit p && (decide (j < n) && (sbs (ndf (F i) (2 ^ p)) (F j) && !(F j).testBit p))) := by
  unfold acr
  split
  · rename_i h
    rw [ndf_bit, lyg_bit, hvg_bit, h]
    cases decide (j < n) <;> cases sbs (ndf (F i) (2 ^ p)) (F j) <;> cases (F j).testBit p <;> rfl
  · rename_i h
    have h' : (F i).testBit p = false := by
      cases e : (F i).testBit p
      · rfl
      · exact absurd e h
    rw [Nat.zero_testBit, h']
    rfl
theorem hvg31 {n : Nat} (hn : n ≤ 12) (F : Nat → Nat) (p : Nat) : hvg n F p < 2147483648 := mskN_31 (by omega)
theorem lyg31 {n : Nat} (hn : n ≤ 12) (F : Nat → Nat) (s : Nat) : lyg n F s < 2147483648 := mskN_31 (by omega)
theorem acr31 {n : Nat} (hn : n ≤ 12) (F : Nat → Nat) (i p : Nat) : acr n F i p < 2147483648 := by
  unfold acr
  split
  · exact nb_ndf (lyg31 hn F _)
  · decide
theorem lyg_isF (n : Nat) (F : Nat → Nat) (s : Nat) : isF n F s = decide (¬ lyg n F s = 0) := by
  unfold isF lyg
  cases h : anyN n (fun k => sbs s (F k))
  · rw [mskN_zero.mpr h]; rfl
  · rw [decide_eq_true]
    intro e
    rw [mskN_zero.mp e] at h
    exact absurd h (by decide)
theorem isF_lt {P D n : Nat} {F O : Nat → Nat} (h : WF P D n F O) {s : Nat} (hs : isF n F s = true) : s < 2 ^ P := by
  obtain ⟨k, hk, h1⟩ := anyN_iff.mp hs
  apply lt_of_bits
  intro i hi
  cases e : s.testBit i
  · rfl
  · have h2 := bit_lt (h.fP hk) (sbs_iff.mp h1 i e)
    omega
theorem cnt_faces {P D n : Nat} {F O : Nat → Nat} (h : WF P D n F O) (q : Nat → Bool) : cntN (2 ^ P) (fun s => decide (¬ lyg n F s = 0) && q s) = cntN 128 (fun s => isF n F s && q s) := by
  have h1 : cntN 128 (fun s => isF n F s && q s) = cntN (2 ^ P) (fun s => isF n F s && q s) := by
    refine cntN_beyond (Nat.pow_le_pow_right (n := 2) (by decide) h.1) ?_
    intro k hk _
    cases e : isF n F k
    · rfl
    · have := isF_lt h e
      omega
  rw [h1]
  exact cntN_congr (fun k _ => by rw [lyg_isF])
theorem rst_eq {P D n : Nat} {F O : Nat → Nat} (h : WF P D n F O) {k : Nat} (hk : k < n) : mskN P (fun p => decide (¬ acr n F (O k) p &&& ahd O k = 0)) = rst F O k := by
  apply Nat.eq_of_testBit_eq
  intro p
  unfold rst
  rw [mskN_bit, mskN_bit]
  apply beqB
  simp only [Bool.and_eq_true, decide_eq_true_eq]
  rw [and_ne]
  constructor
  · rintro ⟨h1, j, h2, h3⟩
    rw [acr_bit] at h2
    simp only [Bool.and_eq_true, decide_eq_true_eq, Bool.not_eq_true'] at h2
    rw [ahd_bit] at h3
    obtain ⟨m, hm, e⟩ := anyN_iff.mp h3
    rw [beq_iff_eq] at e
    subst e
    exact ⟨by have := h.1; omega, h2.1, anyN_iff.mpr ⟨m, hm, h2.2.2.1⟩⟩
  · rintro ⟨h1, h2, h3⟩
    obtain ⟨m, hm, h4⟩ := anyN_iff.mp h3
    refine ⟨bit_lt (h.fP (h.on hk)) h2, O m, ?_, ?_⟩
    · rw [acr_bit]
      simp only [Bool.and_eq_true, decide_eq_true_eq, Bool.not_eq_true']
      refine ⟨h2, h.on (by omega), h4, ?_⟩
      cases e : (F (O m)).testBit p
      · rfl
      · have h5 : sbs (F (O k)) (F (O m)) = true := by
          rw [sbs_iff]
          intro i hi
          by_cases e2 : p = i
          · rw [← e2]; exact e
          · exact sbs_iff.mp h4 i (by rw [ndf_bit, p2_bit, hi, decide_eq_false e2]; rfl)
        have h6 := sbs_eq h5 ((h.fD (h.on hk)).trans (h.fD (h.on (by omega))).symm)
        have h7 := h.oi hk (by omega) (h.inj (h.on hk) (h.on (by omega)) h6)
        omega
    · rw [ahd_bit]
      exact anyN_iff.mpr ⟨m, hm, beq_iff_eq.mpr rfl⟩
/-- what of others is unmet by the points below p -/
def ftU (n : Nat) (F : Nat → Nat) (i s : Nat) : Nat → Nat
  | 0 => s
  | p + 1 => if acr n F i p &&& s = 0 then ftU n F i s p else ftU n F i s p &&& hvg n F p
theorem ftU_bit (n : Nat) (F : Nat → Nat) (i s p j : Nat) : (ftU n F i s p).testBit j = (s.testBit j && allN p (fun q => decide (acr n F i q &&& s = 0) || (hvg n F q).testBit j)) := by
  induction p with
  | zero => simp [ftU, allN]
  | succ p ih =>
    simp only [ftU, allN]
    split
    · rename_i h
      rw [ih, decide_eq_true h]
      simp
    · rename_i h
      rw [Nat.testBit_and, ih, decide_eq_false h]
      cases s.testBit j <;> simp
theorem ftU31 {n : Nat} {F : Nat → Nat} {i s : Nat} (hs : s < 2147483648) : ∀ p, ftU n F i s p < 2147483648 := by
  intro p
  induction p with
  | zero => exact hs
  | succ p ih =>
    simp only [ftU]
    split
    · exact ih
    · exact nb_and ih
theorem ftU_z {n : Nat} {F : Nat → Nat} {i s p q : Nat} (h : ftU n F i s p = 0) (hq : p ≤ q) : ftU n F i s q = 0 := by
  induction q with
  | zero => rw [show p = 0 by omega] at h; exact h
  | succ q ih =>
    by_cases e : p = q + 1
    · rw [← e]; exact h
    · simp only [ftU]
      rw [ih (by omega)]
      split
      · rfl
      · exact Nat.zero_and _
theorem fits_eq {P D n : Nat} {F O : Nat → Nat} (h : WF P D n F O) {i s : Nat} (hi : i < n) (hs : s < 2 ^ n) : decide (ftU n F i s P = 0) = jnS F i s := by
  apply beqB
  rw [decide_eq_true_eq]
  unfold jnS
  rw [allN_iff]
  constructor
  · intro h0 k hk
    cases hsk : s.testBit k
    · rfl
    · have h1 := ftU_bit n F i s P k
      rw [h0, Nat.zero_testBit, hsk, Bool.true_and] at h1
      have h2 : ¬ allN P (fun q => decide (acr n F i q &&& s = 0) || (hvg n F q).testBit k) = true := by rw [← h1]; decide
      rw [allN_iff] at h2
      have h3 : ∃ q, q < P ∧ ¬ acr n F i q &&& s = 0 ∧ (hvg n F q).testBit k = false := by
        apply Classical.byContradiction
        intro hc
        apply h2
        intro q hq
        by_cases e : acr n F i q &&& s = 0
        · rw [decide_eq_true e]; rfl
        · cases e2 : (hvg n F q).testBit k
          · exact absurd ⟨q, hq, e, e2⟩ hc
          · simp
      obtain ⟨q, hq, h4, h5⟩ := h3
      obtain ⟨o, h6, h7⟩ := and_ne.mp h4
      rw [acr_bit] at h6
      simp only [Bool.and_eq_true, decide_eq_true_eq, Bool.not_eq_true'] at h6
      obtain ⟨g1, g2, g3, g4⟩ := h6
      rw [hvg_bit, decide_eq_true (bit_lt hs hsk), Bool.true_and] at h5
      simp only [Bool.not_true, Bool.false_or]
      refine anyN_iff.mpr ⟨o, by have := h.2.2.1; omega, ?_⟩
      unfold jnQ
      rw [h7, beq_iff_eq.mpr (near_iff.mpr ⟨q, g1, g4, g3⟩), Bool.true_and, Bool.true_and, sbs_iff]
      intro b hb
      rw [Nat.testBit_and, Bool.and_eq_true] at hb
      refine sbs_iff.mp g3 b ?_
      rw [ndf_bit, p2_bit, hb.1, Bool.true_and, Bool.not_eq_true', decide_eq_false_iff_not]
      intro e
      rw [← e, h5] at hb
      exact absurd hb.2 (by decide)
  · intro h0
    apply Nat.eq_of_testBit_eq
    intro k
    rw [ftU_bit, Nat.zero_testBit]
    cases hsk : s.testBit k
    · rfl
    · have hkn := bit_lt hs hsk
      have h1 := h0 k (by have := h.2.2.1; omega)
      rw [hsk, Bool.not_true, Bool.false_or] at h1
      obtain ⟨o, ho, h2⟩ := anyN_iff.mp h1
      unfold jnQ at h2
      rw [Bool.and_eq_true, Bool.and_eq_true, beq_iff_eq] at h2
      obtain ⟨⟨h3, h4⟩, h5⟩ := h2
      obtain ⟨q, g1, g2, g3⟩ := near_iff.mp h4
      rw [Bool.true_and]
      refine allN_no (k := q) ?_ (bit_lt (h.fP hi) g1)
      rw [hvg_bit, decide_eq_true hkn, Bool.true_and]
      have h6 : ¬ acr n F i q &&& s = 0 := and_ne.mpr ⟨o, by rw [acr_bit, g1, decide_eq_true (bit_lt hs h3), g3, g2]; rfl, h3⟩
      rw [decide_eq_false h6, Bool.false_or]
      cases e : (F k).testBit q
      · rfl
      · have := sbs_iff.mp h5 q (by rw [Nat.testBit_and, g1, e]; rfl)
        rw [g2] at this
        exact absurd this (by decide)
def orN : Nat → (Nat → Nat) → Nat
  | 0, _ => 0
  | p + 1, f => orN p f ||| f p
theorem orN_bit (p : Nat) (f : Nat → Nat) (j : Nat) : (orN p f).testBit j = anyN p (fun q => (f q).testBit j) := by
  induction p with
  | zero => simp [orN, anyN]
  | succ p ih => simp only [orN, anyN]; rw [Nat.testBit_or, ih]
theorem orN31 {f : Nat → Nat} {p : Nat} (h : ∀ q, q < p → f q < 2147483648) : orN p f < 2147483648 := by
  induction p with
  | zero => exact (by decide : 0 < 2147483648)
  | succ p ih => exact nb_or (ih (fun q hq => h q (by omega))) (h p (by omega))
theorem nb_eq {P D n : Nat} {F O : Nat → Nat} (h : WF P D n F O) {i : Nat} (hi : i < n) : orN P (acr n F i) = mskN n (nrB F D i) := by
  apply Nat.eq_of_testBit_eq
  intro j
  rw [orN_bit, mskN_bit]
  apply beqB
  rw [anyN_iff]
  unfold nrB
  simp only [Bool.and_eq_true, decide_eq_true_eq, Bool.not_eq_true', beq_iff_eq, beq_eq_false_iff_ne]
  constructor
  · rintro ⟨p, hp, h1⟩
    rw [acr_bit] at h1
    simp only [Bool.and_eq_true, decide_eq_true_eq, Bool.not_eq_true'] at h1
    obtain ⟨g1, g2, g3, g4⟩ := h1
    refine ⟨g2, ?_, ?_⟩
    · intro e
      rw [e, g4] at g1
      exact absurd g1 (by decide)
    · rw [← h.fD hi]
      exact near_iff.mpr ⟨p, g1, g4, g3⟩
  · rintro ⟨h1, h2, h3⟩
    rw [← h.fD hi] at h3
    obtain ⟨p, g1, g2, g3⟩ := near_iff.mp h3
    refine ⟨p, bit_lt (h.fP hi) g1, ?_⟩
    rw [acr_bit, g1, decide_eq_true h1, g3, g2]
    rfl
def msC (P n : Nat) (F : Nat → Nat) (x : Nat) : Bool := decide (lyg n F x = 0) && allN P (fun p => !Nat.testBit x p || decide (¬ lyg n F (ndf x (2 ^ p)) = 0))
theorem msC_eq {P n : Nat} {F : Nat → Nat} (h0 : 0 < n) (x : Nat) : msC P n F x = msg P (isF n F) x := by
  unfold msC msg
  have h1 : isF n F 0 = true := anyN_iff.mpr ⟨0, h0, sbs_iff.mpr (fun i hi => by rw [Nat.zero_testBit] at hi; exact absurd hi (by decide))⟩
  have h2 : (!isF n F x && !(x == 0)) = decide (lyg n F x = 0) := by
    by_cases e : x = 0
    · subst e
      have h3 := h1
      rw [lyg_isF, decide_eq_true_eq] at h3
      rw [h1, decide_eq_false h3]
      rfl
    · rw [beq_eq_false_iff_ne.mpr e, lyg_isF]
      by_cases e2 : lyg n F x = 0
      · rw [decide_eq_true e2, decide_eq_false (fun q => q e2)]; rfl
      · rw [decide_eq_false e2, decide_eq_true e2]; rfl
  rw [h2]
  congr 1
  exact allN_congr (fun p _ => by rw [lyg_isF])
/-- may a point be shed of some facets -/
def clB (n : Nat) (F : Nat → Nat) (s p : Nat) : Bool := (decide (¬ s &&& hvg n F p = 0) && decide (¬ ndf s (hvg n F p) = 0)) && allN n (fun i => !(s &&& hvg n F p).testBit i || decide (¬ acr n F i p &&& ndf s (hvg n F p) = 0))
theorem wh_bit {n s p : Nat} {F : Nat → Nat} (hs : s < 2 ^ n) : s &&& hvg n F p = wpN n F s p := by
  apply Nat.eq_of_testBit_eq
  intro i
  rw [Nat.testBit_and, hvg_bit, wpN_bit]
  cases s.testBit i <;> simp
theorem wo_bit {n s p : Nat} {F : Nat → Nat} (hs : s < 2 ^ n) : ndf s (hvg n F p) = ndf s (wpN n F s p) := by
  apply Nat.eq_of_testBit_eq
  intro i
  rw [ndf_bit, ndf_bit, hvg_bit, wpN_bit]
  cases s.testBit i <;> simp
theorem clB_eq {n s g p : Nat} {F : Nat → Nat} (hs : s < 2 ^ n) (hg : ∀ k, s.testBit k = true → sbs g (F k) = true) : clB n F s p = csB n F s g p := by
  apply beqB
  unfold clB csB
  simp only [Bool.and_eq_true, decide_eq_true_eq]
  rw [and_ne, ndf_ne, allN_iff, allN_iff, anyN_iff, anyN_iff]
  constructor
  · rintro ⟨⟨⟨j, h1, h2⟩, ⟨m, h3, h4⟩⟩, h5⟩
    rw [hvg_bit, Bool.and_eq_true, decide_eq_true_eq] at h2
    have hm := bit_lt hs h3
    rw [hvg_bit, decide_eq_true hm, Bool.true_and] at h4
    have hgp : g.testBit p = false := by
      cases e : g.testBit p
      · rfl
      · have := sbs_iff.mp (hg m h3) p e
        rw [h4] at this
        exact absurd this (by decide)
    refine ⟨⟨⟨by rw [hgp]; rfl, j, h2.1, by rw [h1, h2.2]; rfl⟩, m, hm, by rw [h3, h4]; rfl⟩, ?_⟩
    intro k hk
    unfold csK
    cases e1 : s.testBit k
    · rfl
    · cases e2 : (F k).testBit p
      · rfl
      · have h6 := h5 k hk
        rw [Nat.testBit_and, hvg_bit, e1, e2, decide_eq_true hk] at h6
        simp only [Bool.and_self, Bool.not_true, Bool.false_or, decide_eq_true_eq] at h6
        obtain ⟨o, h7, h8⟩ := and_ne.mp h6
        rw [acr_bit] at h7
        simp only [Bool.and_eq_true, decide_eq_true_eq, Bool.not_eq_true'] at h7
        rw [ndf_bit, Bool.and_eq_true] at h8
        obtain ⟨g1, g2, g3, g4⟩ := h7
        simp only [Bool.not_true, Bool.or_self, Bool.false_or]
        refine anyN_iff.mpr ⟨o, g2, ?_⟩
        unfold csQ
        rw [h8.1, g4, Bool.not_false, Bool.true_and, Bool.true_and, sbs_iff]
        intro i hi
        rw [ndf_bit, ndf_bit, Bool.and_eq_true, Bool.and_eq_true] at hi
        exact sbs_iff.mp g3 i (by rw [ndf_bit, hi.1.1, hi.2]; rfl)
  · rintro ⟨⟨⟨h1, j, hj, h2⟩, m, hm, h3⟩, h4⟩
    rw [Bool.and_eq_true] at h2 h3
    rw [Bool.not_eq_true'] at h1 h3
    refine ⟨⟨⟨j, h2.1, by rw [hvg_bit, decide_eq_true hj, h2.2]; rfl⟩, ⟨m, h3.1, by rw [hvg_bit, decide_eq_true hm, h3.2]; rfl⟩⟩, ?_⟩
    intro k hk
    rw [Nat.testBit_and, hvg_bit, decide_eq_true hk]
    cases e1 : s.testBit k
    · rfl
    · cases e2 : (F k).testBit p
      · rfl
      · have h6 := h4 k hk
        unfold csK at h6
        rw [e1, e2] at h6
        simp only [Bool.not_true, Bool.or_self, Bool.false_or] at h6
        obtain ⟨o, ho, h7⟩ := anyN_iff.mp h6
        unfold csQ at h7
        rw [Bool.and_eq_true, Bool.and_eq_true, Bool.not_eq_true'] at h7
        obtain ⟨⟨g1, g2⟩, g3⟩ := h7
        simp only [Bool.and_self, Bool.not_true, Bool.false_or, decide_eq_true_eq]
        refine and_ne.mpr ⟨o, ?_, by rw [ndf_bit, hvg_bit, g1, g2]; simp⟩
        rw [acr_bit, e2, decide_eq_true ho, g2]
        simp only [Bool.not_false, Bool.and_true, Bool.true_and]
        rw [sbs_iff]
        intro i hi
        rw [ndf_bit, Bool.and_eq_true] at hi
        cases e3 : g.testBit i
        · exact sbs_iff.mp g3 i (by rw [ndf_bit, ndf_bit, hi.1, hi.2, e3]; rfl)
        · exact sbs_iff.mp (hg o g1) i e3
