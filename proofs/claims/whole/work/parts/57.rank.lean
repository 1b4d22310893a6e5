/-! spans by halves -/
def inS (v : Nat → Nat) : Nat → Nat → Bool
  | 0, x => x == 0
  | j + 1, x => inS v j x || inS v j (x ^^^ v j)
theorem inS_up {v : Nat → Nat} {j x : Nat} (h : inS v j x = true) : inS v (j + 1) x = true := by
  simp only [inS]
  rw [h]
  rfl
theorem inS_mono {v : Nat → Nat} {j m x : Nat} (h : inS v j x = true) (hj : j ≤ m) : inS v m x = true := by
  induction m with
  | zero => rw [Nat.le_zero.mp hj] at h; exact h
  | succ m ih =>
    by_cases e : j = m + 1
    · rw [← e]; exact h
    · exact inS_up (ih (by omega))
theorem inS_zero (v : Nat → Nat) (j : Nat) : inS v j 0 = true := by
  induction j with
  | zero => rfl
  | succ j ih => exact inS_up ih
theorem xor_sw (a b c : Nat) : (a ^^^ b) ^^^ c = (a ^^^ c) ^^^ b := by
  rw [Nat.xor_assoc, Nat.xor_comm b c, ← Nat.xor_assoc]
theorem xor_cc (a b : Nat) : (a ^^^ b) ^^^ b = a := by
  rw [Nat.xor_assoc, Nat.xor_self, Nat.xor_zero]
theorem xor_2 (x y a : Nat) : (x ^^^ a) ^^^ (y ^^^ a) = x ^^^ y := by
  rw [Nat.xor_assoc, ← Nat.xor_assoc a y a, Nat.xor_comm a y, xor_cc]
theorem inS_xor {v : Nat → Nat} : ∀ (j x y : Nat), inS v j x = true → inS v j y = true → inS v j (x ^^^ y) = true := by
  intro j
  induction j with
  | zero =>
    intro x y h1 h2
    simp only [inS, beq_iff_eq] at h1 h2 ⊢
    rw [h1, h2, Nat.xor_self]
  | succ j ih =>
    intro x y h1 h2
    simp only [inS, Bool.or_eq_true] at h1 h2 ⊢
    rcases h1 with h1 | h1 <;> rcases h2 with h2 | h2
    · exact Or.inl (ih _ _ h1 h2)
    · right
      have := ih _ _ h1 h2
      rw [← Nat.xor_assoc] at this
      exact this
    · right
      have := ih _ _ h1 h2
      rw [xor_sw] at this
      exact this
    · left
      have := ih _ _ h1 h2
      rw [xor_2] at this
      exact this
theorem inS_self {v : Nat → Nat} {i j : Nat} (h : i < j) : inS v j (v i) = true := by
  have : inS v (i + 1) (v i) = true := by
    simp only [inS]
    rw [Nat.xor_self, inS_zero, Bool.or_true]
  exact inS_mono this h
theorem inS_sub {v w : Nat → Nat} {m : Nat} : ∀ (j x : Nat), (∀ i, i < j → inS w m (v i) = true) → inS v j x = true → inS w m x = true := by
  intro j
  induction j with
  | zero =>
    intro x _ h
    simp only [inS, beq_iff_eq] at h
    rw [h]
    exact inS_zero w m
  | succ j ih =>
    intro x hv h
    simp only [inS, Bool.or_eq_true] at h
    rcases h with h | h
    · exact ih x (fun i hi => hv i (by omega)) h
    · have h1 := ih _ (fun i hi => hv i (by omega)) h
      have h2 := inS_xor m _ _ h1 (hv j (by omega))
      rw [xor_cc] at h2
      exact h2
theorem inS_congr {v w : Nat → Nat} : ∀ (j x : Nat), (∀ i, i < j → v i = w i) → inS v j x = inS w j x := by
  intro j
  induction j with
  | zero => intro x _; rfl
  | succ j ih =>
    intro x h
    simp only [inS]
    rw [ih _ (fun i hi => h i (by omega)), ih _ (fun i hi => h i (by omega)), h j (by omega)]
theorem xor_eq0 {a b : Nat} (h : a ^^^ b = 0) : a = b := by
  have := xor_cc a b
  rw [h, Nat.zero_xor] at this
  exact this.symm
theorem inS_tr {v : Nat → Nat} {j x y : Nat} (h1 : inS v j x = true) (h2 : inS v j (x ^^^ y) = true) : inS v j y = true := by
  have := inS_xor j _ _ h1 h2
  rw [← Nat.xor_assoc, Nat.xor_self, Nat.zero_xor] at this
  exact this
theorem inS_bit {v : Nat → Nat} {b : Nat} : ∀ (j x : Nat), (∀ i, i < j → (v i).testBit b = false) → inS v j x = true → x.testBit b = false := by
  intro j
  induction j with
  | zero =>
    intro x _ h
    simp only [inS, beq_iff_eq] at h
    rw [h, Nat.zero_testBit]
  | succ j ih =>
    intro x hv h
    simp only [inS, Bool.or_eq_true] at h
    rcases h with h | h
    · exact ih x (fun i hi => hv i (by omega)) h
    · have h1 := ih _ (fun i hi => hv i (by omega)) h
      rw [Nat.testBit_xor, hv j (by omega)] at h1
      simpa using h1
/-! the reference's elimination tells how many rows lie outside of the span of those ahead -/
def RI (rows : Nat) (T : Nat → Nat) (r : Nat) (U : Nat → Nat) : Prop :=
  (∀ q, q < rows → inS T r (U q ^^^ T q) = true) ∧
  (∀ q, q < r → U q = 0 ∨ ∃ b, (U q).testBit b = true ∧ ∀ q', q' < rows → ¬ q' = q → (U q').testBit b = false) ∧
  (∀ q, q < r → inS U r (T q) = true)
theorem ri_zero {rows : Nat} {T : Nat → Nat} {r : Nat} {U : Nat → Nat} (hr : r < rows) (h : RI rows T r U) : (U r = 0) ↔ inS T r (T r) = true := by
  obtain ⟨h1, h2, h3⟩ := h
  constructor
  · intro e
    have := h1 r hr
    rw [e, Nat.zero_xor] at this
    exact this
  · intro e
    have h4 : inS T r (U r) = true := by
      have := inS_xor r _ _ (h1 r hr) e
      rw [xor_cc] at this
      exact this
    have h5 : inS U r (U r) = true := inS_sub r _ h3 h4
    have key : ∀ (j x : Nat), j ≤ r → (∀ q, q < j → U q = 0 ∨ ∃ b, (U q).testBit b = true ∧ (∀ q', q' < rows → ¬ q' = q → (U q').testBit b = false) ∧ x.testBit b = false) → inS U j x = true → x = 0 := by
      intro j
      induction j with
      | zero =>
        intro x _ _ h
        simpa [inS] using h
      | succ j ih =>
        intro x hj hq h
        simp only [inS, Bool.or_eq_true] at h
        rcases h with h | h
        · exact ih x (by omega) (fun q hq' => hq q (by omega)) h
        · rcases hq j (by omega) with e0 | ⟨b, b1, b2, b3⟩
          · rw [e0, Nat.xor_zero] at h
            exact ih x (by omega) (fun q hq' => hq q (by omega)) h
          · have h6 := inS_bit j _ (fun i hi => b2 i (by omega) (by omega)) h
            rw [Nat.testBit_xor, b1, b3] at h6
            exact absurd h6 (by decide)
    refine key r (U r) (Nat.le_refl _) (fun q hq => ?_) h5
    rcases h2 q hq with e0 | ⟨b, b1, b2⟩
    · exact Or.inl e0
    · exact Or.inr ⟨b, b1, b2, b2 r hr (by omega)⟩
theorem ri_all {rows : Nat} {T : Nat → Nat} : ∀ r, r ≤ rows → RI rows T r (rkT rows T r) := by
  intro r
  induction r with
  | zero =>
    intro _
    refine ⟨fun q hq => ?_, fun q hq => by omega, fun q hq => by omega⟩
    simp only [rkT, inS]
    rw [Nat.xor_self]
    rfl
  | succ r ih =>
    intro hr
    obtain ⟨h1, h2, h3⟩ := ih (by omega)
    simp only [rkT]
    generalize rkT rows T r = U at h1 h2 h3 ⊢
    by_cases e : U r = 0
    · rw [if_pos e]
      refine ⟨fun q hq => inS_up (h1 q hq), ?_, ?_⟩
      · intro q hq
        by_cases e2 : q = r
        · rw [e2]; exact Or.inl e
        · exact h2 q (by omega)
      · intro q hq
        by_cases e2 : q = r
        · subst e2
          have h4 := h1 q (by omega)
          rw [e, Nat.zero_xor] at h4
          exact inS_up (inS_sub q _ h3 h4)
        · exact inS_up (h3 q (by omega))
    · rw [if_neg e]
      obtain ⟨b, b1, b2, b3⟩ := lwb_bit e
      have hel : ∀ q, elS U r rows q = if q < rows ∧ ¬ q = r ∧ (U q).testBit b = true then U q ^^^ U r else U q := by
        intro q
        unfold elS
        rw [b3]
        by_cases e3 : (U q).testBit b = true
        · have : ¬ U q &&& 2 ^ b = 0 := and_ne.mpr ⟨b, e3, by rw [p2_bit]; simp⟩
          by_cases e4 : q < rows ∧ ¬ q = r
          · rw [if_pos ⟨e4.1, e4.2, this⟩, if_pos ⟨e4.1, e4.2, e3⟩]
          · rw [if_neg (fun w => e4 ⟨w.1, w.2.1⟩), if_neg (fun w => e4 ⟨w.1, w.2.1⟩)]
        · have : U q &&& 2 ^ b = 0 := by
            apply Classical.byContradiction
            intro w
            obtain ⟨j, w1, w2⟩ := and_ne.mp w
            rw [p2_bit, decide_eq_true_eq] at w2
            rw [w2] at e3
            exact e3 w1
          rw [if_neg (fun w => w.2.2 this), if_neg (fun w => e3 w.2.2)]
      have hr1 : inS T (r + 1) (U r) = true := by
        have w1 := inS_up (h1 r (by omega))
        have w2 := inS_xor (r + 1) _ _ w1 (inS_self (v := T) (i := r) (j := r + 1) (by omega))
        rw [xor_cc] at w2
        exact w2
      have hrr : elS U r rows r = U r := by rw [hel, if_neg (by omega)]
      have hUU : ∀ q, q < r + 1 → inS (elS U r rows) (r + 1) (U q) = true := by
        intro q hq
        have w1 : inS (elS U r rows) (r + 1) (elS U r rows q) = true := inS_self hq
        have w2 : inS (elS U r rows) (r + 1) (U r) = true := by
          have := inS_self (v := elS U r rows) (i := r) (j := r + 1) (by omega)
          rw [hrr] at this
          exact this
        rw [hel] at w1
        split at w1
        · have := inS_xor (r + 1) _ _ w1 w2
          rw [xor_cc] at this
          exact this
        · exact w1
      refine ⟨?_, ?_, ?_⟩
      · intro q hq
        rw [hel]
        split
        · have := inS_xor (r + 1) _ _ (inS_up (h1 q hq)) hr1
          rw [xor_sw] at this
          exact this
        · exact inS_up (h1 q hq)
      · intro q hq
        by_cases e2 : q = r
        · subst e2
          right
          refine ⟨b, by rw [hrr]; exact b1, ?_⟩
          intro q' hq' hne
          rw [hel]
          split
          · rename_i w
            rw [Nat.testBit_xor, w.2.2, b1]
            rfl
          · rename_i w
            cases e5 : (U q').testBit b
            · rfl
            · exact absurd ⟨hq', hne, e5⟩ w
        · rcases h2 q (by omega) with e0 | ⟨c, c1, c2⟩
          · left
            rw [hel, if_neg, e0]
            rintro ⟨_, _, w⟩
            rw [e0, Nat.zero_testBit] at w
            exact absurd w (by decide)
          · right
            have hrc := c2 r (by omega) (by omega)
            refine ⟨c, ?_, ?_⟩
            · rw [hel]
              split
              · rw [Nat.testBit_xor, c1, hrc]; rfl
              · exact c1
            · intro q' hq' hne
              rw [hel]
              split
              · rw [Nat.testBit_xor, c2 q' hq' hne, hrc]; rfl
              · exact c2 q' hq' hne
      · intro q hq
        by_cases e2 : q = r
        · subst e2
          have w1 : inS (elS U q rows) (q + 1) (U q ^^^ T q) = true := inS_sub q _ (fun i hi => inS_sub q _ (fun i' hi' => hUU i' (by omega)) (h3 i hi)) (h1 q (by omega))
          exact inS_tr (hUU q (by omega)) w1
        · exact inS_sub r _ (fun i hi => hUU i (by omega)) (h3 q (by omega))
theorem rkC_eq {rows : Nat} {T : Nat → Nat} : ∀ r, r ≤ rows → rkC rows T r = cntN r (fun j => !inS T j (T j)) := by
  intro r
  induction r with
  | zero => intro _; rfl
  | succ r ih =>
    intro hr
    have h1 := ri_zero (by omega) (ri_all (rows := rows) (T := T) r (by omega))
    simp only [rkC, cntN]
    rw [ih (by omega)]
    by_cases e : rkT rows T r r = 0
    · rw [if_pos e, h1.mp e]; rfl
    · rw [if_neg e]
      cases e2 : inS T r (T r)
      · rfl
      · exact absurd (h1.mpr e2) e
/-! the class's elimination -/
def stF (T : Nat → Nat × Nat) : Nat → Nat → Nat → Bool × Nat × Nat × Nat
  | 0, l, m => (false, 0, l, m)
  | i + 1, l, m => if l = 0 then (false, 0, l, m) else if l.testBit i = true then (if (T i).1 = 0 then (true, i, l, m) else stF T i (l ^^^ (T i).1) (m ^^^ (T i).2)) else stF T i l m
def stT (T : Nat → Nat × Nat) (r : Bool × Nat × Nat × Nat) : Nat → Nat × Nat := fun i => if r.1 = true ∧ i = r.2.1 then (r.2.2.1, r.2.2.2) else T i
theorem stF_z {T : Nat → Nat × Nat} {i l m : Nat} (h : l = 0) : stF T i l m = (false, 0, l, m) := by
  cases i with
  | zero => rfl
  | succ i => simp only [stF]; rw [if_pos h]
theorem stF_new {T : Nat → Nat × Nat} {i l m : Nat} (hi : 0 < i) (h : ¬ l = 0) (hb : l.testBit (i - 1) = true) (hz : (T (i - 1)).1 = 0) : stF T i l m = (true, i - 1, l, m) := by
  obtain ⟨k, rfl⟩ : ∃ k, i = k + 1 := ⟨i - 1, by omega⟩
  rw [show k + 1 - 1 = k by omega] at hb hz ⊢
  simp only [stF]
  rw [if_neg h, if_pos hb, if_pos hz]
theorem stF_go {T : Nat → Nat × Nat} {i l m : Nat} (hi : 0 < i) (h : ¬ l = 0) (hb : l.testBit (i - 1) = true) (hz : ¬ (T (i - 1)).1 = 0) : stF T i l m = stF T (i - 1) (l ^^^ (T (i - 1)).1) (m ^^^ (T (i - 1)).2) := by
  obtain ⟨k, rfl⟩ : ∃ k, i = k + 1 := ⟨i - 1, by omega⟩
  rw [show k + 1 - 1 = k by omega] at hb hz ⊢
  rw [show stF T (k + 1) l m = if l = 0 then (false, 0, l, m) else if l.testBit k = true then (if (T k).1 = 0 then (true, k, l, m) else stF T k (l ^^^ (T k).1) (m ^^^ (T k).2)) else stF T k l m from rfl]
  rw [if_neg h, if_pos hb, if_neg hz]
theorem stF_no {T : Nat → Nat × Nat} {i l m : Nat} (hi : 0 < i) (h : ¬ l = 0) (hb : l.testBit (i - 1) = false) : stF T i l m = stF T (i - 1) l m := by
  obtain ⟨k, rfl⟩ : ∃ k, i = k + 1 := ⟨i - 1, by omega⟩
  rw [show k + 1 - 1 = k by omega] at hb ⊢
  rw [show stF T (k + 1) l m = if l = 0 then (false, 0, l, m) else if l.testBit k = true then (if (T k).1 = 0 then (true, k, l, m) else stF T k (l ^^^ (T k).1) (m ^^^ (T k).2)) else stF T k l m from rfl]
  rw [if_neg h, if_neg (by rw [hb]; decide)]
/-- heads: each has its own highest bit -/
def HA (H : Nat → Nat) : Prop := ∀ i, i < 35 → H i = 0 ∨ (H i < 2 ^ (i + 1) ∧ (H i).testBit i = true)
theorem lt_top {x i : Nat} (h : x < 2 ^ (i + 1)) (hb : x.testBit i = false) : x < 2 ^ i := by
  apply lt_of_bits
  intro j hj
  by_cases e : j = i
  · rw [e]; exact hb
  · exact Nat.testBit_lt_two_pow (Nat.lt_of_lt_of_le h (Nat.pow_le_pow_right (by decide) (by omega)))
theorem top_clear {x y i : Nat} (hx : x < 2 ^ (i + 1)) (hy : y < 2 ^ (i + 1)) (h1 : x.testBit i = true) (h2 : y.testBit i = true) : x ^^^ y < 2 ^ i := by
  apply lt_top (Nat.xor_lt_two_pow hx hy)
  rw [Nat.testBit_xor, h1, h2]
  rfl
theorem top_in {H : Nat → Nat} (hH : HA H) : ∀ (k x : Nat), k ≤ 35 → inS H k x = true → x < 2 ^ k ∧ (¬ x = 0 → ∃ i, i < k ∧ ¬ H i = 0 ∧ x.testBit i = true ∧ x < 2 ^ (i + 1)) := by
  intro k
  induction k with
  | zero =>
    intro x _ h
    simp only [inS, beq_iff_eq] at h
    rw [h]
    exact ⟨by decide, fun q => absurd rfl q⟩
  | succ k ih =>
    intro x hk h
    simp only [inS, Bool.or_eq_true] at h
    rcases h with h | h
    · obtain ⟨h1, h2⟩ := ih x (by omega) h
      refine ⟨Nat.lt_of_lt_of_le h1 (Nat.pow_le_pow_right (by decide) (by omega)), fun q => ?_⟩
      obtain ⟨i, i1, i2⟩ := h2 q
      exact ⟨i, by omega, i2⟩
    · obtain ⟨h1, h2⟩ := ih _ (by omega) h
      rcases hH k (by omega) with e | ⟨e1, e2⟩
      · rw [e, Nat.xor_zero] at h1 h2
        refine ⟨Nat.lt_of_lt_of_le h1 (Nat.pow_le_pow_right (by decide) (by omega)), fun q => ?_⟩
        obtain ⟨i, i1, i2⟩ := h2 q
        exact ⟨i, by omega, i2⟩
      · have h3 : x < 2 ^ (k + 1) := by
          have h4 : x = (x ^^^ H k) ^^^ H k := (xor_cc x (H k)).symm
          rw [h4]
          exact Nat.xor_lt_two_pow (Nat.lt_of_lt_of_le h1 (Nat.pow_le_pow_right (by decide) (by omega))) e1
        refine ⟨h3, fun _ => ⟨k, by omega, ?_, ?_, h3⟩⟩
        · intro e0
          rw [e0, Nat.zero_testBit] at e2
          exact absurd e2 (by decide)
        · have h5 := Nat.testBit_lt_two_pow h1
          rw [Nat.testBit_xor, e2] at h5
          cases e6 : x.testBit k
          · rw [e6] at h5; exact absurd h5 (by decide)
          · rfl
theorem st_ok {T : Nat → Nat × Nat} (hH : HA (fun i => (T i).1)) : ∀ (i l m : Nat), i ≤ 35 → l < 2 ^ i →
    ((stF T i l m).1 = true → (stF T i l m).2.1 < 35 ∧ (T (stF T i l m).2.1).1 = 0 ∧ (stF T i l m).2.2.1 < 2 ^ ((stF T i l m).2.1 + 1) ∧ (stF T i l m).2.2.1.testBit (stF T i l m).2.1 = true) ∧
    ((stF T i l m).1 = false → (stF T i l m).2.2.1 = 0) ∧ inS (fun i => (T i).1) 35 (l ^^^ (stF T i l m).2.2.1) = true := by
  intro i
  induction i with
  | zero =>
    intro l m _ hl
    have : l = 0 := by simpa using hl
    subst this
    refine ⟨fun q => Bool.noConfusion (q : false = true), fun _ => rfl, ?_⟩
    show inS (fun i => (T i).1) 35 (0 ^^^ 0) = true
    rw [Nat.xor_self]
    exact inS_zero _ _
  | succ i ih =>
    intro l m hi hl
    by_cases e0 : l = 0
    · rw [stF_z e0]
      refine ⟨fun q => Bool.noConfusion (q : false = true), fun _ => e0, ?_⟩
      rw [Nat.xor_self]
      exact inS_zero _ _
    · cases e1 : l.testBit i
      · rw [stF_no (by omega) e0 (by rw [show i + 1 - 1 = i by omega]; exact e1), show i + 1 - 1 = i by omega]
        exact ih l m (by omega) (lt_top hl e1)
      · by_cases e2 : (T i).1 = 0
        · rw [stF_new (by omega) e0 (by rw [show i + 1 - 1 = i by omega]; exact e1) (by rw [show i + 1 - 1 = i by omega]; exact e2), show i + 1 - 1 = i by omega]
          refine ⟨fun _ => ⟨by show i < 35; omega, e2, hl, e1⟩, fun q => Bool.noConfusion (q : true = false), ?_⟩
          rw [Nat.xor_self]
          exact inS_zero _ _
        · rw [stF_go (by omega) e0 (by rw [show i + 1 - 1 = i by omega]; exact e1) (by rw [show i + 1 - 1 = i by omega]; exact e2), show i + 1 - 1 = i by omega]
          rcases hH i (by omega) with w | ⟨w1, w2⟩
          · exact absurd w e2
          · have h3 := ih (l ^^^ (T i).1) (m ^^^ (T i).2) (by omega) (top_clear hl w1 e1 w2)
            refine ⟨h3.1, h3.2.1, ?_⟩
            have h4 := inS_xor 35 _ _ h3.2.2 (inS_self (v := fun i => (T i).1) (i := i) (j := 35) (by omega))
            rw [xor_sw, xor_cc] at h4
            exact h4
theorem st_new {T : Nat → Nat × Nat} (hH : HA (fun i => (T i).1)) {l m : Nat} (hl : l < 2 ^ 35) : (stF T 35 l m).1 = !inS (fun i => (T i).1) 35 l := by
  obtain ⟨h1, h2, h3⟩ := st_ok hH 35 l m (Nat.le_refl _) hl
  cases e : (stF T 35 l m).1
  · have h4 := h2 e
    rw [h4, Nat.xor_zero] at h3
    rw [h3]
    rfl
  · obtain ⟨a1, a2, a3, a4⟩ := h1 e
    cases e2 : inS (fun i => (T i).1) 35 l
    · rfl
    · have h5 := inS_tr e2 h3
      obtain ⟨-, h6⟩ := top_in hH 35 _ (Nat.le_refl _) h5
      obtain ⟨i, i1, i2, i3, i4⟩ := h6 (by intro q; rw [q, Nat.zero_testBit] at a4; exact absurd a4 (by decide))
      have h7 : i = (stF T 35 l m).2.1 := by
        rcases Nat.lt_trichotomy i (stF T 35 l m).2.1 with q | q | q
        · have := Nat.testBit_lt_two_pow (Nat.lt_of_lt_of_le i4 (Nat.pow_le_pow_right (by decide) (by omega : i + 1 ≤ (stF T 35 l m).2.1)))
          rw [a4] at this
          exact absurd this (by decide)
        · exact q
        · have := Nat.testBit_lt_two_pow (Nat.lt_of_lt_of_le a3 (Nat.pow_le_pow_right (by decide) (by omega : (stF T 35 l m).2.1 + 1 ≤ i)))
          rw [i3] at this
          exact absurd this (by decide)
      rw [h7] at i2
      exact absurd a2 i2
theorem stT_eq {T : Nat → Nat × Nat} {r : Bool × Nat × Nat × Nat} (h : r.1 = false) : stT T r = T := by
  funext i
  unfold stT
  rw [if_neg (by rw [h]; rintro ⟨q, -⟩; exact absurd q (by decide))]
theorem st_HA {T : Nat → Nat × Nat} (hH : HA (fun i => (T i).1)) {l m : Nat} (hl : l < 2 ^ 35) : HA (fun i => (stT T (stF T 35 l m) i).1) := by
  obtain ⟨h1, h2, h3⟩ := st_ok hH 35 l m (Nat.le_refl _) hl
  intro i hi
  show (stT T (stF T 35 l m) i).1 = 0 ∨ ((stT T (stF T 35 l m) i).1 < 2 ^ (i + 1) ∧ (stT T (stF T 35 l m) i).1.testBit i = true)
  unfold stT
  by_cases e : (stF T 35 l m).1 = true ∧ i = (stF T 35 l m).2.1
  · rw [if_pos e]
    obtain ⟨a1, a2, a3, a4⟩ := h1 e.1
    rw [e.2]
    exact Or.inr ⟨a3, a4⟩
  · rw [if_neg e]
    exact hH i hi
/-- the span grows by the row -/
theorem st_span {T : Nat → Nat × Nat} (hH : HA (fun i => (T i).1)) {l m : Nat} (hl : l < 2 ^ 35) : inS (fun i => (stT T (stF T 35 l m) i).1) 35 l = true ∧ ∀ i, i < 35 → inS (fun i => (stT T (stF T 35 l m) i).1) 35 (T i).1 = true := by
  obtain ⟨h1, h2, h3⟩ := st_ok hH 35 l m (Nat.le_refl _) hl
  have h4 : ∀ i, i < 35 → inS (fun i => (stT T (stF T 35 l m) i).1) 35 (T i).1 = true := by
    intro i hi
    have w := inS_self (v := fun i => (stT T (stF T 35 l m) i).1) (i := i) (j := 35) hi
    have e0 : (stT T (stF T 35 l m) i).1 = if (stF T 35 l m).1 = true ∧ i = (stF T 35 l m).2.1 then (stF T 35 l m).2.2.1 else (T i).1 := by
      unfold stT
      split <;> rfl
    rw [e0] at w
    split at w
    · rename_i e
      rw [e.2, (h1 e.1).2.1]
      exact inS_zero _ _
    · exact w
  refine ⟨?_, h4⟩
  have h5 := inS_sub 35 _ h4 h3
  cases e : (stF T 35 l m).1
  · rw [h2 e, Nat.xor_zero] at h5
    exact h5
  · have h6 : inS (fun i => (stT T (stF T 35 l m) i).1) 35 (stF T 35 l m).2.2.1 = true := by
      have w := inS_self (v := fun i => (stT T (stF T 35 l m) i).1) (i := (stF T 35 l m).2.1) (j := 35) (h1 e).1
      have e0 : (stT T (stF T 35 l m) (stF T 35 l m).2.1).1 = (stF T 35 l m).2.2.1 := by
        unfold stT
        rw [if_pos ⟨e, rfl⟩]
      rw [e0] at w
      exact w
    have := inS_xor 35 _ _ h5 h6
    rw [xor_cc] at this
    exact this
theorem st_in {T : Nat → Nat × Nat} (hH : HA (fun i => (T i).1)) {l m : Nat} (hl : l < 2 ^ 35) {w : Nat → Nat} {s : Nat} (hb : ∀ i, i < 35 → inS w s (T i).1 = true) (hw : inS w s l = true) : ∀ i, i < 35 → inS w s (stT T (stF T 35 l m) i).1 = true := by
  obtain ⟨h1, h2, h3⟩ := st_ok hH 35 l m (Nat.le_refl _) hl
  intro i hi
  unfold stT
  split
  · have h4 := inS_sub 35 _ hb h3
    exact inS_tr hw h4
  · exact hb i hi
/-! rows of the class -/
def col (t : Nat) : Nat := cntN t (fun u => popc u == popc t)
def crN (x : Nat) : Nat → Nat
  | 0 => 0
  | p + 1 => crN x p ||| (if x.testBit p = true then 2 ^ col (ndf x (2 ^ p)) else 0)
theorem col_lt {t : Nat} (ht : t < 128) : col t < 35 := by
  have h : ∀ t, t < 128 → cntN t (fun u => cntN 7 (fun i => u.testBit i) == cntN 7 (fun i => t.testBit i)) < 35 := by decide +kernel
  have h1 := h t ht
  unfold col
  rw [popc7 ht]
  rw [cntN_congr (q := fun u => cntN 7 (fun i => u.testBit i) == cntN 7 (fun i => t.testBit i)) (fun k hk => by rw [popc7 (by omega)])]
  exact h1
theorem crN_lt {x : Nat} (hx : x < 128) : ∀ p, crN x p < 2 ^ 35 := by
  intro p
  induction p with
  | zero => exact Nat.two_pow_pos 35
  | succ p ih =>
    simp only [crN]
    refine Nat.or_lt_two_pow ih ?_
    split
    · exact Nat.pow_lt_pow_right (by decide) (col_lt (by have := ndf_le x (2 ^ p); omega))
    · exact Nat.two_pow_pos 35
theorem crN_bit (x : Nat) (p b : Nat) : (crN x p).testBit b = anyN p (fun q => x.testBit q && decide (col (ndf x (2 ^ q)) = b)) := by
  induction p with
  | zero => simp [crN, anyN]
  | succ p ih =>
    simp only [crN, anyN]
    rw [Nat.testBit_or, ih]
    congr 1
    cases x.testBit p
    · simp
    · simp only [if_true, Bool.true_and]
      rw [p2_bit]
theorem rwN_bit (G : Nat → Bool) (k s p b : Nat) : (rwN G k s p).testBit b = anyN p (fun q => s.testBit q && decide (cntN (ndf s (2 ^ q)) (alQ G k) = b)) := by
  induction p with
  | zero => simp [rwN, anyN]
  | succ p ih =>
    simp only [rwN, anyN]
    rw [Nat.testBit_or, ih]
    congr 1
    cases s.testBit p
    · simp
    · simp only [if_true, Bool.true_and]
      rw [p2_bit]
theorem cnt_inj {q : Nat → Bool} {t u : Nat} (ht : q t = true) (hu : q u = true) (h : cntN t q = cntN u q) : t = u := by
  rcases Nat.lt_trichotomy t u with e | e | e
  · have h1 := cntN_mono (p := q) (m := t + 1) (n := u) (by omega)
    rw [cntN_t ht] at h1
    omega
  · exact e
  · have h1 := cntN_mono (p := q) (m := u + 1) (n := t) (by omega)
    rw [cntN_t hu] at h1
    omega
theorem col_inj {t u : Nat} (h : popc t = popc u) (hc : col t = col u) : t = u := by
  unfold col at hc
  rw [← h] at hc
  exact cnt_inj (q := fun v => popc v == popc t) (by simp) (by simp [h]) hc
/-- the same row by two ways of numbering columns -/
def Rel (G : Nat → Bool) (k x y : Nat) : Prop := (∀ t, t < 128 → alQ G k t = true → x.testBit (col t) = y.testBit (cntN t (alQ G k))) ∧ (∀ b, x.testBit b = true → ∃ t, t < 128 ∧ alQ G k t = true ∧ col t = b) ∧ ∀ b, y.testBit b = true → ∃ t, t < 128 ∧ alQ G k t = true ∧ cntN t (alQ G k) = b
theorem rel_zero (G : Nat → Bool) (k : Nat) : Rel G k 0 0 := ⟨fun t _ _ => by rw [Nat.zero_testBit, Nat.zero_testBit], fun b h => by rw [Nat.zero_testBit] at h; exact absurd h (by decide), fun b h => by rw [Nat.zero_testBit] at h; exact absurd h (by decide)⟩
theorem rel_xor {G : Nat → Bool} {k x y x' y' : Nat} (h : Rel G k x y) (h' : Rel G k x' y') : Rel G k (x ^^^ x') (y ^^^ y') := by
  refine ⟨fun t ht hq => ?_, fun b hb => ?_, fun b hb => ?_⟩
  · rw [Nat.testBit_xor, Nat.testBit_xor, h.1 t ht hq, h'.1 t ht hq]
  · rw [Nat.testBit_xor] at hb
    cases e : x.testBit b
    · rw [e] at hb
      exact h'.2.1 b (by simpa using hb)
    · exact h.2.1 b e
  · rw [Nat.testBit_xor] at hb
    cases e : y.testBit b
    · rw [e] at hb
      exact h'.2.2 b (by simpa using hb)
    · exact h.2.2 b e
theorem rel_z {G : Nat → Bool} {k x y : Nat} (h : Rel G k x y) : (x == 0) = (y == 0) := by
  apply beqB
  rw [beq_iff_eq, beq_iff_eq]
  constructor
  · intro e
    apply Classical.byContradiction
    intro hy
    obtain ⟨b, hb⟩ := ne_bit hy
    obtain ⟨t, t1, t2, t3⟩ := h.2.2 b hb
    have := h.1 t t1 t2
    rw [e, Nat.zero_testBit, t3, hb] at this
    exact absurd this (by decide)
  · intro e
    apply Classical.byContradiction
    intro hx
    obtain ⟨b, hb⟩ := ne_bit hx
    obtain ⟨t, t1, t2, t3⟩ := h.2.1 b hb
    have := h.1 t t1 t2
    rw [e, Nat.zero_testBit, t3, hb] at this
    exact absurd this (by decide)
theorem rel_inS {G : Nat → Bool} {k : Nat} {v w : Nat → Nat} : ∀ (j x y : Nat), (∀ i, i < j → Rel G k (v i) (w i)) → Rel G k x y → inS v j x = inS w j y := by
  intro j
  induction j with
  | zero => intro x y _ h; exact rel_z h
  | succ j ih =>
    intro x y hv h
    simp only [inS]
    rw [ih x y (fun i hi => hv i (by omega)) h, ih _ _ (fun i hi => hv i (by omega)) (rel_xor h (hv j (by omega)))]
theorem rel_row {G : Nat → Bool} (hcl : Cl G) {k s : Nat} (hs : s < 128) (hq : nmQ G k s = true) : Rel G k (crN s 7) (rwN G k s 7) := by
  unfold nmQ at hq
  rw [Bool.and_eq_true, beq_iff_eq] at hq
  have hal : ∀ q, s.testBit q = true → ndf s (2 ^ q) < 128 ∧ alQ G k (ndf s (2 ^ q)) = true := by
    intro q hb
    refine ⟨by have := ndf_le s (2 ^ q); omega, ?_⟩
    unfold alQ
    rw [hcl s q hs hq.1 hb, Bool.true_and, beq_iff_eq, popc_rem' hb, hq.2]
  have hpc : ∀ t u, alQ G k t = true → alQ G k u = true → popc t = popc u := by
    intro t u h1 h2
    unfold alQ at h1 h2
    rw [Bool.and_eq_true, beq_iff_eq] at h1 h2
    omega
  refine ⟨fun t ht htq => ?_, fun b hb => ?_, fun b hb => ?_⟩
  · rw [crN_bit, rwN_bit]
    refine anyN_congr (fun q _ => ?_)
    cases e : s.testBit q
    · rfl
    · obtain ⟨a1, a2⟩ := hal q e
      congr 1
      apply beqB
      rw [decide_eq_true_eq, decide_eq_true_eq]
      constructor
      · intro h; rw [col_inj (hpc _ _ a2 htq) h]
      · intro h; rw [cnt_inj a2 htq h]
  · rw [crN_bit] at hb
    obtain ⟨q, q1, q2⟩ := anyN_iff.mp hb
    rw [Bool.and_eq_true, decide_eq_true_eq] at q2
    exact ⟨_, (hal q q2.1).1, (hal q q2.1).2, q2.2⟩
  · rw [rwN_bit] at hb
    obtain ⟨q, q1, q2⟩ := anyN_iff.mp hb
    rw [Bool.and_eq_true, decide_eq_true_eq] at q2
    exact ⟨_, (hal q q2.1).1, (hal q q2.1).2, q2.2⟩
/-- rows where they are, and nothing between -/
theorem inS_sparse {q : Nat → Bool} {w v : Nat → Nat} {N : Nat} (hw : ∀ s, s < N → q s = false → w s = 0) (hv : ∀ s, s < N → q s = true → v (cntN s q) = w s) : ∀ (s x : Nat), s ≤ N → inS v (cntN s q) x = inS w s x := by
  intro s
  induction s with
  | zero => intro x _; rfl
  | succ s ih =>
    intro x hs
    cases e : q s
    · rw [cntN_f e]
      simp only [inS]
      rw [hw s (by omega) e, Nat.xor_zero, ih x (by omega), Bool.or_self]
    · rw [cntN_t e]
      simp only [inS]
      rw [hv s (by omega) e, ih _ (by omega), ih _ (by omega)]
theorem cnt_sparse {q : Nat → Bool} {w v : Nat → Nat} {N : Nat} (hw : ∀ s, s < N → q s = false → w s = 0) (hv : ∀ s, s < N → q s = true → v (cntN s q) = w s) : ∀ s, s ≤ N → cntN (cntN s q) (fun j => !inS v j (v j)) = cntN s (fun s => q s && !inS w s (w s)) := by
  intro s
  induction s with
  | zero => intro _; rfl
  | succ s ih =>
    intro hs
    cases e : q s
    · rw [cntN_f e, cntN_f (by rw [e]; rfl), ih (by omega)]
    · rw [cntN_t e]
      simp only [cntN]
      rw [ih (by omega), hv s (by omega) e, inS_sparse hw hv s _ (by omega), e]
      rfl
def rkS (G : Nat → Bool) (k : Nat) : Nat → (Nat → Nat × Nat) × Nat
  | 0 => (fun _ => (0, 0), 0)
  | s + 1 => if nmQ G k s = true then (stT (rkS G k s).1 (stF (rkS G k s).1 35 (crN s 7) 0), (rkS G k s).2 + (stF (rkS G k s).1 35 (crN s 7) 0).1.toNat) else rkS G k s
theorem rkS_t {G : Nat → Bool} {k s : Nat} (h : nmQ G k s = true) : rkS G k (s + 1) = (stT (rkS G k s).1 (stF (rkS G k s).1 35 (crN s 7) 0), (rkS G k s).2 + (stF (rkS G k s).1 35 (crN s 7) 0).1.toNat) := by
  rw [rkS, if_pos h]
theorem rkS_f {G : Nat → Bool} {k s : Nat} (h : nmQ G k s = false) : rkS G k (s + 1) = rkS G k s := by
  rw [rkS, if_neg (by rw [h]; decide)]
def wcN (G : Nat → Bool) (k s : Nat) : Nat := if nmQ G k s = true then crN s 7 else 0
theorem rkS_ok (G : Nat → Bool) (k : Nat) : ∀ s, s ≤ 128 → HA (fun i => ((rkS G k s).1 i).1) ∧ (∀ i, i < 35 → inS (wcN G k) s ((rkS G k s).1 i).1 = true) ∧ (∀ t, t < s → inS (fun i => ((rkS G k s).1 i).1) 35 (wcN G k t) = true) ∧ (rkS G k s).2 = cntN s (fun s => nmQ G k s && !inS (wcN G k) s (wcN G k s)) := by
  intro s
  induction s with
  | zero =>
    intro _
    exact ⟨fun i _ => Or.inl rfl, fun i _ => rfl, fun t ht => absurd ht (Nat.not_lt_zero _), rfl⟩
  | succ s ih =>
    intro hs
    obtain ⟨h1, h2, h3, h4⟩ := ih (by omega)
    cases e : nmQ G k s
    · rw [rkS_f e, cntN_f (by rw [e]; rfl)]
      refine ⟨h1, fun i hi => inS_up (h2 i hi), ?_, h4⟩
      intro t ht
      by_cases e2 : t = s
      · rw [e2]
        unfold wcN
        rw [if_neg (by rw [e]; decide)]
        exact inS_zero _ _
      · exact h3 t (by omega)
    · have hl : crN s 7 < 2 ^ 35 := crN_lt (by omega) 7
      have hw : wcN G k s = crN s 7 := by unfold wcN; rw [if_pos e]
      have hsp := st_span h1 (m := 0) hl
      have hin : inS (fun i => ((rkS G k s).1 i).1) 35 (crN s 7) = inS (wcN G k) s (crN s 7) := by
        apply beqB
        exact ⟨fun q => inS_sub 35 _ h2 q, fun q => inS_sub s _ h3 q⟩
      rw [rkS_t e]
      refine ⟨st_HA h1 hl, ?_, ?_, ?_⟩
      · exact st_in h1 hl (fun i hi => inS_up (h2 i hi)) (by rw [← hw]; exact inS_self (by omega))
      · intro t ht
        by_cases e2 : t = s
        · rw [e2, hw]; exact hsp.1
        · exact inS_sub 35 _ hsp.2 (h3 t (by omega))
      · show (rkS G k s).2 + (stF (rkS G k s).1 35 (crN s 7) 0).1.toNat = _
        simp only [cntN]
        rw [h4, e, Bool.true_and, hw, ← hin, st_new h1 hl]
theorem rkS_le (G : Nat → Bool) (k s : Nat) (hs : s ≤ 128) : (rkS G k s).2 ≤ s := by
  rw [(rkS_ok G k s hs).2.2.2]
  exact cntN_le _ _
theorem rk_eq {G : Nat → Bool} (hcl : Cl G) {k L : Nat} (hk : ¬ k = 0) (hL : L < 128) (hout : ∀ s, L < s → s < 128 → G s = false) : (rkS G k (L + 1)).2 = rkN G k := by
  have h1 : (rkS G k (L + 1)).2 = cntN 128 (fun s => nmQ G k s && !inS (wcN G k) s (wcN G k s)) := by
    rw [(rkS_ok G k (L + 1) (by omega)).2.2.2]
    symm
    refine cntN_beyond (by omega) (fun s h1 h2 => ?_)
    unfold nmQ
    rw [hout s (by omega) h2]
    rfl
  rw [h1]
  unfold rkN
  rw [if_neg hk, rkC_eq _ (Nat.le_refl _)]
  have hw : ∀ s, s < 128 → nmQ G k s = false → (fun s => if nmQ G k s = true then rwN G k s 7 else 0) s = 0 := by
    intro s _ e
    show (if nmQ G k s = true then rwN G k s 7 else 0) = 0
    rw [if_neg (by rw [e]; decide)]
  have hv : ∀ s, s < 128 → nmQ G k s = true → rkV G k (cntN s (nmQ G k)) = (fun s => if nmQ G k s = true then rwN G k s 7 else 0) s := by
    intro s hs e
    show rkV G k (cntN s (nmQ G k)) = (if nmQ G k s = true then rwN G k s 7 else 0)
    unfold rkV
    rw [nthN_hit e rfl hs, Int.toNat_natCast, if_pos e]
  rw [cnt_sparse hw hv 128 (Nat.le_refl _)]
  have hrel : ∀ s, s < 128 → Rel G k (wcN G k s) ((fun s => if nmQ G k s = true then rwN G k s 7 else 0) s) := by
    intro s hs
    show Rel G k (wcN G k s) (if nmQ G k s = true then rwN G k s 7 else 0)
    unfold wcN
    cases e : nmQ G k s
    · exact rel_zero G k
    · exact rel_row hcl hs e
  exact cntN_congr (fun s hs => by rw [rel_inS s _ _ (fun i hi => hrel i (by omega)) (hrel s hs)])
