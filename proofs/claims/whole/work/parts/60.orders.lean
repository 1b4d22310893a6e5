/-! all orders: counted from the front and from the back -/
theorem smN_add (n : Nat) (f g : Nat → Nat) : smN n (fun k => f k + g k) = smN n f + smN n g := by
  induction n with
  | zero => rfl
  | succ n ih => simp only [smN]; rw [ih]; omega
theorem smN_swap (m n : Nat) (f : Nat → Nat → Nat) : smN m (fun k => smN n (fun l => f k l)) = smN n (fun l => smN m (fun k => f k l)) := by
  induction m with
  | zero =>
    simp only [smN]
    exact (smN_zero (fun k _ => rfl)).symm
  | succ m ih =>
    simp only [smN]
    rw [ih, ← smN_add]
theorem smN_if (n : Nat) (c : Prop) [Decidable c] (f : Nat → Nat) : (if c then smN n f else 0) = smN n (fun l => if c then f l else 0) := by
  by_cases h : c
  · rw [if_pos h]
    exact smN_congr (fun k _ => by rw [if_pos h])
  · rw [if_neg h, smN_zero]
    intro k _
    rw [if_neg h]
theorem smN_ge {n : Nat} {f : Nat → Nat} {k : Nat} (hk : k < n) : f k ≤ smN n f := by
  induction n with
  | zero => omega
  | succ n ih =>
    simp only [smN]
    by_cases e : k = n
    · subst e; omega
    · have := ih (by omega); omega
theorem smN_mono {n : Nat} {f g : Nat → Nat} (h : ∀ k, k < n → f k ≤ g k) : smN n f ≤ smN n g := by
  induction n with
  | zero => exact Nat.le_refl _
  | succ n ih =>
    simp only [smN]
    have h1 := ih (fun k hk => h k (by omega))
    have h2 := h n (by omega)
    omega
theorem smN_one {n : Nat} {f g : Nat → Nat} {j : Nat} (hj : j < n) (h : ∀ k, k < n → ¬ k = j → f k = g k) : smN n g + f j = smN n f + g j := by
  induction n with
  | zero => omega
  | succ n ih =>
    simp only [smN]
    by_cases e : j = n
    · subst e
      rw [smN_congr (n := j) (f := g) (g := f) (fun k hk => (h k (by omega) (by omega)).symm)]
      omega
    · have h1 := ih (by omega) (fun k hk => h k (by omega))
      have h2 := h n (by omega) (fun q => e q.symm)
      omega
theorem smN_sparse {q : Nat → Bool} {f g : Nat → Nat} {N : Nat} (hf : ∀ k, k < N → q k = false → f k = 0) (hg : ∀ k, k < N → q k = true → g (cntN k q) = f k) : ∀ s, s ≤ N → smN (cntN s q) g = smN s f := by
  intro s
  induction s with
  | zero => intro _; rfl
  | succ s ih =>
    intro hs
    cases e : q s
    · rw [cntN_f e]
      simp only [smN]
      rw [ih (by omega), hf s (by omega) e]
      rfl
    · rw [cntN_t e]
      simp only [smN]
      rw [ih (by omega), hg s (by omega) e]
theorem rem_bit (t k i : Nat) : (ndf t (2 ^ k)).testBit i = (t.testBit i && !decide (k = i)) := by rw [ndf_bit, p2_bit]
theorem ins_bit (s l i : Nat) : (s ||| 2 ^ l).testBit i = (s.testBit i || decide (l = i)) := by rw [Nat.testBit_or, p2_bit]
def pA (G : Nat → Nat) (n : Nat) : Nat → Nat → Nat → Nat
  | 0, _, _ => 1
  | c + 1, s, t => smN n (fun k => if t.testBit k = true ∧ s.testBit k = false ∧ jnS G k (ndf t (2 ^ k)) = true then pA G n c s (ndf t (2 ^ k)) else 0)
def pB (G : Nat → Nat) (n : Nat) : Nat → Nat → Nat → Nat
  | 0, _, _ => 1
  | c + 1, s, t => smN n (fun l => if t.testBit l = true ∧ s.testBit l = false ∧ jnS G l s = true then pB G n c (s ||| 2 ^ l) t else 0)
theorem sub_rem {s t k : Nat} (h : sbs s t = true) (hs : s.testBit k = false) : sbs s (ndf t (2 ^ k)) = true := by
  rw [sbs_iff]
  intro i hi
  rw [rem_bit, sbs_iff.mp h i hi, Bool.true_and, Bool.not_eq_true', decide_eq_false_iff_not]
  intro e
  rw [e, hi] at hs
  exact absurd hs (by decide)
theorem sub_ins {s t l : Nat} (h : sbs s t = true) (ht : t.testBit l = true) : sbs (s ||| 2 ^ l) t = true := by
  rw [sbs_iff]
  intro i hi
  rw [ins_bit, Bool.or_eq_true, decide_eq_true_eq] at hi
  rcases hi with hi | hi
  · exact sbs_iff.mp h i hi
  · rw [← hi]; exact ht
theorem pAB (G : Nat → Nat) (n : Nat) : ∀ c, (∀ s t, sbs s t = true → popc t = popc s + c → pA G n c s t = pB G n c s t) ∧ (∀ s t, sbs s t = true → popc t = popc s + (c + 1) → pA G n (c + 1) s t = pB G n (c + 1) s t) := by
  intro c
  induction c with
  | zero =>
    refine ⟨fun s t _ _ => rfl, ?_⟩
    intro s t hst hp
    simp only [pA, pB]
    refine smN_congr (fun k _ => ?_)
    by_cases e : t.testBit k = true ∧ s.testBit k = false
    · have h1 : s = ndf t (2 ^ k) := sbs_eq (sub_rem hst e.2) (by have := popc_rem' e.1; omega)
      rw [← h1]
    · rw [if_neg (fun q => e ⟨q.1, q.2.1⟩), if_neg (fun q => e ⟨q.1, q.2.1⟩)]
  | succ c ih =>
    obtain ⟨q0, q1⟩ := ih
    refine ⟨q1, ?_⟩
    intro s t hst hp
    have hA : pA G n (c + 1 + 1) s t = smN n (fun k => smN n (fun l => if t.testBit k = true ∧ s.testBit k = false ∧ jnS G k (ndf t (2 ^ k)) = true then (if (ndf t (2 ^ k)).testBit l = true ∧ s.testBit l = false ∧ jnS G l s = true then pA G n c (s ||| 2 ^ l) (ndf t (2 ^ k)) else 0) else 0)) := by
      rw [pA]
      refine smN_congr (fun k _ => ?_)
      rw [← smN_if]
      by_cases e : t.testBit k = true ∧ s.testBit k = false ∧ jnS G k (ndf t (2 ^ k)) = true
      · rw [if_pos e, if_pos e]
        have hr := popc_rem' e.1
        rw [q1 s _ (sub_rem hst e.2.1) (by omega), pB]
        refine smN_congr (fun l _ => ?_)
        by_cases e2 : (ndf t (2 ^ k)).testBit l = true ∧ s.testBit l = false ∧ jnS G l s = true
        · rw [if_pos e2, if_pos e2]
          exact (q0 _ _ (sub_ins (sub_rem hst e.2.1) e2.1) (by have := popc_add e2.2.1; omega)).symm
        · rw [if_neg e2, if_neg e2]
      · rw [if_neg e, if_neg e]
    have hB : pB G n (c + 1 + 1) s t = smN n (fun l => smN n (fun k => if t.testBit l = true ∧ s.testBit l = false ∧ jnS G l s = true then (if t.testBit k = true ∧ (s ||| 2 ^ l).testBit k = false ∧ jnS G k (ndf t (2 ^ k)) = true then pA G n c (s ||| 2 ^ l) (ndf t (2 ^ k)) else 0) else 0)) := by
      rw [pB]
      refine smN_congr (fun l _ => ?_)
      rw [← smN_if]
      by_cases e : t.testBit l = true ∧ s.testBit l = false ∧ jnS G l s = true
      · rw [if_pos e, if_pos e]
        rw [← q1 _ _ (sub_ins hst e.1) (by have := popc_add e.2.1; omega), pA]
      · rw [if_neg e, if_neg e]
    rw [hA, hB, smN_swap]
    refine smN_congr (fun l _ => smN_congr (fun k _ => ?_))
    rw [rem_bit, ins_bit]
    by_cases e : k = l
    · subst e
      simp
    · have e1 : decide (k = l) = false := decide_eq_false e
      have e2 : decide (l = k) = false := decide_eq_false (fun q => e q.symm)
      rw [e1, e2]
      simp only [Bool.not_false, Bool.and_true, Bool.or_false]
      by_cases a : t.testBit k = true ∧ s.testBit k = false ∧ jnS G k (ndf t (2 ^ k)) = true
      · rw [if_pos a]
        by_cases b : t.testBit l = true ∧ s.testBit l = false ∧ jnS G l s = true
        · rw [if_pos b, if_pos b, if_pos a]
        · rw [if_neg b, if_neg b]
      · rw [if_neg a]
        by_cases b : t.testBit l = true ∧ s.testBit l = false ∧ jnS G l s = true
        · rw [if_pos b, if_neg a]
        · rw [if_neg b]
theorem wto_A (G : Nat → Nat) (n : Nat) : ∀ c t, popc t = c → wto G n t = pA G n c 0 t := by
  intro c
  induction c with
  | zero =>
    intro t ht
    rw [popc_z.mp ht, wto, if_pos rfl]
    rfl
  | succ c ih =>
    intro t ht
    have h0 : ¬ t = 0 := by intro e; rw [e, popc_zero] at ht; omega
    rw [wto_eq, if_neg h0, Nat.zero_add, pA]
    refine smN_congr (fun k _ => ?_)
    unfold wtF
    rw [Nat.zero_testBit]
    by_cases e : t.testBit k = true ∧ jnS G k (ndf t (2 ^ k)) = true
    · rw [if_pos e, if_pos ⟨e.1, rfl, e.2⟩]
      exact ih _ (by have := popc_rem' e.1; omega)
    · rw [if_neg e, if_neg (fun q => e ⟨q.1, q.2.2⟩)]
theorem won_B (G : Nat → Nat) (n : Nat) : ∀ c s, s < 2 ^ n → popc s + c = n → won G n s = pB G n c s (2 ^ n - 1) := by
  intro c
  induction c with
  | zero =>
    intro s hs hp
    have h1 : s = 2 ^ n - 1 := sbs_eq (sbs_iff.mpr (fun i hi => by rw [all_bit]; exact decide_eq_true (bit_lt hs hi))) (by rw [popc_all]; omega)
    rw [won_eq hs, if_pos h1, smN_zero]
    · rfl
    · intro k hk
      unfold wnF
      rw [if_neg]
      rintro ⟨q, -⟩
      rw [h1, all_bit, decide_eq_false_iff_not] at q
      exact q hk
  | succ c ih =>
    intro s hs hp
    have h1 : ¬ s = 2 ^ n - 1 := by
      intro e
      rw [e, popc_all] at hp
      omega
    rw [won_eq hs, if_neg h1, Nat.zero_add, pB]
    refine smN_congr (fun k hk => ?_)
    unfold wnF
    rw [all_bit, decide_eq_true hk]
    by_cases e : s.testBit k = false ∧ jnS G k s = true
    · rw [if_pos e, if_pos ⟨rfl, e⟩]
      exact ih _ (or_bit_lt hs hk) (by have := popc_add e.1; omega)
    · rw [if_neg e, if_neg (fun q => e q.2)]
theorem wto_all (G : Nat → Nat) (n : Nat) : wto G n (2 ^ n - 1) = won G n 0 := by
  rw [wto_A G n n _ (popc_all n), won_B G n n 0 (Nat.two_pow_pos n) (by rw [popc_zero]; omega)]
  refine (pAB G n n).1 0 _ (sbs_iff.mpr (fun i hi => by rw [Nat.zero_testBit] at hi; exact absurd hi (by decide))) (by rw [popc_all, popc_zero]; omega)
theorem ins_rem {s k : Nat} (h : s.testBit k = false) : ndf (s ||| 2 ^ k) (2 ^ k) = s := by
  apply Nat.eq_of_testBit_eq
  intro i
  rw [rem_bit, ins_bit]
  by_cases e : k = i
  · subst e; simp [h]
  · simp [e]
theorem wto_next {G : Nat → Nat} {n s k : Nat} (hk : k < n) (hs : s.testBit k = false) (hj : jnS G k s = true) (hw : ¬ wto G n s = 0) : ¬ wto G n (s ||| 2 ^ k) = 0 := by
  rw [wto_eq]
  have h1 : wtF G n (s ||| 2 ^ k) k = wto G n s := by
    unfold wtF
    rw [ins_rem hs, if_pos ⟨by rw [ins_bit]; simp, hj⟩]
  have h2 := smN_ge (f := wtF G n (s ||| 2 ^ k)) hk
  omega
theorem wto_0 (G : Nat → Nat) (n : Nat) : wto G n 0 = 1 := by rw [wto, if_pos rfl]
theorem won_all (G : Nat → Nat) (n : Nat) : won G n (2 ^ n - 1) = 1 := by
  have := won_B G n 0 (2 ^ n - 1) (by have := Nat.two_pow_pos n; omega) (by rw [popc_all]; omega)
  rw [this]
  rfl
/-! what the class's tables hold -/
def rdyM (F : Nat → Nat) (n s : Nat) : Nat := if wto F n s = 0 then 0 else mskN n (fun i => !s.testBit i && jnS F i s)
def onw (F : Nat → Nat) (n s : Nat) : Nat := if wto F n s = 0 then 0 else won F n s
theorem rdyM31 {F : Nat → Nat} {n s : Nat} (hn : n ≤ 12) : rdyM F n s < 2147483648 := by
  unfold rdyM
  split
  · decide
  · exact mskN_31 (by omega)
theorem onw31 (F : Nat → Nat) {n : Nat} (hn : n ≤ 12) (s : Nat) : onw F n s < 2147483648 := by
  unfold onw
  split
  · decide
  · exact won31 F hn s
theorem rdyM_bit {F : Nat → Nat} {n s i : Nat} : (rdyM F n s).testBit i = (decide (¬ wto F n s = 0) && (decide (i < n) && (!s.testBit i && jnS F i s))) := by
  unfold rdyM
  split
  · rename_i h
    rw [Nat.zero_testBit, decide_eq_false (fun q => q h)]
    rfl
  · rename_i h
    rw [mskN_bit, decide_eq_true h, Bool.true_and]
theorem onw_sum {F : Nat → Nat} {n s : Nat} (hs : s < 2 ^ n) (hne : ¬ s = 2 ^ n - 1) : smN n (fun i => if (rdyM F n s).testBit i = true then onw F n (s ||| 2 ^ i) else 0) = onw F n s := by
  unfold onw
  by_cases h : wto F n s = 0
  · rw [if_pos h, smN_zero]
    intro k _
    rw [rdyM_bit, decide_eq_false (fun q => q h)]
    rfl
  · rw [if_neg h, won_eq hs, if_neg hne, Nat.zero_add]
    refine smN_congr (fun k hk => ?_)
    unfold wnF
    rw [rdyM_bit, decide_eq_true h, decide_eq_true hk, Bool.true_and, Bool.true_and]
    cases e1 : s.testBit k
    · cases e2 : jnS F k s
      · rfl
      · have := wto_next hk e1 e2 h
        simp [this]
    · rfl
/-- ways as they come in, behind the sets below s and the facets below j at s -/
def wpT (F : Nat → Nat) (n s j t : Nat) : Nat → Nat := fun k => if t.testBit k = true ∧ jnS F k (ndf t (2 ^ k)) = true ∧ (ndf t (2 ^ k) < s ∨ (ndf t (2 ^ k) = s ∧ k < j)) then wto F n (ndf t (2 ^ k)) else 0
def wpS (F : Nat → Nat) (n s j t : Nat) : Nat := (if t = 0 then 1 else 0) + smN n (wpT F n s j t)
theorem wpS_le (F : Nat → Nat) (n s j t : Nat) : wpS F n s j t ≤ wto F n t := by
  rw [wto_eq]
  unfold wpS
  have : smN n (wpT F n s j t) ≤ smN n (wtF F n t) := by
    refine smN_mono (fun k _ => ?_)
    unfold wpT wtF
    by_cases e : t.testBit k = true ∧ jnS F k (ndf t (2 ^ k)) = true
    · rw [if_pos e]
      split
      · exact Nat.le_refl _
      · exact Nat.zero_le _
    · rw [if_neg e, if_neg (fun q => e ⟨q.1, q.2.1⟩)]
      exact Nat.le_refl _
  omega
theorem wpS_done {F : Nat → Nat} {n s j t : Nat} (h : t ≤ s) : wpS F n s j t = wto F n t := by
  rw [wto_eq]
  unfold wpS
  congr 1
  refine smN_congr (fun k _ => ?_)
  unfold wpT wtF
  by_cases e : t.testBit k = true ∧ jnS F k (ndf t (2 ^ k)) = true
  · rw [if_pos e, if_pos ⟨e.1, e.2, Or.inl (by have := ndf_bit_lt e.1; omega)⟩]
  · rw [if_neg e, if_neg (fun q => e ⟨q.1, q.2.1⟩)]
theorem wpS_00 (F : Nat → Nat) (n t : Nat) : wpS F n 0 0 t = if t = 0 then 1 else 0 := by
  unfold wpS
  rw [smN_zero]
  · rfl
  · intro k _
    unfold wpT
    rw [if_neg (by omega)]
theorem wpS_up (F : Nat → Nat) (n s t : Nat) : wpS F n s n t = wpS F n (s + 1) 0 t := by
  unfold wpS
  congr 1
  refine smN_congr (fun k hk => ?_)
  unfold wpT
  by_cases e : t.testBit k = true ∧ jnS F k (ndf t (2 ^ k)) = true
  · by_cases e2 : ndf t (2 ^ k) < s + 1
    · rw [if_pos ⟨e.1, e.2, by omega⟩, if_pos ⟨e.1, e.2, Or.inl e2⟩]
    · rw [if_neg (fun q => by omega), if_neg (fun q => by omega)]
  · rw [if_neg (fun q => e ⟨q.1, q.2.1⟩), if_neg (fun q => e ⟨q.1, q.2.1⟩)]
theorem wpS_skip {F : Nat → Nat} {n s j t : Nat} (h : s.testBit j = true ∨ jnS F j s = false) : wpS F n s (j + 1) t = wpS F n s j t := by
  unfold wpS
  congr 1
  refine smN_congr (fun k _ => ?_)
  unfold wpT
  by_cases e : k = j ∧ t.testBit k = true ∧ ndf t (2 ^ k) = s
  · obtain ⟨rfl, e1, e2⟩ := e
    have e3 : ¬ jnS F k s = true := by
      rcases h with h | h
      · rw [← e2, rem_bit] at h
        simp at h
      · rw [h]; decide
    rw [if_neg (fun q => e3 (by rw [← e2]; exact q.2.1)), if_neg (fun q => e3 (by rw [← e2]; exact q.2.1))]
  · by_cases a : t.testBit k = true ∧ jnS F k (ndf t (2 ^ k)) = true
    · by_cases b : ndf t (2 ^ k) < s ∨ (ndf t (2 ^ k) = s ∧ k < j)
      · rw [if_pos ⟨a.1, a.2, by omega⟩, if_pos ⟨a.1, a.2, b⟩]
      · rw [if_neg, if_neg (fun q => b q.2.2)]
        rintro ⟨q1, q2, q3⟩
        by_cases c : k = j
        · exact e ⟨c, q1, by omega⟩
        · omega
    · rw [if_neg (fun q => a ⟨q.1, q.2.1⟩), if_neg (fun q => a ⟨q.1, q.2.1⟩)]
theorem wpS_other {F : Nat → Nat} {n s j t : Nat} (hs : s.testBit j = false) (h : ¬ t = s ||| 2 ^ j) : wpS F n s (j + 1) t = wpS F n s j t := by
  unfold wpS
  congr 1
  refine smN_congr (fun k _ => ?_)
  unfold wpT
  by_cases a : t.testBit k = true ∧ jnS F k (ndf t (2 ^ k)) = true
  · by_cases b : ndf t (2 ^ k) < s ∨ (ndf t (2 ^ k) = s ∧ k < j)
    · rw [if_pos ⟨a.1, a.2, by omega⟩, if_pos ⟨a.1, a.2, b⟩]
    · rw [if_neg, if_neg (fun q => b q.2.2)]
      rintro ⟨q1, q2, q3⟩
      by_cases c : k = j
      · apply h
        have e2 : ndf t (2 ^ k) = s := by omega
        subst c
        rw [← e2]
        apply Nat.eq_of_testBit_eq
        intro i
        rw [ins_bit, rem_bit]
        by_cases e : k = i
        · subst e; rw [q1]; simp
        · simp [e]
      · omega
  · rw [if_neg (fun q => a ⟨q.1, q.2.1⟩), if_neg (fun q => a ⟨q.1, q.2.1⟩)]
theorem wpS_add {F : Nat → Nat} {n s j : Nat} (hj : j < n) (hs : s.testBit j = false) (hf : jnS F j s = true) : wpS F n s (j + 1) (s ||| 2 ^ j) = wpS F n s j (s ||| 2 ^ j) + wto F n s := by
  unfold wpS
  have h1 := smN_one (f := wpT F n s j (s ||| 2 ^ j)) (g := wpT F n s (j + 1) (s ||| 2 ^ j)) hj (fun k _ hk => by
    unfold wpT
    by_cases a : (s ||| 2 ^ j).testBit k = true ∧ jnS F k (ndf (s ||| 2 ^ j) (2 ^ k)) = true
    · by_cases b : ndf (s ||| 2 ^ j) (2 ^ k) < s ∨ (ndf (s ||| 2 ^ j) (2 ^ k) = s ∧ k < j)
      · rw [if_pos ⟨a.1, a.2, b⟩, if_pos ⟨a.1, a.2, by omega⟩]
      · rw [if_neg (fun q => b q.2.2), if_neg]
        rintro ⟨q1, q2, q3⟩
        omega
    · rw [if_neg (fun q => a ⟨q.1, q.2.1⟩), if_neg (fun q => a ⟨q.1, q.2.1⟩)])
  have h2 : wpT F n s j (s ||| 2 ^ j) j = 0 := by
    unfold wpT
    rw [ins_rem hs, if_neg (by omega)]
  have h3 : wpT F n s (j + 1) (s ||| 2 ^ j) j = wto F n s := by
    unfold wpT
    rw [ins_rem hs, if_pos ⟨by rw [ins_bit]; simp, hf, Or.inr ⟨rfl, by omega⟩⟩]
  rw [h2, h3] at h1
  omega
theorem wpS_zero {F : Nat → Nat} {n s t : Nat} (h : wto F n s = 0) : wpS F n s n t = wpS F n s 0 t := by
  unfold wpS
  congr 1
  refine smN_congr (fun k _ => ?_)
  unfold wpT
  by_cases a : t.testBit k = true ∧ jnS F k (ndf t (2 ^ k)) = true
  · by_cases b : ndf t (2 ^ k) < s
    · rw [if_pos ⟨a.1, a.2, Or.inl b⟩, if_pos ⟨a.1, a.2, Or.inl b⟩]
    · by_cases c : ndf t (2 ^ k) = s
      · rw [c, h]; simp
      · rw [if_neg (fun q => by omega), if_neg (fun q => by omega)]
  · rw [if_neg (fun q => a ⟨q.1, q.2.1⟩), if_neg (fun q => a ⟨q.1, q.2.1⟩)]
/-! links have the orders of the facets that they come from -/
theorem jn_iff {G : Nat → Nat} {i s n : Nat} (hn : n ≤ 12) (hs : s < 2 ^ n) : jnS G i s = true ↔ ∀ k, s.testBit k = true → ∃ o, s.testBit o = true ∧ popc (G i &&& G o) + 1 = popc (G i) ∧ sbs (G i &&& G k) (G o) = true := by
  unfold jnS
  rw [allN_iff]
  constructor
  · intro h k hk
    have h1 := h k (by have := bit_lt hs hk; omega)
    rw [hk, Bool.not_true, Bool.false_or] at h1
    obtain ⟨o, ho, h2⟩ := anyN_iff.mp h1
    unfold jnQ at h2
    rw [Bool.and_eq_true, Bool.and_eq_true, beq_iff_eq] at h2
    exact ⟨o, h2.1.1, h2.1.2, h2.2⟩
  · intro h k _
    cases e : s.testBit k
    · rfl
    · obtain ⟨o, h1, h2, h3⟩ := h k e
      rw [Bool.not_true, Bool.false_or]
      refine anyN_iff.mpr ⟨o, by have := bit_lt hs h1; omega, ?_⟩
      unfold jnQ
      rw [h1, beq_iff_eq.mpr h2, h3]
      rfl
theorem and_of_sbs {a x : Nat} (h : sbs x a = true) : a &&& x = x := by
  apply Nat.eq_of_testBit_eq
  intro i
  rw [Nat.testBit_and]
  cases e : x.testBit i
  · simp
  · rw [sbs_iff.mp h i e]; rfl
theorem lk_near {a b x : Nat} (ha : sbs x a = true) (hb : sbs x b = true) : popc (ndf a x &&& ndf b x) + 1 = popc (ndf a x) ↔ popc (a &&& b) + 1 = popc a := by
  have h1 := popc_and_ndf a x
  have h2 := popc_and_ndf (a &&& b) x
  rw [and_of_sbs ha] at h1
  have h3 : a &&& b &&& x = x := by
    rw [Nat.and_assoc, and_of_sbs hb, and_of_sbs ha]
  rw [h3] at h2
  have h4 : ndf a x &&& ndf b x = ndf (a &&& b) x := by
    apply Nat.eq_of_testBit_eq
    intro i
    rw [Nat.testBit_and, ndf_bit, ndf_bit, ndf_bit, Nat.testBit_and]
    cases a.testBit i <;> cases b.testBit i <;> cases x.testBit i <;> rfl
  rw [h4]
  omega
theorem lk_sub {a b c x : Nat} (hb : sbs x b = true) : sbs (ndf a x &&& ndf c x) (ndf b x) = sbs (a &&& c) b := by
  apply beqB
  rw [sbs_iff, sbs_iff]
  constructor
  · intro h i hi
    cases e : x.testBit i
    · rw [Nat.testBit_and, Bool.and_eq_true] at hi
      have := h i (by rw [Nat.testBit_and, ndf_bit, ndf_bit, hi.1, hi.2, e]; rfl)
      rw [ndf_bit, Bool.and_eq_true] at this
      exact this.1
    · exact sbs_iff.mp hb i e
  · intro h i hi
    rw [Nat.testBit_and, ndf_bit, ndf_bit, Bool.and_eq_true, Bool.and_eq_true, Bool.and_eq_true] at hi
    rw [ndf_bit, h i (by rw [Nat.testBit_and, hi.1.1, hi.2.1]; rfl), hi.1.2]
    rfl
section LKO
variable {n : Nat} {F : Nat → Nat} {x : Nat}
def lkQ (F : Nat → Nat) (x : Nat) : Nat → Bool := fun k => sbs x (F k)
def lkP (n : Nat) (F : Nat → Nat) (x u : Nat) : Nat := mskN n (fun k => lkQ F x k && u.testBit (cntN k (lkQ F x)))
theorem lkP_bit (u k : Nat) : (lkP n F x u).testBit k = (decide (k < n) && (lkQ F x k && u.testBit (cntN k (lkQ F x)))) := mskN_bit _ _ _
theorem lkN_Q : lkN n F x = cntN n (lkQ F x) := rfl
theorem lkG_at {k : Nat} (hk : k < n) (hq : lkQ F x k = true) : lkG n F x (cntN k (lkQ F x)) = ndf (F k) x := by
  unfold lkG
  rw [show (fun k => sbs x (F k)) = lkQ F x from rfl, nthN_hit hq rfl hk, Int.toNat_natCast]
theorem lk_ex {j : Nat} (hj : j < lkN n F x) : ∃ k, k < n ∧ lkQ F x k = true ∧ cntN k (lkQ F x) = j := by
  obtain ⟨k, h1, h2, h3, h4⟩ := nthN_spec (n := n) (p := lkQ F x) (i := j) hj
  exact ⟨k, h1, h3, h4⟩
theorem lk_cnt {k : Nat} (hk : k < n) (hq : lkQ F x k = true) : cntN k (lkQ F x) < lkN n F x := by
  have := cntN_mono (p := lkQ F x) (m := k + 1) (n := n) (by omega)
  rw [cntN_t hq] at this
  rw [lkN_Q]
  omega
theorem lkP_rem {u k : Nat} (hk : k < n) (hq : lkQ F x k = true) : lkP n F x (ndf u (2 ^ cntN k (lkQ F x))) = ndf (lkP n F x u) (2 ^ k) := by
  apply Nat.eq_of_testBit_eq
  intro i
  rw [lkP_bit, rem_bit, rem_bit, lkP_bit]
  cases e1 : lkQ F x i
  · simp
  · by_cases e : k = i
    · subst e; simp
    · have : ¬ cntN k (lkQ F x) = cntN i (lkQ F x) := fun q => e (cnt_inj hq e1 q)
      rw [decide_eq_false e, decide_eq_false this]
      simp
theorem lkP_0 {u : Nat} (hu : u < 2 ^ lkN n F x) : lkP n F x u = 0 ↔ u = 0 := by
  constructor
  · intro h
    apply Classical.byContradiction
    intro h0
    obtain ⟨j, hj⟩ := ne_bit h0
    obtain ⟨k, k1, k2, k3⟩ := lk_ex (bit_lt hu hj)
    have := lkP_bit (n := n) (F := F) (x := x) u k
    rw [h, Nat.zero_testBit, decide_eq_true k1, k2, k3, hj] at this
    exact absurd this (by decide)
  · intro h
    subst h
    apply Nat.eq_of_testBit_eq
    intro i
    rw [lkP_bit, Nat.zero_testBit, Nat.zero_testBit]
    simp
theorem lkP_jn {k v : Nat} (hn : n ≤ 12) (hk : k < n) (hq : lkQ F x k = true) (hv : v < 2 ^ lkN n F x) : jnS F k (lkP n F x v) = jnS (lkG n F x) (cntN k (lkQ F x)) v := by
  apply beqB
  have hlt : lkP n F x v < 2 ^ n := mskN_lt _ _
  rw [jn_iff hn hlt, jn_iff (Nat.le_trans (lkN_le n F x) hn) hv]
  constructor
  · intro h j hj
    obtain ⟨k1, a1, a2, a3⟩ := lk_ex (bit_lt hv hj)
    obtain ⟨o, o1, o2, o3⟩ := h k1 (by rw [lkP_bit, decide_eq_true a1, a2, a3, hj]; rfl)
    rw [lkP_bit] at o1
    simp only [Bool.and_eq_true, decide_eq_true_eq] at o1
    obtain ⟨b1, b2, b3⟩ := o1
    refine ⟨cntN o (lkQ F x), b3, ?_, ?_⟩
    · rw [lkG_at hk hq, lkG_at b1 b2]
      exact (lk_near hq b2).mpr o2
    · rw [← a3, lkG_at hk hq, lkG_at b1 b2, lkG_at a1 a2, lk_sub b2]
      exact o3
  · intro h k1 hk1
    rw [lkP_bit] at hk1
    simp only [Bool.and_eq_true, decide_eq_true_eq] at hk1
    obtain ⟨a1, a2, a3⟩ := hk1
    obtain ⟨j, j1, j2, j3⟩ := h _ a3
    obtain ⟨o, b1, b2, b3⟩ := lk_ex (bit_lt hv j1)
    rw [← b3, lkG_at hk hq, lkG_at b1 b2] at j2
    rw [← b3, lkG_at hk hq, lkG_at b1 b2, lkG_at a1 a2, lk_sub b2] at j3
    exact ⟨o, by rw [lkP_bit, decide_eq_true b1, b2, b3, j1]; rfl, (lk_near hq b2).mp j2, j3⟩
theorem lkP_wto (hn : n ≤ 12) : ∀ u, u < 2 ^ lkN n F x → wto F n (lkP n F x u) = wto (lkG n F x) (lkN n F x) u := by
  intro u
  induction u using Nat.strongRecOn with
  | _ u ih =>
    intro hu
    rw [wto_eq, wto_eq]
    have h0 : (if lkP n F x u = 0 then 1 else 0) = (if u = 0 then 1 else 0) := by
      by_cases e : u = 0
      · rw [if_pos e, if_pos ((lkP_0 hu).mpr e)]
      · rw [if_neg e, if_neg (fun q => e ((lkP_0 hu).mp q))]
    rw [h0]
    congr 1
    rw [lkN_Q]
    symm
    refine smN_sparse (q := lkQ F x) (N := n) ?_ ?_ n (Nat.le_refl _)
    · intro k hk hq
      unfold wtF
      rw [lkP_bit, hq]
      simp
    · intro k hk hq
      unfold wtF
      rw [lkP_bit, decide_eq_true hk, hq, Bool.true_and, Bool.true_and]
      cases e : u.testBit (cntN k (lkQ F x))
      · simp
      · have hlt := ndf_bit_lt e
        rw [← lkP_rem hk hq, lkP_jn hn hk hq (by omega), ih _ hlt (by omega)]
        rfl
theorem lkP_all : lkP n F x (2 ^ lkN n F x - 1) = lyg n F x := by
  apply Nat.eq_of_testBit_eq
  intro k
  rw [lkP_bit, lyg_bit, all_bit]
  by_cases hk : k < n
  · rw [decide_eq_true hk, Bool.true_and, Bool.true_and]
    cases e : lkQ F x k
    · exact e.symm
    · rw [decide_eq_true (lk_cnt hk e)]
      exact e.symm
  · rw [decide_eq_false hk]
    rfl
theorem lk_ways (hn : n ≤ 12) : wto F n (lyg n F x) = won (lkG n F x) (lkN n F x) 0 := by
  rw [← lkP_all, lkP_wto hn _ (by have := Nat.two_pow_pos (lkN n F x); omega), wto_all]
end LKO
