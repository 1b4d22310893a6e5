/-! sums by halves -/
def xbN : Nat → (Nat → Bool) → Bool
  | 0, _ => false
  | k + 1, f => Bool.xor (xbN k f) (f k)
theorem xb_congr {N : Nat} {f g : Nat → Bool} (h : ∀ k, k < N → f k = g k) : xbN N f = xbN N g := by
  induction N with
  | zero => rfl
  | succ N ih => simp only [xbN]; rw [ih (fun k hk => h k (by omega)), h N (by omega)]
theorem xb_zero {N : Nat} {f : Nat → Bool} (h : ∀ k, k < N → f k = false) : xbN N f = false := by
  induction N with
  | zero => rfl
  | succ N ih => simp only [xbN]; rw [ih (fun k hk => h k (by omega)), h N (by omega)]; rfl
theorem xb_xor (N : Nat) (f g : Nat → Bool) : xbN N (fun k => Bool.xor (f k) (g k)) = Bool.xor (xbN N f) (xbN N g) := by
  induction N with
  | zero => rfl
  | succ N ih =>
    simp only [xbN]
    rw [ih]
    cases xbN N f <;> cases xbN N g <;> cases f N <;> cases g N <;> rfl
theorem xb_and (N : Nat) (b : Bool) (f : Nat → Bool) : (b && xbN N f) = xbN N (fun k => b && f k) := by
  cases b
  · rw [xb_zero (f := fun k => false && f k) (fun k _ => rfl)]; rfl
  · rw [Bool.true_and]
    exact xb_congr (fun k _ => (Bool.true_and _).symm)
theorem xb_one {N v : Nat} {f : Nat → Bool} (hv : v < N) (h : ∀ k, k < N → ¬ k = v → f k = false) : xbN N f = f v := by
  induction N with
  | zero => omega
  | succ N ih =>
    simp only [xbN]
    by_cases e : v = N
    · subst e
      rw [xb_zero (fun k hk => h k (by omega) (by omega)), Bool.false_xor]
    · rw [ih (by omega) (fun k hk => h k (by omega)), h N (by omega) (fun q => e q.symm), Bool.xor_false]
theorem xb_sym (N : Nat) (h : Nat → Nat → Bool) (hs : ∀ p q, h p q = h q p) : xbN N (fun p => xbN N (fun q => !decide (p = q) && h p q)) = false := by
  induction N with
  | zero => rfl
  | succ N ih =>
    have h1 : xbN N (fun p => xbN (N + 1) (fun q => !decide (p = q) && h p q)) = Bool.xor (xbN N (fun p => xbN N (fun q => !decide (p = q) && h p q))) (xbN N (fun p => !decide (p = N) && h p N)) := by
      rw [← xb_xor]
      rfl
    rw [show xbN (N + 1) (fun p => xbN (N + 1) (fun q => !decide (p = q) && h p q)) = Bool.xor (xbN N (fun p => xbN (N + 1) (fun q => !decide (p = q) && h p q))) (xbN (N + 1) (fun q => !decide (N = q) && h N q)) from rfl, h1, ih, Bool.false_xor]
    simp only [xbN, decide_true, Bool.not_true, Bool.false_and, Bool.xor_false]
    rw [xb_congr (f := fun q => !decide (N = q) && h N q) (g := fun p => !decide (p = N) && h p N) (fun k _ => by
      show (!decide (N = k) && h N k) = (!decide (k = N) && h k N)
      rw [hs N k]
      congr 2
      apply beqB
      rw [decide_eq_true_eq, decide_eq_true_eq]
      exact ⟨fun q => q.symm, fun q => q.symm⟩)]
    rw [Bool.xor_self]
def parN (K m : Nat) : Bool := xbN K (fun i => m.testBit i)
theorem par_xor (K a b : Nat) : parN K (a ^^^ b) = Bool.xor (parN K a) (parN K b) := by
  unfold parN
  rw [← xb_xor]
  exact xb_congr (fun k _ => Nat.testBit_xor a b k)
theorem par_0 (K : Nat) : parN K 0 = false := xb_zero (fun k _ => Nat.zero_testBit k)
theorem par_p2 {K c : Nat} (h : c < K) : parN K (2 ^ c) = true := by
  unfold parN
  rw [xb_one h (fun k _ hk => by rw [p2_bit]; exact decide_eq_false (fun q => hk q.symm)), p2_bit, decide_eq_true rfl]
theorem and_xr (f a b : Nat) : f &&& (a ^^^ b) = (f &&& a) ^^^ (f &&& b) := by
  apply Nat.eq_of_testBit_eq
  intro i
  rw [Nat.testBit_and, Nat.testBit_xor, Nat.testBit_xor, Nat.testBit_and, Nat.testBit_and]
  cases f.testBit i <;> cases a.testBit i <;> cases b.testBit i <;> rfl
theorem xr_and (f a b : Nat) : (a ^^^ b) &&& f = (a &&& f) ^^^ (b &&& f) := by
  rw [Nat.and_comm, and_xr, Nat.and_comm f a, Nat.and_comm f b]
theorem par_and {K c : Nat} (f : Nat) (h : c < K) : parN K (f &&& 2 ^ c) = f.testBit c := by
  rw [and_p2]
  cases f.testBit c
  · exact par_0 K
  · exact par_p2 h
/-- what isn't in a span is told so by a form -/
theorem dual_f {w : Nat → Nat} {K : Nat} : ∀ (m x : Nat), (∀ i, i < m → w i < 2 ^ K) → x < 2 ^ K → inS w m x = false → ∃ f, (∀ i, i < m → parN K (f &&& w i) = false) ∧ parN K (f &&& x) = true := by
  intro m
  induction m with
  | zero =>
    intro x _ hx h
    simp only [inS, beq_eq_false_iff_ne] at h
    obtain ⟨b, hb⟩ := ne_bit h
    refine ⟨2 ^ b, fun i hi => by omega, ?_⟩
    rw [Nat.and_comm, par_and x (bit_lt hx hb)]
    exact hb
  | succ m ih =>
    intro x hw hx h
    simp only [inS, Bool.or_eq_false_iff] at h
    obtain ⟨f1, a1, a2⟩ := ih x (fun i hi => hw i (by omega)) hx h.1
    cases e1 : parN K (f1 &&& w m)
    · refine ⟨f1, fun i hi => ?_, a2⟩
      by_cases e : i = m
      · rw [e]; exact e1
      · exact a1 i (by omega)
    · obtain ⟨f2, b1, b2⟩ := ih (x ^^^ w m) (fun i hi => hw i (by omega)) (Nat.xor_lt_two_pow hx (hw m (by omega))) h.2
      rw [and_xr, par_xor] at b2
      cases e2 : parN K (f2 &&& w m)
      · refine ⟨f2, fun i hi => ?_, ?_⟩
        · by_cases e : i = m
          · rw [e]; exact e2
          · exact b1 i (by omega)
        · rw [e2, Bool.xor_false] at b2
          exact b2
      · refine ⟨f1 ^^^ f2, fun i hi => ?_, ?_⟩
        · rw [xr_and, par_xor]
          by_cases e : i = m
          · rw [e, e1, e2]; rfl
          · rw [a1 i (by omega), b1 i (by omega)]; rfl
        · rw [e2] at b2
          rw [xr_and, par_xor, a2]
          cases e3 : parN K (f2 &&& x)
          · rfl
          · rw [e3] at b2; exact absurd b2 (by decide)
/-! what goes round, and what it is round -/
def dl (g : Nat → Bool) (t : Nat) : Bool := xbN 7 (fun q => t.testBit q && g (ndf t (2 ^ q)))
theorem rem_comm (a p q : Nat) : ndf (ndf a (2 ^ p)) (2 ^ q) = ndf (ndf a (2 ^ q)) (2 ^ p) := by
  apply Nat.eq_of_testBit_eq
  intro i
  rw [rem_bit, rem_bit, rem_bit, rem_bit]
  cases a.testBit i <;> cases decide (p = i) <;> cases decide (q = i) <;> rfl
theorem dl_dl (g : Nat → Bool) (A : Nat) : dl (fun t => dl g t) A = false := by
  unfold dl
  rw [xb_congr (g := fun p => xbN 7 (fun q => !decide (p = q) && (A.testBit p && A.testBit q && g (ndf (ndf A (2 ^ p)) (2 ^ q))))) (fun p _ => by
    show (A.testBit p && xbN 7 (fun q => (ndf A (2 ^ p)).testBit q && g (ndf (ndf A (2 ^ p)) (2 ^ q)))) = _
    rw [xb_and]
    refine xb_congr (fun q _ => ?_)
    rw [rem_bit]
    cases A.testBit p <;> cases A.testBit q <;> cases decide (p = q) <;> simp)]
  exact xb_sym 7 _ (fun p q => by
    show (A.testBit p && A.testBit q && g (ndf (ndf A (2 ^ p)) (2 ^ q))) = (A.testBit q && A.testBit p && g (ndf (ndf A (2 ^ q)) (2 ^ p)))
    rw [rem_comm, Bool.and_comm (A.testBit p)])
theorem one_more {t B : Nat} (h : sbs t B = true) (hp : popc t + 1 = popc B) : ∃ p, B.testBit p = true ∧ t = ndf B (2 ^ p) := by
  have h1 := popc_and_ndf B t
  rw [and_of_sbs h] at h1
  obtain ⟨p, hb⟩ := ne_bit (x := ndf B t) (by intro e; rw [e, popc_zero] at h1; omega)
  rw [ndf_bit, Bool.and_eq_true, Bool.not_eq_true'] at hb
  refine ⟨p, hb.1, sbs_eq (sub_rem h hb.2) ?_⟩
  have := popc_rem' hb.1
  omega
section COC
variable {P D n : Nat} {F O : Nat → Nat}
theorem rst_old (h : WF P D n F O) {k p : Nat} (hk : k < n) (hp : (rst F O k).testBit p = true) : ∃ m q, m < k ∧ (F (O m)).testBit q = true ∧ ndf (F (O k)) (2 ^ p) = ndf (F (O m)) (2 ^ q) := by
  unfold rst at hp
  rw [mskN_bit] at hp
  simp only [Bool.and_eq_true, decide_eq_true_eq] at hp
  obtain ⟨m, hm, h1⟩ := anyN_iff.mp hp.2.2
  have h2 := popc_rem' hp.2.1
  have h3 := h.fD (h.on hk)
  have h4 := h.fD (h.on (show m < n by omega))
  obtain ⟨q, q1, q2⟩ := one_more h1 (by omega)
  exact ⟨m, q, hm, q1, q2⟩
theorem rst_new (h : WF P D n F O) {k m : Nat} (hk : k < n) (hm : m < k) (hj : jnA F O k = true) (hR : sbs (rst F O k) (F (O m)) = true) : False := by
  unfold jnA at hj
  have hlt : ahd O k < 2 ^ n := ahd_lt (fun i hi => h.on (by omega))
  obtain ⟨o, o1, o2, o3⟩ := (jn_iff h.2.2.1 hlt).mp hj (O m) (by rw [ahd_bit]; exact anyN_iff.mpr ⟨m, hm, beq_iff_eq.mpr rfl⟩)
  obtain ⟨p, p1, p2, p3⟩ := near_iff.mp o2
  rw [ahd_bit] at o1
  obtain ⟨j, j1, j2⟩ := anyN_iff.mp o1
  rw [beq_iff_eq] at j2
  have hr : (rst F O k).testBit p = true := by
    unfold rst
    rw [mskN_bit, p1]
    have hp7 := bit_lt (h.fP (h.on hk)) p1
    have := h.1
    rw [decide_eq_true (by omega : p < 7), Bool.true_and, Bool.true_and]
    refine anyN_iff.mpr ⟨j, j1, ?_⟩
    unfold rsQ
    rw [j2]
    exact p3
  have h5 := sbs_iff.mp o3 p (by rw [Nat.testBit_and, p1, sbs_iff.mp hR p hr]; rfl)
  rw [p2] at h5
  exact absurd h5 (by decide)
def gNew (c g : Nat → Bool) (R v u : Nat) : Bool := if sbs R u = true then (if u.testBit v = true then false else Bool.xor (c (u ||| 2 ^ v)) (xbN 7 (fun p => R.testBit p && g (ndf (u ||| 2 ^ v) (2 ^ p))))) else g u
theorem coc_step (h : WF P D n F O) (c : Nat → Bool) {k : Nat} (hk : k < n) (hj : jnA F O k = true) (hc : dl c (F (O k)) = false) (g : Nat → Bool) (hg : ∀ m, m < k → ∀ p, (F (O m)).testBit p = true → c (ndf (F (O m)) (2 ^ p)) = dl g (ndf (F (O m)) (2 ^ p))) : ∃ g', ∀ m, m < k + 1 → ∀ p, (F (O m)).testBit p = true → c (ndf (F (O m)) (2 ^ p)) = dl g' (ndf (F (O m)) (2 ^ p)) := by
  have hRA : ∀ i, (rst F O k).testBit i = true → (F (O k)).testBit i = true := rst_sub F O k
  by_cases hall : ∀ v, (F (O k)).testBit v = true → (rst F O k).testBit v = true
  · refine ⟨g, fun m hm p hp => ?_⟩
    by_cases e : m = k
    · subst e
      obtain ⟨m', q, m1, m2, m3⟩ := rst_old h hk (hall p hp)
      rw [m3]
      exact hg m' m1 q m2
    · exact hg m (by omega) p hp
  · obtain ⟨v, hv⟩ := Classical.not_forall.mp hall
    have hvA : (F (O k)).testBit v = true := Classical.byContradiction (fun q => hv (fun w => absurd w q))
    have hvR : (rst F O k).testBit v = false := by
      cases e : (rst F O k).testBit v
      · rfl
      · exact absurd (fun _ => e) hv
    have hv7 : v < 7 := by
      have := bit_lt (h.fP (h.on hk)) hvA
      have := h.1
      omega
    generalize hA : F (O k) = A at *
    generalize hRR : rst F O k = R at *
    have hold : ∀ m, m < k → ∀ p, (F (O m)).testBit p = true → dl (gNew c g R v) (ndf (F (O m)) (2 ^ p)) = dl g (ndf (F (O m)) (2 ^ p)) := by
      intro m hm p hp
      unfold dl
      refine xb_congr (fun q _ => ?_)
      congr 1
      unfold gNew
      rw [if_neg]
      intro w
      refine rst_new h hk hm hj (sbs_iff.mpr (fun i hi => ?_))
      rw [hRR] at hi
      have w2 := sbs_iff.mp w i hi
      rw [rem_bit, rem_bit, Bool.and_eq_true, Bool.and_eq_true] at w2
      exact w2.1.1
    have hR2 : ∀ p, R.testBit p = true → c (ndf A (2 ^ p)) = dl (gNew c g R v) (ndf A (2 ^ p)) := by
      intro p hp
      obtain ⟨m, q, m1, m2, m3⟩ := rst_old h hk (by rw [hRR]; exact hp)
      rw [hA] at m3
      rw [m3, hold m m1 q m2]
      exact hg m m1 q m2
    have hN : ∀ q, A.testBit q = true → R.testBit q = false → ¬ q = v → c (ndf A (2 ^ q)) = dl (gNew c g R v) (ndf A (2 ^ q)) := by
      intro q hq hqR hqv
      have hS : ∀ p, ((ndf A (2 ^ q)).testBit p && gNew c g R v (ndf (ndf A (2 ^ q)) (2 ^ p))) = Bool.xor (R.testBit p && g (ndf (ndf A (2 ^ q)) (2 ^ p))) (decide (p = v) && Bool.xor (c (ndf A (2 ^ q))) (xbN 7 (fun p => R.testBit p && g (ndf (ndf A (2 ^ q)) (2 ^ p))))) := by
        intro p
        cases hpR : R.testBit p
        · by_cases hpv : p = v
          · subst hpv
            have e1 : (ndf A (2 ^ q)).testBit p = true := by
              rw [rem_bit, hvA, decide_eq_false hqv]; rfl
            have e2 : sbs R (ndf (ndf A (2 ^ q)) (2 ^ p)) = true := by
              rw [sbs_iff]
              intro i hi
              rw [rem_bit, rem_bit, hRA i hi]
              have n1 : ¬ q = i := by intro e; rw [e, hi] at hqR; exact absurd hqR (by decide)
              have n2 : ¬ p = i := by intro e; rw [e, hi] at hpR; exact absurd hpR (by decide)
              rw [decide_eq_false n1, decide_eq_false n2]
              rfl
            have e3 : (ndf (ndf A (2 ^ q)) (2 ^ p)).testBit p = false := by rw [rem_bit, decide_eq_true rfl, Bool.not_true, Bool.and_false]
            have e4 : ndf (ndf A (2 ^ q)) (2 ^ p) ||| 2 ^ p = ndf A (2 ^ q) := by
              apply Nat.eq_of_testBit_eq
              intro i
              rw [ins_bit, rem_bit]
              by_cases e : p = i
              · subst e; rw [e1]; simp
              · simp [e]
            unfold gNew
            rw [e1, if_pos e2, if_neg (by rw [e3]; decide), e4, decide_eq_true rfl, Bool.true_and, Bool.false_and, Bool.false_xor]
          · rw [decide_eq_false hpv, Bool.false_and, Bool.false_and, Bool.xor_false]
            cases e1 : (ndf A (2 ^ q)).testBit p
            · rfl
            · have e2 : sbs R (ndf (ndf A (2 ^ q)) (2 ^ p)) = true := by
                rw [sbs_iff]
                intro i hi
                rw [rem_bit, rem_bit, hRA i hi]
                have n1 : ¬ q = i := by intro e; rw [e, hi] at hqR; exact absurd hqR (by decide)
                have n2 : ¬ p = i := by intro e; rw [e, hi] at hpR; exact absurd hpR (by decide)
                rw [decide_eq_false n1, decide_eq_false n2]
                rfl
              have e3 : (ndf (ndf A (2 ^ q)) (2 ^ p)).testBit v = true := by
                rw [rem_bit, rem_bit, hvA, decide_eq_false hqv, decide_eq_false hpv]; rfl
              unfold gNew
              rw [if_pos e2, if_pos e3]
              rfl
        · have hpv : ¬ p = v := by intro e; rw [e, hvR] at hpR; exact absurd hpR (by decide)
          have hpq : ¬ q = p := by intro e; rw [e, hpR] at hqR; exact absurd hqR (by decide)
          have e1 : (ndf A (2 ^ q)).testBit p = true := by rw [rem_bit, hRA p hpR, decide_eq_false hpq]; rfl
          have e2 : ¬ sbs R (ndf (ndf A (2 ^ q)) (2 ^ p)) = true := by
            intro w
            have := sbs_iff.mp w p hpR
            rw [rem_bit, decide_eq_true rfl, Bool.not_true, Bool.and_false] at this
            exact absurd this (by decide)
          unfold gNew
          rw [e1, if_neg e2, decide_eq_false hpv, Bool.true_and, Bool.false_and, Bool.xor_false]
      unfold dl
      rw [xb_congr (fun p _ => hS p), xb_xor, xb_one (N := 7) (v := v) (f := fun p => decide (p = v) && Bool.xor (c (ndf A (2 ^ q))) (xbN 7 (fun p => R.testBit p && g (ndf (ndf A (2 ^ q)) (2 ^ p))))) hv7 (fun p _ hp => by rw [decide_eq_false hp]; rfl)]
      rw [decide_eq_true rfl, Bool.true_and]
      cases c (ndf A (2 ^ q)) <;> cases xbN 7 (fun p => R.testBit p && g (ndf (ndf A (2 ^ q)) (2 ^ p))) <;> rfl
    have hV : c (ndf A (2 ^ v)) = dl (gNew c g R v) (ndf A (2 ^ v)) := by
      have h1 : xbN 7 (fun q => A.testBit q && Bool.xor (c (ndf A (2 ^ q))) (dl (gNew c g R v) (ndf A (2 ^ q)))) = false := by
        rw [xb_congr (g := fun q => Bool.xor (A.testBit q && c (ndf A (2 ^ q))) (A.testBit q && dl (gNew c g R v) (ndf A (2 ^ q)))) (fun q _ => by cases A.testBit q <;> rfl), xb_xor]
        have a1 : xbN 7 (fun q => A.testBit q && c (ndf A (2 ^ q))) = false := hc
        have a2 : xbN 7 (fun q => A.testBit q && dl (gNew c g R v) (ndf A (2 ^ q))) = false := dl_dl (gNew c g R v) A
        rw [a1, a2]
        rfl
      rw [xb_one hv7 (fun q _ hqv => by
        cases e1 : A.testBit q
        · rfl
        · cases e2 : R.testBit q
          · rw [← hN q e1 e2 hqv, Bool.xor_self]; rfl
          · rw [← hR2 q e2, Bool.xor_self]; rfl)] at h1
      rw [hvA, Bool.true_and] at h1
      cases e1 : c (ndf A (2 ^ v)) <;> cases e2 : dl (gNew c g R v) (ndf A (2 ^ v)) <;> rw [e1, e2] at h1 <;> first | rfl | exact absurd h1 (by decide)
    refine ⟨gNew c g R v, fun m hm p hp => ?_⟩
    by_cases e : m = k
    · rw [e, hA] at hp ⊢
      cases e2 : R.testBit p
      · by_cases e3 : p = v
        · rw [e3]; exact hV
        · exact hN p hp e2 e3
      · exact hR2 p e2
    · rw [hold m (by omega) p hp]
      exact hg m (by omega) p hp
theorem coc_ex (h : WF P D n F O) (c : Nat → Bool) (hj : ∀ k, k < n → jnA F O k = true) : ∀ k, k ≤ n → (∀ m, m < k → dl c (F (O m)) = false) → ∃ g, ∀ m, m < k → ∀ p, (F (O m)).testBit p = true → c (ndf (F (O m)) (2 ^ p)) = dl g (ndf (F (O m)) (2 ^ p)) := by
  intro k
  induction k with
  | zero => intro _ _; exact ⟨fun _ => false, fun m hm => absurd hm (Nat.not_lt_zero _)⟩
  | succ k ih =>
    intro hk hz
    obtain ⟨g, hg⟩ := ih (by omega) (fun m hm => hz m (by omega))
    exact coc_step h c (by omega) (hj k (by omega)) (hz k (by omega)) g hg
theorem coc_all (h : WF P D n F O) (c : Nat → Bool) (hj : ∀ k, k < n → jnA F O k = true) (hn : ∀ k, k < n → spB F O k = false → dl c (F (O k)) = false) : ∀ k, k < n → dl c (F (O k)) = false := by
  intro k
  induction k using Nat.strongRecOn with
  | _ k ih =>
    intro hk
    cases e : spB F O k
    · exact hn k hk e
    · obtain ⟨g, hg⟩ := coc_ex h c hj k (by omega) (fun m hm => ih m hm (by omega))
      have hR : rst F O k = F (O k) := beq_iff_eq.mp e
      have h1 : dl c (F (O k)) = dl (fun t => dl g t) (F (O k)) := by
        unfold dl
        refine xb_congr (fun p _ => ?_)
        cases e2 : (F (O k)).testBit p
        · rfl
        · obtain ⟨m, q, m1, m2, m3⟩ := rst_old h hk (by rw [hR]; exact e2)
          have := hg m m1 q m2
          rw [← m3] at this
          rw [this]
          rfl
      rw [h1, dl_dl]
end COC
theorem crN_par (f x : Nat) (hx : x < 128) : ∀ p, p ≤ 7 → parN 35 (f &&& crN x p) = xbN p (fun q => x.testBit q && f.testBit (col (ndf x (2 ^ q)))) := by
  intro p
  induction p with
  | zero => intro _; rw [crN, Nat.and_zero, par_0]; rfl
  | succ p ih =>
    intro hp
    simp only [crN, xbN]
    rw [← ih (by omega)]
    cases e : x.testBit p
    · simp
    · rw [if_pos rfl, Bool.true_and]
      have hd : crN x p ||| 2 ^ col (ndf x (2 ^ p)) = crN x p ^^^ 2 ^ col (ndf x (2 ^ p)) := by
        apply Nat.eq_of_testBit_eq
        intro i
        rw [Nat.testBit_or, Nat.testBit_xor, p2_bit]
        by_cases e2 : col (ndf x (2 ^ p)) = i
        · have : (crN x p).testBit i = false := by
            rw [crN_bit, anyN_false]
            intro q hq
            cases e3 : x.testBit q
            · rfl
            · rw [Bool.true_and, decide_eq_false_iff_not]
              intro e4
              have h1 := popc_rem' e3
              have h2 := popc_rem' e
              have h3 := col_inj (by omega) (e4.trans e2.symm)
              have h4 := rem_bit x p p
              rw [← h3, rem_bit, e, decide_eq_false (by omega : ¬ q = p), decide_eq_true rfl] at h4
              exact absurd h4 (by decide)
          rw [this]
          simp
        · rw [decide_eq_false e2]
          simp
      rw [hd, and_xr, par_xor, par_and f (col_lt (by have := ndf_le x (2 ^ p); omega))]
