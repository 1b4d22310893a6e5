theorem gdK {P D n : Nat} {F O : Nat → Nat} {M : jM} (h : KR P D n F O M) : -2147483648 ≤ gdN n F O ∧ gdN n F O < 2147483648 := by
  have := h.hn
  unfold gdN
  rcases fstN_rng (n := n) (p := fun k => !jnA F O k) (z := (n : Int)) with q | q <;> omega
theorem KR.ah {P D n : Nat} {F O : Nat → Nat} {M : jM} (h : KR P D n F O M) {k : Nat} (hk : k ≤ n) : ahd O k < 2 ^ n := ahd_lt (fun i hi => h.ob (by omega))
theorem KR.ah31 {P D n : Nat} {F O : Nat → Nat} {M : jM} (h : KR P D n F O M) {k : Nat} (hk : k ≤ n) : ahd O k < 2147483648 := p12 h.hn (h.ah hk)
theorem rst128 (F O : Nat → Nat) (k : Nat) : rst F O k < 128 := mskN_lt 7 _
theorem sp_iff {P D n : Nat} {F O : Nat → Nat} (h : WF P D n F O) {k : Nat} (hk : k < n) : spB F O k = decide (popc (rst F O k) = D) := by
  apply beqB
  unfold spB
  rw [beq_iff_eq, decide_eq_true_eq]
  constructor
  · intro e
    rw [e]
    exact h.fD (h.on hk)
  · intro e
    exact sbs_eq (sbs_iff.mpr (fun i hi => rst_sub F O k i hi)) (e.trans (h.fD (h.on hk)).symm)
def spM (F O : Nat → Nat) : Nat → Nat
  | 0 => 0
  | k + 1 => spM F O k ||| (if spB F O k = true then 2 ^ O k else 0)
theorem spM_lt {n : Nat} {F O : Nat → Nat} : ∀ k, (∀ i, i < k → O i < n) → spM F O k < 2 ^ n := by
  intro k
  induction k with
  | zero => intro _; exact Nat.two_pow_pos n
  | succ k ih =>
    intro h
    refine Nat.or_lt_two_pow (ih (fun i hi => h i (by omega))) ?_
    split
    · exact Nat.pow_lt_pow_right (by decide) (h k (by omega))
    · exact Nat.two_pow_pos n
theorem spM_bit (F O : Nat → Nat) (k j : Nat) : (spM F O k).testBit j = anyN k (fun i => spB F O i && (O i == j)) := by
  induction k with
  | zero => simp [spM, anyN]
  | succ k ih =>
    simp only [spM, anyN]
    rw [Nat.testBit_or, ih]
    congr 1
    cases spB F O k
    · simp
    · simp only [if_true, Bool.true_and]
      rw [p2_bit]
      apply beqB
      rw [decide_eq_true_eq, beq_iff_eq]
theorem frN_bit (F O : Nat → Nat) (k j : Nat) : (frN F O k).testBit j = anyN k (fun i => !spB F O i && (O i == j)) := by
  induction k with
  | zero => simp [frN, anyN]
  | succ k ih =>
    simp only [frN, anyN]
    rw [Nat.testBit_or, ih]
    congr 1
    cases spB F O k
    · simp only [Bool.false_eq_true, if_false, Bool.not_false, Bool.true_and]
      rw [p2_bit]
      apply beqB
      rw [decide_eq_true_eq, beq_iff_eq]
    · simp
theorem fr_eq {P D n : Nat} {F O : Nat → Nat} (h : WF P D n F O) : ndf (2 ^ n - 1) (spM F O n) = frN F O n := by
  apply Nat.eq_of_testBit_eq
  intro j
  rw [ndf_bit, all_bit, spM_bit, frN_bit]
  apply beqB
  simp only [Bool.and_eq_true, decide_eq_true_eq, Bool.not_eq_true']
  rw [anyN_false, anyN_iff]
  constructor
  · rintro ⟨hj, h1⟩
    obtain ⟨i, hi, e⟩ := inj_surj (O := O) (fun i hi => h.on hi) (fun i j hi hj e => h.oi hi hj e) hj
    have h2 := h1 i hi
    rw [beq_iff_eq.mpr e, Bool.and_true] at h2
    exact ⟨i, hi, by rw [h2, beq_iff_eq.mpr e]; rfl⟩
  · rintro ⟨i, hi, h1⟩
    rw [Bool.and_eq_true, Bool.not_eq_true', beq_iff_eq] at h1
    refine ⟨by rw [← h1.2]; exact h.on hi, ?_⟩
    intro m hm
    cases e : (O m == j)
    · rw [Bool.and_false]
    · rw [beq_iff_eq] at e
      rw [h.oi hm hi (e.trans h1.2.symm), h1.1]
      rfl
def lpV (F O : Nat → Nat) (pl e : Nat) : Nat := ndf (F (O pl)) (F (O e))
def leC (F O : Nat → Nat) (pl x : Nat) : Bool := allN pl (fun e => (lpV F O pl e == x) || !sbs (lpV F O pl e) x)
theorem sbs_le {a b : Nat} (h : sbs a b = true) : a ≤ b := by
  have : a = b &&& a := by
    apply Nat.eq_of_testBit_eq
    intro i
    rw [Nat.testBit_and]
    cases e : a.testBit i
    · simp
    · rw [sbs_iff.mp h i e]; rfl
  rw [this]
  exact Nat.and_le_left
theorem lc_eq (F O : Nat → Nat) (pl x : Nat) : (lpB F O pl x && leC F O pl x) = llB F O pl x := by
  unfold llB
  congr 1
  apply beqB
  unfold leC
  rw [allN_iff, Bool.not_eq_true', anyN_false]
  constructor
  · intro h o ho
    cases e : sbs o x && lpB F O pl o
    · rfl
    · rw [Bool.and_eq_true] at e
      obtain ⟨j, hj, h2⟩ := anyN_iff.mp e.2
      rw [beq_iff_eq] at h2
      have h3 := h j hj
      rw [show lpV F O pl j = o from h2, e.1, beq_eq_false_iff_ne.mpr (by omega)] at h3
      exact absurd h3 (by decide)
  · intro h j hj
    cases e : sbs (lpV F O pl j) x
    · simp
    · rw [Bool.not_true, Bool.or_false, beq_iff_eq]
      have h1 := sbs_le e
      rcases Nat.lt_or_ge (lpV F O pl j) x with q | q
      · have h2 := h _ q
        rw [e, Bool.true_and] at h2
        have h3 : lpB F O pl (lpV F O pl j) = true := anyN_iff.mpr ⟨j, hj, beq_iff_eq.mpr rfl⟩
        rw [h2] at h3
        exact absurd h3 (by decide)
      · omega
theorem lp_ne {P D n : Nat} {F O : Nat → Nat} (h : WF P D n F O) {pl e : Nat} (hpl : pl < n) (he : e < pl) : ¬ lpV F O pl e = 0 := by
  intro q
  have h1 : sbs (F (O pl)) (F (O e)) = true := beq_iff_eq.mpr q
  have h2 := h.oi hpl (by omega) (h.inj (h.on hpl) (h.on (by omega)) (sbs_eq h1 ((h.fD (h.on hpl)).trans (h.fD (h.on (by omega))).symm)))
  omega
theorem ll_0 {P D n : Nat} {F O : Nat → Nat} (h : WF P D n F O) {pl : Nat} (hpl : pl < n) : llB F O pl 0 = false := by
  unfold llB
  have : lpB F O pl 0 = false := by
    unfold lpB
    rw [anyN_false]
    intro k hk
    exact beq_eq_false_iff_ne.mpr (lp_ne h hpl hk)
  rw [this]
  rfl
theorem li_eq {P D n : Nat} {F O : Nat → Nat} (h : WF P D n F O) {pl : Nat} (hpl : pl < n) : allN pl (fun e => decide (popc (lpV F O pl e) = 1) || !leC F O pl (lpV F O pl e)) = liN P F O pl := by
  apply beqB
  unfold liN
  rw [allN_iff, allN_iff]
  constructor
  · intro h1 s hs
    cases e : llB F O pl s
    · simp
    · rw [← lc_eq, Bool.and_eq_true] at e
      obtain ⟨j, hj, h2⟩ := anyN_iff.mp e.1
      rw [beq_iff_eq] at h2
      have h3 := h1 j hj
      rw [show lpV F O pl j = s from h2, e.2] at h3
      exact h3
  · intro h1 j hj
    have hlt : lpV F O pl j < 2 ^ P := nb_ndf (h.fP (h.on hpl))
    have h2 := h1 _ hlt
    rw [← lc_eq, show lpB F O pl (lpV F O pl j) = true from anyN_iff.mpr ⟨j, hj, beq_iff_eq.mpr rfl⟩, Bool.true_and] at h2
    exact h2
theorem mv_up (O : Nat → Nat) {f k : Nat} (h : f ≤ k) : swp (mvO O f k) k = mvO O f (k + 1) := by
  funext i
  unfold swp mvO
  by_cases e1 : i = k
  · subst e1
    rw [if_pos rfl]
    congr 1
    unfold mvI
    rw [if_neg (by omega), if_neg (by omega), if_neg (by omega), if_pos (by omega)]
  · rw [if_neg e1]
    by_cases e2 : i = k + 1
    · subst e2
      rw [if_pos rfl]
      congr 1
      unfold mvI
      rw [if_neg (by omega), if_neg (by omega), if_pos rfl, if_neg (by omega), if_neg (by omega), if_pos rfl]
    · rw [if_neg e2]
      congr 1
      unfold mvI
      by_cases e3 : f ≤ i ∧ i < k
      · rw [if_pos e3, if_pos (by omega)]
      · rw [if_neg e3, if_neg (show ¬ (k < i ∧ i ≤ f) by omega), if_neg e1, if_neg (show ¬ (f ≤ i ∧ i < k + 1) by omega), if_neg (show ¬ (k + 1 < i ∧ i ≤ f) by omega), if_neg e2]
theorem mv_dn (O : Nat → Nat) {f k : Nat} (h : k + 1 ≤ f) : swp (mvO O f (k + 1)) k = mvO O f k := by
  funext i
  unfold swp mvO
  by_cases e1 : i = k
  · subst e1
    rw [if_pos rfl]
    congr 1
    unfold mvI
    rw [if_neg (by omega), if_neg (by omega), if_pos rfl, if_neg (by omega), if_neg (by omega), if_pos rfl]
  · rw [if_neg e1]
    by_cases e2 : i = k + 1
    · subst e2
      rw [if_pos rfl]
      congr 1
      unfold mvI
      rw [if_neg (by omega), if_neg (by omega), if_neg (by omega), if_neg (by omega), if_pos (by omega)]
      omega
    · rw [if_neg e2]
      congr 1
      unfold mvI
      by_cases e3 : k + 1 < i ∧ i ≤ f
      · rw [if_neg (by omega), if_pos e3, if_neg (by omega), if_pos (by omega)]
      · rw [if_neg (by omega), if_neg e3, if_neg e2, if_neg (by omega), if_neg (by omega), if_neg e1]
theorem mv_id (O : Nat → Nat) (f : Nat) : mvO O f f = O := by
  funext i
  unfold mvO mvI
  rw [if_neg (by omega), if_neg (by omega)]
  by_cases e : i = f
  · rw [if_pos e, e]
  · rw [if_neg e]
theorem nth_gone {m n : Nat} {p : Nat → Bool} {i : Int} (hm : m ≤ n) (h : i < (cntN m p : Int)) (h3 : nthN m p i = -1) : nthN n p i = -1 := by
  by_cases h0 : i < 0
  · exact nthN_neg h0
  · obtain ⟨j, rfl⟩ : ∃ j : Nat, i = (j : Int) := ⟨i.toNat, by omega⟩
    have := nthN_ge (n := m) (p := p) (i := j) (by omega)
    omega
theorem nthP {P D n : Nat} {F O : Nat → Nat} {M : jM} (h : KR P D n F O M) (p : Nat → Bool) (i : Int) : -2147483648 ≤ nthN (2 ^ P) p i ∧ nthN (2 ^ P) p i < 2147483648 := by
  have := Nat.pow_le_pow_right (n := 2) (by decide) h.hP
  rcases nthN_rng (n := 2 ^ P) (p := p) (i := i) with q | q <;> omega
set_option maxRecDepth 100000 in
set_option maxHeartbeats 4000000 in
theorem ev_X3_reset_L2 (M : jM)  : ∀ (fu : Nat) (M1 : jM) (k : Nat) (f1 : Ch [10] M M1) (f2 : ∀ j : Nat, j < k → M1 10 (j : Int) = (j : Int)) (f3 : k ≤ 12) (hfu : 12 - k < fu), J none 0 mX3_reset 2 [(19, 0), (0, ((k : Nat) : Int))] [] M1 (j_ret mX3_reset (fun z M' => Ch [10] M M' ∧ ∀ j : Nat, j < 12 → M' 10 (j : Int) = (j : Int))) := by
  intro fu
  induction fu with
  | zero => intro M1 k f1 f2 f3 hfu; exact absurd hfu (Nat.not_lt_zero _)
  | succ fu ih =>
    intro M1 k f1 f2 f3 hfu
    refine J_iload_n dX3_reset_2 rfl ?_
    refine J_bipush dX3_reset_3 (by decide) ?_
    refine J_icmp_ge (tgt := 21) dX3_reset_5 rfl (j_R (by omega)) (by decide) (fun h5 => ?_) (fun h5 => ?_)
    ·
      refine J_return dX3_reset_21 rfl ?_
      exact ⟨f1, fun j hj => f2 j (by omega)⟩
    ·
      refine J_aload_n dX3_reset_8 rfl ?_
      refine J_getR dX3_reset_9 flX3_9 rfl rfl ?_
      refine J_iload_n dX3_reset_12 rfl ?_
      refine J_iload_n dX3_reset_13 rfl ?_
      refine J_iast dX3_reset_14 rfl (by decide) (by omega) ?_
      refine J_iinc (v := (((k + 1) : Nat) : Int)) (L' := [(19, 0), (0, (((k + 1) : Nat) : Int))]) dX3_reset_15 rfl (by omega) (by decide) rfl rfl ?_
      refine J_goto (tgt := 2) dX3_reset_18 rfl ?_
      exact ih _ _ (by exact Ch_up (by decide) f1) (by intro j hj; by_cases e : j = k; rw [e, j_up_eq]; rw [j_up_nz (by omega)]; exact f2 j (by omega)) (by omega) (by omega)
set_option maxRecDepth 100000 in
set_option maxHeartbeats 4000000 in
theorem ev_X3_reset (M : jM) : Ev 0 mX3_reset [(19, 0)] M (fun z M' => Ch [10] M M' ∧ ∀ j : Nat, j < 12 → M' 10 (j : Int) = (j : Int)) := by
  refine Ev_of (by decide +kernel) (Nat.le_of_ble_eq_true rfl) (L := [(19, 0), (9, 0)]) rfl ?_
  refine J_iconst dX3_reset_0 ?_
  refine J_istore_n (L' := [(19, 0), (0, 0)]) dX3_reset_1 (by decide) rfl rfl ?_
  refine J_eq (L' := [(19, 0), (0, ((0 : Nat) : Int))]) rfl rfl rfl ?_
  exact ev_X3_reset_L2 M  _ _ _ (by exact Ch_rf) (by intro j hj; omega) (by omega) (Nat.lt_succ_self _)
set_option maxRecDepth 100000 in
set_option maxHeartbeats 4000000 in
theorem ev_X3_append (n : Nat) (hn : n < 12) (M : jM) : Ev 0 mX3_append [(19, 0), (0, ((n : Nat) : Int))] M (fun z M' => M' = j_up M 10 ((n : Nat) : Int) ((n : Nat) : Int)) := by
  refine Ev_of (by decide +kernel) (Nat.le_of_ble_eq_true rfl) (L := [(19, 0), (0, ((n : Nat) : Int))]) rfl ?_
  refine J_iload_n dX3_append_0 rfl ?_
  refine J_if_lt (tgt := 17) dX3_append_1 rfl (j_R (by omega)) (fun h1 => ?_) (fun h1 => ?_)
  · omega
  ·
    refine J_iload_n dX3_append_4 rfl ?_
    refine J_bipush dX3_append_5 (by decide) ?_
    refine J_icmp_ge (tgt := 17) dX3_append_7 rfl (j_R (by omega)) (by decide) (fun h7 => ?_) (fun h7 => ?_)
    · omega
    ·
      refine J_aload_n dX3_append_10 rfl ?_
      refine J_getR dX3_append_11 flX3_9 rfl rfl ?_
      refine J_iload_n dX3_append_14 rfl ?_
      refine J_iload_n dX3_append_15 rfl ?_
      refine J_iast dX3_append_16 rfl (by decide) (by omega) ?_
      refine J_return dX3_append_17 rfl ?_
      rfl
set_option maxRecDepth 100000 in
set_option maxHeartbeats 4000000 in
theorem ev_X3_remove_L5 (n : Nat) (hn12 : n ≤ 12) (O : Nat → Nat) (hO : ∀ k, k < n → O k < n) (M : jM) (h10 : ∀ k : Nat, k < n → M 10 (k : Int) = (O k : Int)) (i : Nat) (hi : i < n)  : ∀ (fu : Nat) (M1 : jM) (k : Nat) (f1 : Ch [10] M M1) (f2 : ∀ j : Nat, j < cntN k (drQ O i) → M1 10 (j : Int) = ((drV O i (nthN k (drQ O i) (j : Int)).toNat : Nat) : Int)) (f3 : ∀ j : Nat, k ≤ j → j < n → M1 10 (j : Int) = ((O j : Nat) : Int)) (f4 : k ≤ n) (hfu : n - k < fu), J none 0 mX3_remove 5 [(19, 0), (0, ((n : Nat) : Int)), (0, ((i : Nat) : Int)), (0, (((cntN k (drQ O i)) : Nat) : Int)), (0, ((k : Nat) : Int)), (9, 0)] [] M1 (j_ret mX3_remove (fun z M' => Ch [10] M M' ∧ ∀ j : Nat, j < cntN n (drQ O i) → M' 10 (j : Int) = ((drV O i (nthN n (drQ O i) (j : Int)).toNat : Nat) : Int))) := by
  intro fu
  induction fu with
  | zero => intro M1 k f1 f2 f3 f4 hfu; exact absurd hfu (Nat.not_lt_zero _)
  | succ fu ih =>
    intro M1 k f1 f2 f3 f4 hfu
    refine J_iload dX3_remove_5 rfl ?_
    refine J_iload_n dX3_remove_7 rfl ?_
    refine J_icmp_ge (tgt := 56) dX3_remove_8 rfl (j_R (by omega)) (j_R (by omega)) (fun h8 => ?_) (fun h8 => ?_)
    ·
      refine J_return dX3_remove_56 rfl ?_
      have : k = n := by omega
      subst this
      exact ⟨f1, f2⟩
    ·
      refine J_aload_n dX3_remove_11 rfl ?_
      refine J_getR dX3_remove_12 flX3_9 rfl rfl ?_
      refine J_iload dX3_remove_15 rfl ?_
      refine J_iald dX3_remove_17 rfl (by decide) (by omega) (J_top (v := (((O k) : Nat) : Int)) (f3 k (Nat.le_refl k) (by omega)) ?_)
      refine J_istore (L' := [(19, 0), (0, ((n : Nat) : Int)), (0, ((i : Nat) : Int)), (0, (((cntN k (drQ O i)) : Nat) : Int)), (0, ((k : Nat) : Int)), (0, (((O k) : Nat) : Int))]) dX3_remove_18 (by decide) rfl rfl ?_
      refine J_iload dX3_remove_20 rfl ?_
      refine J_iload_n dX3_remove_22 rfl ?_
      refine J_icmp_eq (tgt := 50) dX3_remove_23 rfl (j_R (by have := hO k (by omega); omega)) (j_R (by omega)) (fun h23 => ?_) (fun h23 => ?_)
      ·
        refine J_eq (L' := [(19, 0), (0, ((n : Nat) : Int)), (0, ((i : Nat) : Int)), (0, (((cntN (k + 1) (drQ O i)) : Nat) : Int)), (0, ((k : Nat) : Int)), (0, (((O k) : Nat) : Int))]) (by rw [cntN_f (k := k) (by simp [drQ]; omega)]) rfl rfl ?_
        refine J_iinc (v := (((k + 1) : Nat) : Int)) (L' := [(19, 0), (0, ((n : Nat) : Int)), (0, ((i : Nat) : Int)), (0, (((cntN (k + 1) (drQ O i)) : Nat) : Int)), (0, (((k + 1) : Nat) : Int)), (0, (((O k) : Nat) : Int))]) dX3_remove_50 rfl (by omega) (by decide) rfl rfl ?_
        refine J_goto (tgt := 5) dX3_remove_53 rfl ?_
        refine J_unset 5 (L' := [(19, 0), (0, ((n : Nat) : Int)), (0, ((i : Nat) : Int)), (0, (((cntN (k + 1) (drQ O i)) : Nat) : Int)), (0, (((k + 1) : Nat) : Int)), (9, 0)]) rfl ?_
        exact ih _ _ (by exact f1) (by intro j hj; rw [cntN_f (k := k) (by simp [drQ]; omega)] at hj; rw [f2 j hj, nthN_stay (m := k) (n := k + 1) (by have := nthN_ge hj; omega) (by omega)]) (by intro j h1 h2; exact f3 j (by omega) h2) (by omega) (by omega)
      ·
        refine J_aload_n dX3_remove_26 rfl ?_
        refine J_getR dX3_remove_27 flX3_9 rfl rfl ?_
        refine J_iload_n dX3_remove_30 rfl ?_
        refine J_iload dX3_remove_31 rfl ?_
        refine J_iload_n dX3_remove_33 rfl ?_
        refine J_icmp_le (tgt := 44) dX3_remove_34 rfl (j_R (by have := hO k (by omega); omega)) (j_R (by omega)) (fun h34 => ?_) (fun h34 => ?_)
        ·
          refine J_iload dX3_remove_44 rfl ?_
          refine J_iast dX3_remove_46 rfl (by decide) (by have := cntN_le k (drQ O i); omega) ?_
          refine J_iinc (v := (((cntN (k + 1) (drQ O i)) : Nat) : Int)) (L' := [(19, 0), (0, ((n : Nat) : Int)), (0, ((i : Nat) : Int)), (0, (((cntN (k + 1) (drQ O i)) : Nat) : Int)), (0, ((k : Nat) : Int)), (0, (((O k) : Nat) : Int))]) dX3_remove_47 rfl (by rw [cntN_t (k := k) (by simp [drQ]; omega)]; omega) (by decide) rfl rfl ?_
          refine J_iinc (v := (((k + 1) : Nat) : Int)) (L' := [(19, 0), (0, ((n : Nat) : Int)), (0, ((i : Nat) : Int)), (0, (((cntN (k + 1) (drQ O i)) : Nat) : Int)), (0, (((k + 1) : Nat) : Int)), (0, (((O k) : Nat) : Int))]) dX3_remove_50 rfl (by omega) (by decide) rfl rfl ?_
          refine J_goto (tgt := 5) dX3_remove_53 rfl ?_
          refine J_unset 5 (L' := [(19, 0), (0, ((n : Nat) : Int)), (0, ((i : Nat) : Int)), (0, (((cntN (k + 1) (drQ O i)) : Nat) : Int)), (0, (((k + 1) : Nat) : Int)), (9, 0)]) rfl ?_
          exact ih _ _ (by exact Ch_up (by decide) f1) (by have hq : drQ O i k = true := (by simp [drQ]; omega); intro j hj; rw [cntN_t hq] at hj; have hle := cntN_le k (drQ O i); by_cases e : j = cntN k (drQ O i); rw [e, j_up_eq, nthN_hit hq rfl (by omega), Int.toNat_natCast]; unfold drV; rw [if_neg (by omega)]; rw [j_up_nz (by omega), f2 j (by omega), nthN_stay (m := k) (n := k + 1) (by have := nthN_ge (p := drQ O i) (n := k) (i := j) (by omega); omega) (by omega)]) (by intro j h1 h2; have hle := cntN_le k (drQ O i); rw [j_up_nz (by omega)]; exact f3 j (by omega) h2) (by omega) (by omega)
        ·
          refine J_iload dX3_remove_37 rfl ?_
          refine J_iconst dX3_remove_39 ?_
          refine J_isub dX3_remove_40 (J_top (v := (((O k - 1) : Nat) : Int)) (by omega) ?_)
          refine J_goto (tgt := 46) dX3_remove_41 rfl ?_
          refine J_iast dX3_remove_46 rfl (by decide) (by have := cntN_le k (drQ O i); omega) ?_
          refine J_iinc (v := (((cntN (k + 1) (drQ O i)) : Nat) : Int)) (L' := [(19, 0), (0, ((n : Nat) : Int)), (0, ((i : Nat) : Int)), (0, (((cntN (k + 1) (drQ O i)) : Nat) : Int)), (0, ((k : Nat) : Int)), (0, (((O k) : Nat) : Int))]) dX3_remove_47 rfl (by rw [cntN_t (k := k) (by simp [drQ]; omega)]; omega) (by decide) rfl rfl ?_
          refine J_iinc (v := (((k + 1) : Nat) : Int)) (L' := [(19, 0), (0, ((n : Nat) : Int)), (0, ((i : Nat) : Int)), (0, (((cntN (k + 1) (drQ O i)) : Nat) : Int)), (0, (((k + 1) : Nat) : Int)), (0, (((O k) : Nat) : Int))]) dX3_remove_50 rfl (by omega) (by decide) rfl rfl ?_
          refine J_goto (tgt := 5) dX3_remove_53 rfl ?_
          refine J_unset 5 (L' := [(19, 0), (0, ((n : Nat) : Int)), (0, ((i : Nat) : Int)), (0, (((cntN (k + 1) (drQ O i)) : Nat) : Int)), (0, (((k + 1) : Nat) : Int)), (9, 0)]) rfl ?_
          exact ih _ _ (by exact Ch_up (by decide) f1) (by have hq : drQ O i k = true := (by simp [drQ]; omega); intro j hj; rw [cntN_t hq] at hj; have hle := cntN_le k (drQ O i); by_cases e : j = cntN k (drQ O i); rw [e, j_up_eq, nthN_hit hq rfl (by omega), Int.toNat_natCast]; unfold drV; rw [if_pos (by omega)]; rw [j_up_nz (by omega), f2 j (by omega), nthN_stay (m := k) (n := k + 1) (by have := nthN_ge (p := drQ O i) (n := k) (i := j) (by omega); omega) (by omega)]) (by intro j h1 h2; have hle := cntN_le k (drQ O i); rw [j_up_nz (by omega)]; exact f3 j (by omega) h2) (by omega) (by omega)
set_option maxRecDepth 100000 in
set_option maxHeartbeats 4000000 in
theorem ev_X3_remove (n : Nat) (hn12 : n ≤ 12) (O : Nat → Nat) (hO : ∀ k, k < n → O k < n) (M : jM) (h10 : ∀ k : Nat, k < n → M 10 (k : Int) = (O k : Int)) (i : Nat) (hi : i < n) : Ev 0 mX3_remove [(19, 0), (0, ((n : Nat) : Int)), (0, ((i : Nat) : Int))] M (fun z M' => Ch [10] M M' ∧ ∀ j : Nat, j < cntN n (drQ O i) → M' 10 (j : Int) = ((drV O i (nthN n (drQ O i) (j : Int)).toNat : Nat) : Int)) := by
  refine Ev_of (by decide +kernel) (Nat.le_of_ble_eq_true rfl) (L := [(19, 0), (0, ((n : Nat) : Int)), (0, ((i : Nat) : Int)), (9, 0), (9, 0), (9, 0)]) rfl ?_
  refine J_iconst dX3_remove_0 ?_
  refine J_istore_n (L' := [(19, 0), (0, ((n : Nat) : Int)), (0, ((i : Nat) : Int)), (0, 0), (9, 0), (9, 0)]) dX3_remove_1 (by decide) rfl rfl ?_
  refine J_iconst dX3_remove_2 ?_
  refine J_eq (L' := [(19, 0), (0, ((n : Nat) : Int)), (0, ((i : Nat) : Int)), (0, (((cntN 0 (drQ O i)) : Nat) : Int)), (9, 0), (9, 0)]) rfl rfl rfl ?_
  refine J_istore (L' := [(19, 0), (0, ((n : Nat) : Int)), (0, ((i : Nat) : Int)), (0, (((cntN 0 (drQ O i)) : Nat) : Int)), (0, 0), (9, 0)]) dX3_remove_3 (by decide) rfl rfl ?_
  refine J_eq (L' := [(19, 0), (0, ((n : Nat) : Int)), (0, ((i : Nat) : Int)), (0, (((cntN 0 (drQ O i)) : Nat) : Int)), (0, ((0 : Nat) : Int)), (9, 0)]) rfl rfl rfl ?_
  exact ev_X3_remove_L5 n hn12 O hO M h10 i hi  _ _ _ (by exact Ch_rf) (by intro j hj; simp [cntN] at hj) (by intro j _ hj; exact h10 j hj) (by omega) (Nat.lt_succ_self _)
set_option maxRecDepth 100000 in
set_option maxHeartbeats 4000000 in
theorem ev_X3_exchange (P D n : Nat) (F O : Nat → Nat) (M : jM) (hR : KR P D n F O M) (k : Nat) (hk : k + 1 < n) : Ev 0 mX3_exchange [(19, 0), (0, ((k : Nat) : Int))] M (fun z M' => KR P D n F (swp O k) M' ∧ Ch [10] M M') := by
  refine Ev_of (by decide +kernel) (Nat.le_of_ble_eq_true rfl) (L := [(19, 0), (0, ((k : Nat) : Int)), (9, 0)]) rfl ?_
  have hn12 := KR.hn hR
  have hP7 := KR.hP hR
  have hD5 := KR.hD hR
  have h2P : 2 ^ P ≤ 128 := Nat.pow_le_pow_right (n := 2) (by decide) hP7
  have h2p := Nat.two_pow_pos P
  refine J_iload_n dX3_exchange_0 rfl ?_
  refine J_if_lt (tgt := 42) dX3_exchange_1 rfl (j_R (by omega)) (fun h1 => ?_) (fun h1 => ?_)
  · omega
  ·
    refine J_iload_n dX3_exchange_4 rfl ?_
    refine J_iconst dX3_exchange_5 ?_
    refine J_iadd dX3_exchange_6 (J_top (v := (((k + 1) : Nat) : Int)) (by omega) ?_)
    refine J_bipush dX3_exchange_7 (by decide) ?_
    refine J_icmp_ge (tgt := 42) dX3_exchange_9 rfl (j_R (by omega)) (by decide) (fun h9 => ?_) (fun h9 => ?_)
    · omega
    ·
      refine J_aload_n dX3_exchange_12 rfl ?_
      refine J_getR dX3_exchange_13 flX3_9 rfl rfl ?_
      refine J_iload_n dX3_exchange_16 rfl ?_
      refine J_iald dX3_exchange_17 rfl (by decide) (KR.ix hR (by omega)) (J_top (v := (((O k) : Nat) : Int)) (KR.gO hR (by omega)) ?_)
      refine J_istore_n (L' := [(19, 0), (0, ((k : Nat) : Int)), (0, (((O k) : Nat) : Int))]) dX3_exchange_18 (by decide) rfl rfl ?_
      refine J_aload_n dX3_exchange_19 rfl ?_
      refine J_getR dX3_exchange_20 flX3_9 rfl rfl ?_
      refine J_iload_n dX3_exchange_23 rfl ?_
      refine J_aload_n dX3_exchange_24 rfl ?_
      refine J_getR dX3_exchange_25 flX3_9 rfl rfl ?_
      refine J_iload_n dX3_exchange_28 rfl ?_
      refine J_iconst dX3_exchange_29 ?_
      refine J_iadd dX3_exchange_30 (J_top (v := (((k + 1) : Nat) : Int)) (by omega) ?_)
      refine J_iald dX3_exchange_31 rfl (by decide) (KR.ix hR (by omega)) (J_top (v := (((O (k + 1)) : Nat) : Int)) (KR.gO hR (by omega)) ?_)
      refine J_iast dX3_exchange_32 rfl (by decide) (by omega) ?_
      refine J_aload_n dX3_exchange_33 rfl ?_
      refine J_getR dX3_exchange_34 flX3_9 rfl rfl ?_
      refine J_iload_n dX3_exchange_37 rfl ?_
      refine J_iconst dX3_exchange_38 ?_
      refine J_iadd dX3_exchange_39 (J_top (v := (((k + 1) : Nat) : Int)) (by omega) ?_)
      refine J_iload_n dX3_exchange_40 rfl ?_
      refine J_iast dX3_exchange_41 rfl (by decide) (by omega) ?_
      refine J_return dX3_exchange_42 rfl ?_
      refine ⟨⟨⟨swp_wf hR.wf hk, hR.gP, hR.gD, hR.gn, fun i hi => hR.gF hi, ?_⟩, hR.2⟩, Ch_up (by decide) (Ch_up (by decide) Ch_rf)⟩
      intro i hi
      unfold swp
      rw [j_up_ap, j_up_ap]
      by_cases e1 : i = k
      · subst e1
        rw [if_neg (by omega), if_pos ⟨rfl, rfl⟩, if_pos rfl]
      · by_cases e2 : i = k + 1
        · subst e2
          rw [if_pos ⟨rfl, by omega⟩, if_neg e1, if_pos rfl]
        · rw [if_neg (by omega), if_neg (by omega), if_neg e1, if_neg e2]
          exact hR.gO hi
set_option maxRecDepth 100000 in
set_option maxHeartbeats 4000000 in
theorem ev_X3_carry_L20 (P D n : Nat) (F O : Nat → Nat) (M : jM) (hR : KR P D n F O M) (f t : Nat) (hf : f < n) (ht : t < n)  : ∀ (fu : Nat) (M1 : jM) (k : Nat) (g1 : KR P D n F (mvO O f (if t ≤ k then k else t)) M1) (g2 : Ch [10] M M1) (g3 : k ≤ f) (g4 : t ≤ k ∨ k = f) (hfu : k - t < fu), J none 1 mX3_carry 20 [(19, 0), (0, ((f : Nat) : Int)), (0, ((t : Nat) : Int)), (0, ((k : Nat) : Int))] [] M1 (j_ret mX3_carry (fun z M' => KR P D n F (mvO O f t) M' ∧ Ch [10] M M')) := by
  intro fu
  induction fu with
  | zero => intro M1 k g1 g2 g3 g4 hfu; exact absurd hfu (Nat.not_lt_zero _)
  | succ fu ih =>
    intro M1 k g1 g2 g3 g4 hfu
    have hn12 := KR.hn hR
    have hP7 := KR.hP hR
    have hD5 := KR.hD hR
    have h2P : 2 ^ P ≤ 128 := Nat.pow_le_pow_right (n := 2) (by decide) hP7
    have h2p := Nat.two_pow_pos P
    refine J_iload_n dX3_carry_20 rfl ?_
    refine J_iload_n dX3_carry_21 rfl ?_
    refine J_icmp_le (tgt := 38) dX3_carry_22 rfl (j_R (by omega)) (j_R (by omega)) (fun h22 => ?_) (fun h22 => ?_)
    ·
      refine J_return dX3_carry_38 rfl ?_
      have e9 : (if t ≤ k then k else t) = t := by split <;> omega
      rw [e9] at g1
      exact ⟨g1, g2⟩
    ·
      refine J_aload_n dX3_carry_25 rfl ?_
      refine J_iload_n dX3_carry_26 rfl ?_
      refine J_iconst dX3_carry_27 ?_
      refine J_isub dX3_carry_28 (J_top (v := (((k - 1) : Nat) : Int)) (by omega) ?_)
      refine J_callVv (cl := mX3_exchange) [(0, (((k - 1) : Nat) : Int))] [] dX3_carry_29 mlX3_15 cvX3_exchange rfl rfl rfl rfl rfl (by decide) (Nat.le_of_ble_eq_true rfl) rfl (ev_X3_exchange P D n F (mvO O f k) M1 (by rw [if_pos (by omega)] at g1; exact g1) (k - 1) (by omega)) (fun Ma hq29 => ?_)
      obtain ⟨c1, c2⟩ := hq29
      obtain ⟨k2, rfl⟩ : ∃ k2, k = k2 + 1 := ⟨k - 1, by omega⟩
      rw [show k2 + 1 - 1 = k2 by omega, mv_dn O (by omega)] at c1
      refine J_iinc (v := (((k2) : Nat) : Int)) (L' := [(19, 0), (0, ((f : Nat) : Int)), (0, ((t : Nat) : Int)), (0, (((k2) : Nat) : Int))]) dX3_carry_32 rfl (by omega) (by decide) rfl rfl ?_
      refine J_goto (tgt := 20) dX3_carry_35 rfl ?_
      exact ih _ _ (by rw [if_pos (by omega)]; exact c1) (by exact Ch_tr g2 c2) (by omega) (by omega) (by omega)
set_option maxRecDepth 100000 in
set_option maxHeartbeats 4000000 in
theorem ev_X3_carry_L2 (P D n : Nat) (F O : Nat → Nat) (M : jM) (hR : KR P D n F O M) (f t : Nat) (hf : f < n) (ht : t < n)  : ∀ (fu : Nat) (M1 : jM) (k : Nat) (g1 : KR P D n F (mvO O f k) M1) (g2 : Ch [10] M M1) (g3 : f ≤ k) (g4 : k ≤ t ∨ k = f) (hfu : t - k < fu), J none 1 mX3_carry 2 [(19, 0), (0, ((f : Nat) : Int)), (0, ((t : Nat) : Int)), (0, ((k : Nat) : Int))] [] M1 (j_ret mX3_carry (fun z M' => KR P D n F (mvO O f t) M' ∧ Ch [10] M M')) := by
  intro fu
  induction fu with
  | zero => intro M1 k g1 g2 g3 g4 hfu; exact absurd hfu (Nat.not_lt_zero _)
  | succ fu ih =>
    intro M1 k g1 g2 g3 g4 hfu
    have hn12 := KR.hn hR
    have hP7 := KR.hP hR
    have hD5 := KR.hD hR
    have h2P : 2 ^ P ≤ 128 := Nat.pow_le_pow_right (n := 2) (by decide) hP7
    have h2p := Nat.two_pow_pos P
    refine J_iload_n dX3_carry_2 rfl ?_
    refine J_iload_n dX3_carry_3 rfl ?_
    refine J_icmp_ge (tgt := 18) dX3_carry_4 rfl (j_R (by omega)) (j_R (by omega)) (fun h4 => ?_) (fun h4 => ?_)
    ·
      refine J_iload_n dX3_carry_18 rfl ?_
      refine J_istore_n (L' := [(19, 0), (0, ((f : Nat) : Int)), (0, ((t : Nat) : Int)), (0, ((f : Nat) : Int))]) dX3_carry_19 (by decide) rfl rfl ?_
      exact ev_X3_carry_L20 P D n F O M hR f t hf ht  _ _ _ (by by_cases e : t ≤ f; rw [if_pos e]; rw [show k = f by omega] at g1; exact g1; rw [if_neg e]; rw [show k = t by omega] at g1; exact g1) (by exact g2) (by omega) (by omega) (Nat.lt_succ_self _)
    ·
      refine J_aload_n dX3_carry_7 rfl ?_
      refine J_iload_n dX3_carry_8 rfl ?_
      refine J_callVv (cl := mX3_exchange) [(0, ((k : Nat) : Int))] [] dX3_carry_9 mlX3_15 cvX3_exchange rfl rfl rfl rfl rfl (by decide) (Nat.le_of_ble_eq_true rfl) rfl (ev_X3_exchange P D n F (mvO O f k) M1 g1 k (by omega)) (fun Ma hq9 => ?_)
      obtain ⟨c1, c2⟩ := hq9
      rw [mv_up O (by omega)] at c1
      refine J_iinc (v := (((k + 1) : Nat) : Int)) (L' := [(19, 0), (0, ((f : Nat) : Int)), (0, ((t : Nat) : Int)), (0, (((k + 1) : Nat) : Int))]) dX3_carry_12 rfl (by omega) (by decide) rfl rfl ?_
      refine J_goto (tgt := 2) dX3_carry_15 rfl ?_
      exact ih _ _ (by exact c1) (by exact Ch_tr g2 c2) (by omega) (by omega) (by omega)
set_option maxRecDepth 100000 in
set_option maxHeartbeats 4000000 in
theorem ev_X3_carry (P D n : Nat) (F O : Nat → Nat) (M : jM) (hR : KR P D n F O M) (f t : Nat) (hf : f < n) (ht : t < n) : Ev 1 mX3_carry [(19, 0), (0, ((f : Nat) : Int)), (0, ((t : Nat) : Int))] M (fun z M' => KR P D n F (mvO O f t) M' ∧ Ch [10] M M') := by
  refine Ev_of (by decide +kernel) (Nat.le_of_ble_eq_true rfl) (L := [(19, 0), (0, ((f : Nat) : Int)), (0, ((t : Nat) : Int)), (9, 0)]) rfl ?_
  have hn12 := KR.hn hR
  have hP7 := KR.hP hR
  have hD5 := KR.hD hR
  have h2P : 2 ^ P ≤ 128 := Nat.pow_le_pow_right (n := 2) (by decide) hP7
  have h2p := Nat.two_pow_pos P
  refine J_iload_n dX3_carry_0 rfl ?_
  refine J_istore_n (L' := [(19, 0), (0, ((f : Nat) : Int)), (0, ((t : Nat) : Int)), (0, ((f : Nat) : Int))]) dX3_carry_1 (by decide) rfl rfl ?_
  exact ev_X3_carry_L2 P D n F O M hR f t hf ht  _ _ _ (by rw [mv_id]; exact hR) (by exact Ch_rf) (by omega) (by omega) (Nat.lt_succ_self _)
set_option maxRecDepth 100000 in
set_option maxHeartbeats 4000000 in
theorem ev_X3_isPlace (P D n : Nat) (F O : Nat → Nat) (M : jM) (hR : KR P D n F O M) (i : Int) (hi : -2147483648 ≤ i ∧ i < 2147483648) : Ev 0 mX3_isPlace [(19, 0), (14, 0), (0, i)] M (fun z M' => z = ((Bool.toNat (bI n i) : Nat) : Int) ∧ M' = M) := by
  refine Ev_of (by decide +kernel) (Nat.le_of_ble_eq_true rfl) (L := [(19, 0), (14, 0), (0, i)]) rfl ?_
  have hn12 := KR.hn hR
  have hP7 := KR.hP hR
  have hD5 := KR.hD hR
  have h2P : 2 ^ P ≤ 128 := Nat.pow_le_pow_right (n := 2) (by decide) hP7
  have h2p := Nat.two_pow_pos P
  refine J_iload_n dX3_isPlace_0 rfl ?_
  refine J_if_lt (tgt := 16) dX3_isPlace_1 rfl (by omega) (fun h1 => ?_) (fun h1 => ?_)
  ·
    refine J_iconst dX3_isPlace_16 ?_
    refine J_zreturn dX3_isPlace_17 rfl (Or.inl rfl) ?_
    exact ⟨df (by omega), rfl⟩
  ·
    refine J_iload_n dX3_isPlace_4 rfl ?_
    refine J_aload_n dX3_isPlace_5 rfl ?_
    refine J_getI dX3_isPlace_6 flX3_19 rfl rfl (J_top (v := ((n : Nat) : Int)) (KR.gn hR) ?_)
    refine J_icmp_ge (tgt := 16) dX3_isPlace_9 rfl (by omega) (j_R (by omega)) (fun h9 => ?_) (fun h9 => ?_)
    ·
      refine J_iconst dX3_isPlace_16 ?_
      refine J_zreturn dX3_isPlace_17 rfl (Or.inl rfl) ?_
      exact ⟨df (by omega), rfl⟩
    ·
      refine J_iconst dX3_isPlace_12 ?_
      refine J_goto (tgt := 17) dX3_isPlace_13 rfl ?_
      refine J_zreturn dX3_isPlace_17 rfl (Or.inr rfl) ?_
      exact ⟨dt (by omega), rfl⟩
set_option maxRecDepth 100000 in
set_option maxHeartbeats 4000000 in
theorem ev_X3_ahead_L4 (P D n : Nat) (F O : Nat → Nat) (M : jM) (hR : KR P D n F O M) (pl : Nat) (hpl : pl ≤ n)  : ∀ (fu : Nat) (x k : Nat) (h1 : x = ahd O k) (h2 : k ≤ pl) (hfu : pl - k < fu), J none 0 mX3_ahead 4 [(19, 0), (0, ((pl : Nat) : Int)), (0, ((x : Nat) : Int)), (0, ((k : Nat) : Int))] [] M (j_ret mX3_ahead (fun z M' => z = ((ahd O pl : Nat) : Int) ∧ M' = M)) := by
  intro fu
  induction fu with
  | zero => intro x k h1 h2 hfu; exact absurd hfu (Nat.not_lt_zero _)
  | succ fu ih =>
    intro x k h1 h2 hfu
    have hn12 := KR.hn hR
    have hP7 := KR.hP hR
    have hD5 := KR.hD hR
    have h2P : 2 ^ P ≤ 128 := Nat.pow_le_pow_right (n := 2) (by decide) hP7
    have h2p := Nat.two_pow_pos P
    refine J_iload_n dX3_ahead_4 rfl ?_
    refine J_iload_n dX3_ahead_5 rfl ?_
    refine J_icmp_ge (tgt := 32) dX3_ahead_6 rfl (j_R (by omega)) (j_R (by omega)) (fun h6 => ?_) (fun h6 => ?_)
    ·
      refine J_iload_n dX3_ahead_32 rfl ?_
      refine J_ireturn dX3_ahead_33 rfl ?_
      have : k = pl := by omega
      subst this
      exact ⟨by rw [h1], rfl⟩
    ·
      refine J_iload_n dX3_ahead_9 rfl ?_
      refine J_bipush dX3_ahead_10 (by decide) ?_
      refine J_icmp_ge (tgt := 32) dX3_ahead_12 rfl (j_R (by omega)) (by decide) (fun h12 => ?_) (fun h12 => ?_)
      · omega
      ·
        refine J_iload_n dX3_ahead_15 rfl ?_
        refine J_iconst dX3_ahead_16 ?_
        refine J_aload_n dX3_ahead_17 rfl ?_
        refine J_getR dX3_ahead_18 flX3_9 rfl rfl ?_
        refine J_iload_n dX3_ahead_21 rfl ?_
        refine J_iald dX3_ahead_22 rfl (by decide) (KR.ix hR (by omega)) (J_top (v := (((O k) : Nat) : Int)) (KR.gO hR (by omega)) ?_)
        refine J_ishl dX3_ahead_23 (J_top (v := (((2 ^ (O k)) : Nat) : Int)) (j_shl1 rfl rfl (by have := KR.ob hR (i := k) (by omega); omega)) ?_)
        refine J_ior dX3_ahead_24 (J_top (v := (((x ||| (2 ^ (O k))) : Nat) : Int)) (j_orN rfl rfl (by rw [h1]; exact KR.ah31 hR (by omega)) (nb_p2 (by have := KR.ob hR (i := k) (by omega); omega))) ?_)
        refine J_istore_n (L' := [(19, 0), (0, ((pl : Nat) : Int)), (0, (((x ||| (2 ^ (O k))) : Nat) : Int)), (0, ((k : Nat) : Int))]) dX3_ahead_25 (by decide) rfl rfl ?_
        refine J_iinc (v := (((k + 1) : Nat) : Int)) (L' := [(19, 0), (0, ((pl : Nat) : Int)), (0, (((x ||| (2 ^ (O k))) : Nat) : Int)), (0, (((k + 1) : Nat) : Int))]) dX3_ahead_26 rfl (by omega) (by decide) rfl rfl ?_
        refine J_goto (tgt := 4) dX3_ahead_29 rfl ?_
        exact ih _ _ (by rw [h1]; rfl) (by omega) (by omega)
set_option maxRecDepth 100000 in
set_option maxHeartbeats 4000000 in
theorem ev_X3_ahead (P D n : Nat) (F O : Nat → Nat) (M : jM) (hR : KR P D n F O M) (pl : Nat) (hpl : pl ≤ n) : Ev 0 mX3_ahead [(19, 0), (0, ((pl : Nat) : Int))] M (fun z M' => z = ((ahd O pl : Nat) : Int) ∧ M' = M) := by
  refine Ev_of (by decide +kernel) (Nat.le_of_ble_eq_true rfl) (L := [(19, 0), (0, ((pl : Nat) : Int)), (9, 0), (9, 0)]) rfl ?_
  have hn12 := KR.hn hR
  have hP7 := KR.hP hR
  have hD5 := KR.hD hR
  have h2P : 2 ^ P ≤ 128 := Nat.pow_le_pow_right (n := 2) (by decide) hP7
  have h2p := Nat.two_pow_pos P
  refine J_iconst dX3_ahead_0 ?_
  refine J_istore_n (L' := [(19, 0), (0, ((pl : Nat) : Int)), (0, 0), (9, 0)]) dX3_ahead_1 (by decide) rfl rfl ?_
  refine J_iconst dX3_ahead_2 ?_
  refine J_istore_n (L' := [(19, 0), (0, ((pl : Nat) : Int)), (0, 0), (0, 0)]) dX3_ahead_3 (by decide) rfl rfl ?_
  refine J_eq (L' := [(19, 0), (0, ((pl : Nat) : Int)), (0, ((0 : Nat) : Int)), (0, ((0 : Nat) : Int))]) rfl rfl rfl ?_
  exact ev_X3_ahead_L4 P D n F O M hR pl hpl  _ _ _ (by rfl) (by omega) (Nat.lt_succ_self _)
set_option maxRecDepth 100000 in
set_option maxHeartbeats 4000000 in
theorem ev_X3_fitsAt (P D n : Nat) (F O : Nat → Nat) (M : jM) (hR : KR P D n F O M) (pl : Nat) (hpl : pl < n) : Ev 1 mX3_fitsAt [(19, 0), (14, 0), (0, ((pl : Nat) : Int))] M (fun z M' => z = ((Bool.toNat (jnA F O pl) : Nat) : Int) ∧ M' = M) := by
  refine Ev_of (by decide +kernel) (Nat.le_of_ble_eq_true rfl) (L := [(19, 0), (14, 0), (0, ((pl : Nat) : Int))]) rfl ?_
  have hn12 := KR.hn hR
  have hP7 := KR.hP hR
  have hD5 := KR.hD hR
  have h2P : 2 ^ P ≤ 128 := Nat.pow_le_pow_right (n := 2) (by decide) hP7
  have h2p := Nat.two_pow_pos P
  refine J_aload_n dX3_fitsAt_0 rfl ?_
  refine J_aload_n dX3_fitsAt_1 rfl ?_
  refine J_getR dX3_fitsAt_2 flX3_9 rfl rfl ?_
  refine J_iload_n dX3_fitsAt_5 rfl ?_
  refine J_iald dX3_fitsAt_6 rfl (by decide) (KR.ix hR (by omega)) (J_top (v := (((O pl) : Nat) : Int)) (KR.gO hR (by omega)) ?_)
  refine J_aload_n dX3_fitsAt_7 rfl ?_
  refine J_iload_n dX3_fitsAt_8 rfl ?_
  refine J_callViQ (cl := mX3_ahead) [(0, ((pl : Nat) : Int))] [(0, (((O pl) : Nat) : Int)), (14, 0)] dX3_fitsAt_9 mlX3_25 cvX3_ahead rfl rfl rfl rfl rfl (by decide) (Nat.le_of_ble_eq_true rfl) rfl (ev_X3_ahead P D n F O M hR pl (by omega)) ?_
  refine J_callViQ (cl := mX0_fits) [(0, (((O pl) : Nat) : Int)), (0, (((ahd O pl) : Nat) : Int))] [] dX3_fitsAt_12 mlX3_29 cvX0_fits rfl rfl rfl rfl rfl (by decide) (Nat.le_of_ble_eq_true rfl) rfl (ev_X0_fits P D n F O M hR (O pl) (ahd O pl) (KR.ob hR (by omega)) (KR.ah hR (by omega))) ?_
  refine J_zreturn dX3_fitsAt_15 rfl (b01 _) ?_
  exact ⟨rfl, rfl⟩
set_option maxRecDepth 100000 in
set_option maxHeartbeats 4000000 in
theorem ev_X3_restriction (P D n : Nat) (F O : Nat → Nat) (M : jM) (hR : KR P D n F O M) (pl : Nat) (hpl : pl < n) : Ev 1 mX3_restriction [(19, 0), (14, 0), (0, ((pl : Nat) : Int))] M (fun z M' => z = ((rst F O pl : Nat) : Int) ∧ M' = M) := by
  refine Ev_of (by decide +kernel) (Nat.le_of_ble_eq_true rfl) (L := [(19, 0), (14, 0), (0, ((pl : Nat) : Int))]) rfl ?_
  have hn12 := KR.hn hR
  have hP7 := KR.hP hR
  have hD5 := KR.hD hR
  have h2P : 2 ^ P ≤ 128 := Nat.pow_le_pow_right (n := 2) (by decide) hP7
  have h2p := Nat.two_pow_pos P
  refine J_aload_n dX3_restriction_0 rfl ?_
  refine J_aload_n dX3_restriction_1 rfl ?_
  refine J_getR dX3_restriction_2 flX3_9 rfl rfl ?_
  refine J_iload_n dX3_restriction_5 rfl ?_
  refine J_iald dX3_restriction_6 rfl (by decide) (KR.ix hR (by omega)) (J_top (v := (((O pl) : Nat) : Int)) (KR.gO hR (by omega)) ?_)
  refine J_aload_n dX3_restriction_7 rfl ?_
  refine J_iload_n dX3_restriction_8 rfl ?_
  refine J_callViQ (cl := mX3_ahead) [(0, ((pl : Nat) : Int))] [(0, (((O pl) : Nat) : Int)), (14, 0)] dX3_restriction_9 mlX3_25 cvX3_ahead rfl rfl rfl rfl rfl (by decide) (Nat.le_of_ble_eq_true rfl) rfl (ev_X3_ahead P D n F O M hR pl (by omega)) ?_
  refine J_callViQ (cl := mX0_restriction) [(0, (((O pl) : Nat) : Int)), (0, (((ahd O pl) : Nat) : Int))] [] dX3_restriction_12 mlX3_33 cvX0_restriction rfl rfl rfl rfl rfl (by decide) (Nat.le_of_ble_eq_true rfl) rfl (ev_X0_restriction P D n F O M hR (O pl) (ahd O pl) (KR.ob hR (by omega)) (KR.ah31 hR (by omega))) ?_
  refine J_ireturn dX3_restriction_15 rfl ?_
  exact ⟨by rw [rst_eq hR.wf hpl], rfl⟩
set_option maxRecDepth 100000 in
set_option maxHeartbeats 4000000 in
theorem ev_X3_goodStart_L2 (P D n : Nat) (F O : Nat → Nat) (M : jM) (hR : KR P D n F O M)  : ∀ (fu : Nat) (k : Nat) (h1 : anyN k (fun k => !jnA F O k) = false) (h2 : k ≤ n) (hfu : n - k < fu), J none 2 mX3_goodStart 2 [(19, 0), (14, 0), (0, ((k : Nat) : Int))] [] M (j_ret mX3_goodStart (fun z M' => z = gdN n F O ∧ M' = M)) := by
  intro fu
  induction fu with
  | zero => intro k h1 h2 hfu; exact absurd hfu (Nat.not_lt_zero _)
  | succ fu ih =>
    intro k h1 h2 hfu
    have hn12 := KR.hn hR
    have hP7 := KR.hP hR
    have hD5 := KR.hD hR
    have h2P : 2 ^ P ≤ 128 := Nat.pow_le_pow_right (n := 2) (by decide) hP7
    have h2p := Nat.two_pow_pos P
    refine J_iload_n dX3_goodStart_2 rfl ?_
    refine J_aload_n dX3_goodStart_3 rfl ?_
    refine J_getI dX3_goodStart_4 flX3_19 rfl rfl (J_top (v := ((n : Nat) : Int)) (KR.gn hR) ?_)
    refine J_icmp_ge (tgt := 27) dX3_goodStart_7 rfl (j_R (by omega)) (j_R (by omega)) (fun h7 => ?_) (fun h7 => ?_)
    ·
      refine J_aload_n dX3_goodStart_27 rfl ?_
      refine J_getI dX3_goodStart_28 flX3_19 rfl rfl (J_top (v := ((n : Nat) : Int)) (KR.gn hR) ?_)
      refine J_ireturn dX3_goodStart_31 rfl ?_
      have : k = n := by omega
      subst this
      exact ⟨by unfold gdN; rw [fstN_none h1], rfl⟩
    ·
      refine J_aload_n dX3_goodStart_10 rfl ?_
      refine J_aload_n dX3_goodStart_11 rfl ?_
      refine J_iload_n dX3_goodStart_12 rfl ?_
      refine J_callViQ (cl := mX3_fitsAt) [(14, 0), (0, ((k : Nat) : Int))] [] dX3_goodStart_13 mlX3_37 cvX3_fitsAt rfl rfl rfl rfl rfl (by decide) (Nat.le_of_ble_eq_true rfl) rfl (ev_X3_fitsAt P D n F O M hR k (by omega)) ?_
      refine J_ifb_ne (tgt := 21) dX3_goodStart_16 rfl (fun h16 => ?_) (fun h16 => ?_)
      ·
        refine J_iinc (v := (((k + 1) : Nat) : Int)) (L' := [(19, 0), (14, 0), (0, (((k + 1) : Nat) : Int))]) dX3_goodStart_21 rfl (by omega) (by decide) rfl rfl ?_
        refine J_goto (tgt := 2) dX3_goodStart_24 rfl ?_
        exact ih _ (by rw [anyN_f (by simp [h16]), h1]) (by omega) (by omega)
      ·
        refine J_iload_n dX3_goodStart_19 rfl ?_
        refine J_ireturn dX3_goodStart_20 rfl ?_
        exact ⟨by unfold gdN; rw [fstN_hit h1 (by simp [h16]) (by omega)], rfl⟩
set_option maxRecDepth 100000 in
set_option maxHeartbeats 4000000 in
theorem ev_X3_goodStart (P D n : Nat) (F O : Nat → Nat) (M : jM) (hR : KR P D n F O M) : Ev 2 mX3_goodStart [(19, 0), (14, 0)] M (fun z M' => z = gdN n F O ∧ M' = M) := by
  refine Ev_of (by decide +kernel) (Nat.le_of_ble_eq_true rfl) (L := [(19, 0), (14, 0), (9, 0)]) rfl ?_
  have hn12 := KR.hn hR
  have hP7 := KR.hP hR
  have hD5 := KR.hD hR
  have h2P : 2 ^ P ≤ 128 := Nat.pow_le_pow_right (n := 2) (by decide) hP7
  have h2p := Nat.two_pow_pos P
  refine J_iconst dX3_goodStart_0 ?_
  refine J_istore_n (L' := [(19, 0), (14, 0), (0, 0)]) dX3_goodStart_1 (by decide) rfl rfl ?_
  refine J_eq (L' := [(19, 0), (14, 0), (0, ((0 : Nat) : Int))]) rfl rfl rfl ?_
  exact ev_X3_goodStart_L2 P D n F O M hR  _ _ (by rfl) (by omega) (Nat.lt_succ_self _)
set_option maxRecDepth 100000 in
set_option maxHeartbeats 4000000 in
theorem ev_X3_nthBreak_L5 (P D n : Nat) (F O : Nat → Nat) (M : jM) (hR : KR P D n F O M) (i : Int) (hi : -2147483648 ≤ i ∧ i < 2147483648)  : ∀ (fu : Nat) (l : Int) (k : Nat) (h1 : l = i - cntN k (fun k => !jnA F O k)) (h2 : k ≤ n) (h3 : nthN k (fun k => !jnA F O k) i = -1) (h4 : -2147483648 ≤ l ∧ l < 2147483648) (hfu : n - k < fu), J none 2 mX3_nthBreak 5 [(19, 0), (14, 0), (0, i), (0, l), (0, ((k : Nat) : Int))] [] M (j_ret mX3_nthBreak (fun z M' => z = nthN n (fun k => !jnA F O k) i ∧ M' = M)) := by
  intro fu
  induction fu with
  | zero => intro l k h1 h2 h3 h4 hfu; exact absurd hfu (Nat.not_lt_zero _)
  | succ fu ih =>
    intro l k h1 h2 h3 h4 hfu
    have hn12 := KR.hn hR
    have hP7 := KR.hP hR
    have hD5 := KR.hD hR
    have h2P : 2 ^ P ≤ 128 := Nat.pow_le_pow_right (n := 2) (by decide) hP7
    have h2p := Nat.two_pow_pos P
    refine J_iload dX3_nthBreak_5 rfl ?_
    refine J_aload_n dX3_nthBreak_7 rfl ?_
    refine J_getI dX3_nthBreak_8 flX3_19 rfl rfl (J_top (v := ((n : Nat) : Int)) (KR.gn hR) ?_)
    refine J_icmp_ge (tgt := 44) dX3_nthBreak_11 rfl (j_R (by omega)) (j_R (by omega)) (fun h11 => ?_) (fun h11 => ?_)
    ·
      refine J_iconst dX3_nthBreak_44 ?_
      refine J_ireturn dX3_nthBreak_45 rfl ?_
      have : k = n := by omega
      subst this
      exact ⟨h3.symm, rfl⟩
    ·
      refine J_iload_n dX3_nthBreak_14 rfl ?_
      refine J_if_lt (tgt := 44) dX3_nthBreak_15 rfl h4 (fun h15 => ?_) (fun h15 => ?_)
      ·
        refine J_iconst dX3_nthBreak_44 ?_
        refine J_ireturn dX3_nthBreak_45 rfl ?_
        have h9 := cntN_mono (p := (fun k => !jnA F O k)) h2
        exact ⟨by by_cases e : i < 0; rw [nthN_neg e]; rw [nth_gone h2 (by omega) h3], rfl⟩
      ·
        refine J_aload_n dX3_nthBreak_18 rfl ?_
        refine J_aload_n dX3_nthBreak_19 rfl ?_
        refine J_iload dX3_nthBreak_20 rfl ?_
        refine J_callViQ (cl := mX3_fitsAt) [(14, 0), (0, ((k : Nat) : Int))] [] dX3_nthBreak_22 mlX3_37 cvX3_fitsAt rfl rfl rfl rfl rfl (by decide) (Nat.le_of_ble_eq_true rfl) rfl (ev_X3_fitsAt P D n F O M hR k (by omega)) ?_
        refine J_ifb_ne (tgt := 38) dX3_nthBreak_25 rfl (fun h25 => ?_) (fun h25 => ?_)
        ·
          refine J_iinc (v := (((k + 1) : Nat) : Int)) (L' := [(19, 0), (14, 0), (0, i), (0, l), (0, (((k + 1) : Nat) : Int))]) dX3_nthBreak_38 rfl (by omega) (by decide) rfl rfl ?_
          refine J_goto (tgt := 5) dX3_nthBreak_41 rfl ?_
          exact ih _ _ (by rw [cntN_f (by simp [h25]), h1]) (by omega) (by simp only [nthN]; rw [if_pos h3, if_neg (by rintro ⟨e, -⟩; simp [h25] at e)]) (by exact h4) (by omega)
        ·
          refine J_iload_n dX3_nthBreak_28 rfl ?_
          refine J_if_ne (tgt := 35) dX3_nthBreak_29 rfl h4 (fun h29 => ?_) (fun h29 => ?_)
          ·
            refine J_iinc (v := (l - 1)) (L' := [(19, 0), (14, 0), (0, i), (0, (l - 1)), (0, ((k : Nat) : Int))]) dX3_nthBreak_35 rfl (by omega) (by decide) rfl rfl ?_
            refine J_iinc (v := (((k + 1) : Nat) : Int)) (L' := [(19, 0), (14, 0), (0, i), (0, (l - 1)), (0, (((k + 1) : Nat) : Int))]) dX3_nthBreak_38 rfl (by omega) (by decide) rfl rfl ?_
            refine J_goto (tgt := 5) dX3_nthBreak_41 rfl ?_
            exact ih _ _ (by rw [cntN_t (by simp [h25]), h1]; omega) (by omega) (by simp only [nthN]; rw [if_pos h3, if_neg (by rintro ⟨-, e⟩; omega)]) (by omega) (by omega)
          ·
            refine J_iload dX3_nthBreak_32 rfl ?_
            refine J_ireturn dX3_nthBreak_34 rfl ?_
            exact ⟨by rw [nthN_hit (m := k) (by simp [h25]) (by omega) (by omega)], rfl⟩
set_option maxRecDepth 100000 in
set_option maxHeartbeats 4000000 in
theorem ev_X3_nthBreak (P D n : Nat) (F O : Nat → Nat) (M : jM) (hR : KR P D n F O M) (i : Int) (hi : -2147483648 ≤ i ∧ i < 2147483648) : Ev 2 mX3_nthBreak [(19, 0), (14, 0), (0, i)] M (fun z M' => z = nthN n (fun k => !jnA F O k) i ∧ M' = M) := by
  refine Ev_of (by decide +kernel) (Nat.le_of_ble_eq_true rfl) (L := [(19, 0), (14, 0), (0, i), (9, 0), (9, 0)]) rfl ?_
  have hn12 := KR.hn hR
  have hP7 := KR.hP hR
  have hD5 := KR.hD hR
  have h2P : 2 ^ P ≤ 128 := Nat.pow_le_pow_right (n := 2) (by decide) hP7
  have h2p := Nat.two_pow_pos P
  refine J_iload_n dX3_nthBreak_0 rfl ?_
  refine J_istore_n (L' := [(19, 0), (14, 0), (0, i), (0, i), (9, 0)]) dX3_nthBreak_1 (by decide) rfl rfl ?_
  refine J_iconst dX3_nthBreak_2 ?_
  refine J_istore (L' := [(19, 0), (14, 0), (0, i), (0, i), (0, 0)]) dX3_nthBreak_3 (by decide) rfl rfl ?_
  refine J_eq (L' := [(19, 0), (14, 0), (0, i), (0, i), (0, ((0 : Nat) : Int))]) rfl rfl rfl ?_
  exact ev_X3_nthBreak_L5 P D n F O M hR i hi  _ _ _ (by simp [cntN]) (by omega) (by rfl) (by exact hi) (Nat.lt_succ_self _)
set_option maxRecDepth 100000 in
set_option maxHeartbeats 4000000 in
theorem ev_X3_countRestrictions_L5 (P D n : Nat) (F O : Nat → Nat) (M : jM) (hR : KR P D n F O M) (k : Int) (hk : -2147483648 ≤ k ∧ k < 2147483648)  : ∀ (fu : Nat) (c j : Nat) (h1 : c = cntN j (fun j => decide ((popc (rst F O j) : Int) = k))) (h2 : j ≤ n) (hfu : n - j < fu), J none 2 mX3_countRestrictions 5 [(19, 0), (14, 0), (0, k), (0, ((c : Nat) : Int)), (0, ((j : Nat) : Int))] [] M (j_ret mX3_countRestrictions (fun z M' => z = ((cntN n (fun j => decide ((popc (rst F O j) : Int) = k)) : Nat) : Int) ∧ M' = M)) := by
  intro fu
  induction fu with
  | zero => intro c j h1 h2 hfu; exact absurd hfu (Nat.not_lt_zero _)
  | succ fu ih =>
    intro c j h1 h2 hfu
    have hn12 := KR.hn hR
    have hP7 := KR.hP hR
    have hD5 := KR.hD hR
    have h2P : 2 ^ P ≤ 128 := Nat.pow_le_pow_right (n := 2) (by decide) hP7
    have h2p := Nat.two_pow_pos P
    refine J_iload dX3_countRestrictions_5 rfl ?_
    refine J_aload_n dX3_countRestrictions_7 rfl ?_
    refine J_getI dX3_countRestrictions_8 flX3_19 rfl rfl (J_top (v := ((n : Nat) : Int)) (KR.gn hR) ?_)
    refine J_icmp_ge (tgt := 37) dX3_countRestrictions_11 rfl (j_R (by omega)) (j_R (by omega)) (fun h11 => ?_) (fun h11 => ?_)
    ·
      refine J_iload_n dX3_countRestrictions_37 rfl ?_
      refine J_ireturn dX3_countRestrictions_38 rfl ?_
      have : j = n := by omega
      subst this
      exact ⟨by rw [h1], rfl⟩
    ·
      refine J_aload_n dX3_countRestrictions_14 rfl ?_
      refine J_aload_n dX3_countRestrictions_15 rfl ?_
      refine J_iload dX3_countRestrictions_16 rfl ?_
      refine J_callViQ (cl := mX3_restriction) [(14, 0), (0, ((j : Nat) : Int))] [] dX3_countRestrictions_18 mlX3_41 cvX3_restriction rfl rfl rfl rfl rfl (by decide) (Nat.le_of_ble_eq_true rfl) rfl (ev_X3_restriction P D n F O M hR j (by omega)) ?_
      refine J_callSiQ (cl := mJ6_bitCount_0f7a4) [(0, (((rst F O j) : Nat) : Int))] [] dX3_countRestrictions_21 mlX3_44 csJ6_bitCount_0f7a4 rfl rfl (by decide) (Nat.le_of_ble_eq_true rfl) rfl (ev_bitCount (rst F O j) (by have := rst128 F O j; omega) M) ?_
      refine J_iload_n dX3_countRestrictions_24 rfl ?_
      refine J_icmp_ne (tgt := 31) dX3_countRestrictions_25 rfl (j_R (popc_lt (rst31 _ _ _))) (by omega) (fun h25 => ?_) (fun h25 => ?_)
      ·
        refine J_iinc (v := (((j + 1) : Nat) : Int)) (L' := [(19, 0), (14, 0), (0, k), (0, ((c : Nat) : Int)), (0, (((j + 1) : Nat) : Int))]) dX3_countRestrictions_31 rfl (by omega) (by decide) rfl rfl ?_
        refine J_goto (tgt := 5) dX3_countRestrictions_34 rfl ?_
        exact ih _ _ (by rw [cntN_f (by exact decide_eq_false (by omega)), h1]) (by omega) (by omega)
      ·
        refine J_iinc (v := (((c + 1) : Nat) : Int)) (L' := [(19, 0), (14, 0), (0, k), (0, (((c + 1) : Nat) : Int)), (0, ((j : Nat) : Int))]) dX3_countRestrictions_28 rfl (by omega) (by decide) rfl rfl ?_
        refine J_iinc (v := (((j + 1) : Nat) : Int)) (L' := [(19, 0), (14, 0), (0, k), (0, (((c + 1) : Nat) : Int)), (0, (((j + 1) : Nat) : Int))]) dX3_countRestrictions_31 rfl (by omega) (by decide) rfl rfl ?_
        refine J_goto (tgt := 5) dX3_countRestrictions_34 rfl ?_
        exact ih _ _ (by rw [cntN_t (by exact decide_eq_true (by omega)), h1]) (by omega) (by omega)
set_option maxRecDepth 100000 in
set_option maxHeartbeats 4000000 in
theorem ev_X3_countRestrictions (P D n : Nat) (F O : Nat → Nat) (M : jM) (hR : KR P D n F O M) (k : Int) (hk : -2147483648 ≤ k ∧ k < 2147483648) : Ev 2 mX3_countRestrictions [(19, 0), (14, 0), (0, k)] M (fun z M' => z = ((cntN n (fun j => decide ((popc (rst F O j) : Int) = k)) : Nat) : Int) ∧ M' = M) := by
  refine Ev_of (by decide +kernel) (Nat.le_of_ble_eq_true rfl) (L := [(19, 0), (14, 0), (0, k), (9, 0), (9, 0)]) rfl ?_
  have hn12 := KR.hn hR
  have hP7 := KR.hP hR
  have hD5 := KR.hD hR
  have h2P : 2 ^ P ≤ 128 := Nat.pow_le_pow_right (n := 2) (by decide) hP7
  have h2p := Nat.two_pow_pos P
  refine J_iconst dX3_countRestrictions_0 ?_
  refine J_istore_n (L' := [(19, 0), (14, 0), (0, k), (0, 0), (9, 0)]) dX3_countRestrictions_1 (by decide) rfl rfl ?_
  refine J_iconst dX3_countRestrictions_2 ?_
  refine J_istore (L' := [(19, 0), (14, 0), (0, k), (0, 0), (0, 0)]) dX3_countRestrictions_3 (by decide) rfl rfl ?_
  refine J_eq (L' := [(19, 0), (14, 0), (0, k), (0, ((0 : Nat) : Int)), (0, ((0 : Nat) : Int))]) rfl rfl rfl ?_
  exact ev_X3_countRestrictions_L5 P D n F O M hR k hk  _ _ _ (by rfl) (by omega) (Nat.lt_succ_self _)
set_option maxRecDepth 100000 in
set_option maxHeartbeats 4000000 in
theorem ev_X3_isSpanning (P D n : Nat) (F O : Nat → Nat) (M : jM) (hR : KR P D n F O M) (pl : Nat) (hpl : pl < n) : Ev 2 mX3_isSpanning [(19, 0), (14, 0), (0, ((pl : Nat) : Int))] M (fun z M' => z = ((Bool.toNat (spB F O pl) : Nat) : Int) ∧ M' = M) := by
  refine Ev_of (by decide +kernel) (Nat.le_of_ble_eq_true rfl) (L := [(19, 0), (14, 0), (0, ((pl : Nat) : Int))]) rfl ?_
  have hn12 := KR.hn hR
  have hP7 := KR.hP hR
  have hD5 := KR.hD hR
  have h2P : 2 ^ P ≤ 128 := Nat.pow_le_pow_right (n := 2) (by decide) hP7
  have h2p := Nat.two_pow_pos P
  refine J_aload_n dX3_isSpanning_0 rfl ?_
  refine J_aload_n dX3_isSpanning_1 rfl ?_
  refine J_iload_n dX3_isSpanning_2 rfl ?_
  refine J_callViQ (cl := mX3_restriction) [(14, 0), (0, ((pl : Nat) : Int))] [] dX3_isSpanning_3 mlX3_41 cvX3_restriction rfl rfl rfl rfl rfl (by decide) (Nat.le_of_ble_eq_true rfl) rfl (ev_X3_restriction P D n F O M hR pl (by omega)) ?_
  refine J_callSiQ (cl := mJ6_bitCount_0f7a4) [(0, (((rst F O pl) : Nat) : Int))] [] dX3_isSpanning_6 mlX3_44 csJ6_bitCount_0f7a4 rfl rfl (by decide) (Nat.le_of_ble_eq_true rfl) rfl (ev_bitCount (rst F O pl) (by have := rst128 F O pl; omega) M) ?_
  refine J_aload_n dX3_isSpanning_9 rfl ?_
  refine J_getI dX3_isSpanning_10 flX3_49 rfl rfl (J_top (v := ((D : Nat) : Int)) (KR.gD hR) ?_)
  refine J_icmp_ne (tgt := 20) dX3_isSpanning_13 rfl (j_R (popc_lt (rst31 _ _ _))) (j_R (by omega)) (fun h13 => ?_) (fun h13 => ?_)
  ·
    refine J_iconst dX3_isSpanning_20 ?_
    refine J_zreturn dX3_isSpanning_21 rfl (Or.inl rfl) ?_
    exact ⟨bf (by rw [sp_iff hR.wf hpl]; exact decide_eq_false (by omega)), rfl⟩
  ·
    refine J_iconst dX3_isSpanning_16 ?_
    refine J_goto (tgt := 21) dX3_isSpanning_17 rfl ?_
    refine J_zreturn dX3_isSpanning_21 rfl (Or.inr rfl) ?_
    exact ⟨bt (by rw [sp_iff hR.wf hpl]; exact decide_eq_true (by omega)), rfl⟩
set_option maxRecDepth 100000 in
set_option maxHeartbeats 4000000 in
theorem ev_X3_nthSpanning_L5 (P D n : Nat) (F O : Nat → Nat) (M : jM) (hR : KR P D n F O M) (i : Int) (hi : -2147483648 ≤ i ∧ i < 2147483648)  : ∀ (fu : Nat) (l : Int) (k : Nat) (h1 : l = i - cntN k (spB F O)) (h2 : k ≤ n) (h3 : nthN k (spB F O) i = -1) (h4 : -2147483648 ≤ l ∧ l < 2147483648) (hfu : n - k < fu), J none 3 mX3_nthSpanning 5 [(19, 0), (14, 0), (0, i), (0, l), (0, ((k : Nat) : Int))] [] M (j_ret mX3_nthSpanning (fun z M' => z = nthN n (spB F O) i ∧ M' = M)) := by
  intro fu
  induction fu with
  | zero => intro l k h1 h2 h3 h4 hfu; exact absurd hfu (Nat.not_lt_zero _)
  | succ fu ih =>
    intro l k h1 h2 h3 h4 hfu
    have hn12 := KR.hn hR
    have hP7 := KR.hP hR
    have hD5 := KR.hD hR
    have h2P : 2 ^ P ≤ 128 := Nat.pow_le_pow_right (n := 2) (by decide) hP7
    have h2p := Nat.two_pow_pos P
    refine J_iload dX3_nthSpanning_5 rfl ?_
    refine J_aload_n dX3_nthSpanning_7 rfl ?_
    refine J_getI dX3_nthSpanning_8 flX3_19 rfl rfl (J_top (v := ((n : Nat) : Int)) (KR.gn hR) ?_)
    refine J_icmp_ge (tgt := 44) dX3_nthSpanning_11 rfl (j_R (by omega)) (j_R (by omega)) (fun h11 => ?_) (fun h11 => ?_)
    ·
      refine J_iconst dX3_nthSpanning_44 ?_
      refine J_ireturn dX3_nthSpanning_45 rfl ?_
      have : k = n := by omega
      subst this
      exact ⟨h3.symm, rfl⟩
    ·
      refine J_iload_n dX3_nthSpanning_14 rfl ?_
      refine J_if_lt (tgt := 44) dX3_nthSpanning_15 rfl h4 (fun h15 => ?_) (fun h15 => ?_)
      ·
        refine J_iconst dX3_nthSpanning_44 ?_
        refine J_ireturn dX3_nthSpanning_45 rfl ?_
        have h9 := cntN_mono (p := (spB F O)) h2
        exact ⟨by by_cases e : i < 0; rw [nthN_neg e]; rw [nth_gone h2 (by omega) h3], rfl⟩
      ·
        refine J_aload_n dX3_nthSpanning_18 rfl ?_
        refine J_aload_n dX3_nthSpanning_19 rfl ?_
        refine J_iload dX3_nthSpanning_20 rfl ?_
        refine J_callViQ (cl := mX3_isSpanning) [(14, 0), (0, ((k : Nat) : Int))] [] dX3_nthSpanning_22 mlX3_52 cvX3_isSpanning rfl rfl rfl rfl rfl (by decide) (Nat.le_of_ble_eq_true rfl) rfl (ev_X3_isSpanning P D n F O M hR k (by omega)) ?_
        refine J_ifb_eq (tgt := 38) dX3_nthSpanning_25 rfl (fun h25 => ?_) (fun h25 => ?_)
        ·
          refine J_iinc (v := (((k + 1) : Nat) : Int)) (L' := [(19, 0), (14, 0), (0, i), (0, l), (0, (((k + 1) : Nat) : Int))]) dX3_nthSpanning_38 rfl (by omega) (by decide) rfl rfl ?_
          refine J_goto (tgt := 5) dX3_nthSpanning_41 rfl ?_
          exact ih _ _ (by rw [cntN_f (by simp [h25]), h1]) (by omega) (by simp only [nthN]; rw [if_pos h3, if_neg (by rintro ⟨e, -⟩; simp [h25] at e)]) (by exact h4) (by omega)
        ·
          refine J_iload_n dX3_nthSpanning_28 rfl ?_
          refine J_if_ne (tgt := 35) dX3_nthSpanning_29 rfl h4 (fun h29 => ?_) (fun h29 => ?_)
          ·
            refine J_iinc (v := (l - 1)) (L' := [(19, 0), (14, 0), (0, i), (0, (l - 1)), (0, ((k : Nat) : Int))]) dX3_nthSpanning_35 rfl (by omega) (by decide) rfl rfl ?_
            refine J_iinc (v := (((k + 1) : Nat) : Int)) (L' := [(19, 0), (14, 0), (0, i), (0, (l - 1)), (0, (((k + 1) : Nat) : Int))]) dX3_nthSpanning_38 rfl (by omega) (by decide) rfl rfl ?_
            refine J_goto (tgt := 5) dX3_nthSpanning_41 rfl ?_
            exact ih _ _ (by rw [cntN_t (by simp [h25]), h1]; omega) (by omega) (by simp only [nthN]; rw [if_pos h3, if_neg (by rintro ⟨-, e⟩; omega)]) (by omega) (by omega)
          ·
            refine J_iload dX3_nthSpanning_32 rfl ?_
            refine J_ireturn dX3_nthSpanning_34 rfl ?_
            exact ⟨by rw [nthN_hit (m := k) (by simp [h25]) (by omega) (by omega)], rfl⟩
set_option maxRecDepth 100000 in
set_option maxHeartbeats 4000000 in
theorem ev_X3_nthSpanning (P D n : Nat) (F O : Nat → Nat) (M : jM) (hR : KR P D n F O M) (i : Int) (hi : -2147483648 ≤ i ∧ i < 2147483648) : Ev 3 mX3_nthSpanning [(19, 0), (14, 0), (0, i)] M (fun z M' => z = nthN n (spB F O) i ∧ M' = M) := by
  refine Ev_of (by decide +kernel) (Nat.le_of_ble_eq_true rfl) (L := [(19, 0), (14, 0), (0, i), (9, 0), (9, 0)]) rfl ?_
  have hn12 := KR.hn hR
  have hP7 := KR.hP hR
  have hD5 := KR.hD hR
  have h2P : 2 ^ P ≤ 128 := Nat.pow_le_pow_right (n := 2) (by decide) hP7
  have h2p := Nat.two_pow_pos P
  refine J_iload_n dX3_nthSpanning_0 rfl ?_
  refine J_istore_n (L' := [(19, 0), (14, 0), (0, i), (0, i), (9, 0)]) dX3_nthSpanning_1 (by decide) rfl rfl ?_
  refine J_iconst dX3_nthSpanning_2 ?_
  refine J_istore (L' := [(19, 0), (14, 0), (0, i), (0, i), (0, 0)]) dX3_nthSpanning_3 (by decide) rfl rfl ?_
  refine J_eq (L' := [(19, 0), (14, 0), (0, i), (0, i), (0, ((0 : Nat) : Int))]) rfl rfl rfl ?_
  exact ev_X3_nthSpanning_L5 P D n F O M hR i hi  _ _ _ (by simp [cntN]) (by omega) (by rfl) (by exact hi) (Nat.lt_succ_self _)
set_option maxRecDepth 100000 in
set_option maxHeartbeats 4000000 in
theorem ev_X3_spanningFacets_L4 (P D n : Nat) (F O : Nat → Nat) (M : jM) (hR : KR P D n F O M)  : ∀ (fu : Nat) (x k : Nat) (h1 : x = spM F O k) (h2 : k ≤ n) (hfu : n - k < fu), J none 3 mX3_spanningFacets 4 [(19, 0), (14, 0), (0, ((x : Nat) : Int)), (0, ((k : Nat) : Int))] [] M (j_ret mX3_spanningFacets (fun z M' => z = ((spM F O n : Nat) : Int) ∧ M' = M)) := by
  intro fu
  induction fu with
  | zero => intro x k h1 h2 hfu; exact absurd hfu (Nat.not_lt_zero _)
  | succ fu ih =>
    intro x k h1 h2 hfu
    have hn12 := KR.hn hR
    have hP7 := KR.hP hR
    have hD5 := KR.hD hR
    have h2P : 2 ^ P ≤ 128 := Nat.pow_le_pow_right (n := 2) (by decide) hP7
    have h2p := Nat.two_pow_pos P
    refine J_iload_n dX3_spanningFacets_4 rfl ?_
    refine J_aload_n dX3_spanningFacets_5 rfl ?_
    refine J_getI dX3_spanningFacets_6 flX3_19 rfl rfl (J_top (v := ((n : Nat) : Int)) (KR.gn hR) ?_)
    refine J_icmp_ge (tgt := 38) dX3_spanningFacets_9 rfl (j_R (by omega)) (j_R (by omega)) (fun h9 => ?_) (fun h9 => ?_)
    ·
      refine J_iload_n dX3_spanningFacets_38 rfl ?_
      refine J_ireturn dX3_spanningFacets_39 rfl ?_
      have : k = n := by omega
      subst this
      exact ⟨by rw [h1], rfl⟩
    ·
      refine J_aload_n dX3_spanningFacets_12 rfl ?_
      refine J_aload_n dX3_spanningFacets_13 rfl ?_
      refine J_iload_n dX3_spanningFacets_14 rfl ?_
      refine J_callViQ (cl := mX3_isSpanning) [(14, 0), (0, ((k : Nat) : Int))] [] dX3_spanningFacets_15 mlX3_52 cvX3_isSpanning rfl rfl rfl rfl rfl (by decide) (Nat.le_of_ble_eq_true rfl) rfl (ev_X3_isSpanning P D n F O M hR k (by omega)) ?_
      refine J_ifb_eq (tgt := 32) dX3_spanningFacets_18 rfl (fun h18 => ?_) (fun h18 => ?_)
      ·
        refine J_iinc (v := (((k + 1) : Nat) : Int)) (L' := [(19, 0), (14, 0), (0, ((x : Nat) : Int)), (0, (((k + 1) : Nat) : Int))]) dX3_spanningFacets_32 rfl (by omega) (by decide) rfl rfl ?_
        refine J_goto (tgt := 4) dX3_spanningFacets_35 rfl ?_
        exact ih _ _ (by rw [h1]; simp only [spM]; rw [h18]; simp) (by omega) (by omega)
      ·
        refine J_iload_n dX3_spanningFacets_21 rfl ?_
        refine J_iconst dX3_spanningFacets_22 ?_
        refine J_aload_n dX3_spanningFacets_23 rfl ?_
        refine J_getR dX3_spanningFacets_24 flX3_9 rfl rfl ?_
        refine J_iload_n dX3_spanningFacets_27 rfl ?_
        refine J_iald dX3_spanningFacets_28 rfl (by decide) (KR.ix hR (by omega)) (J_top (v := (((O k) : Nat) : Int)) (KR.gO hR (by omega)) ?_)
        refine J_ishl dX3_spanningFacets_29 (J_top (v := (((2 ^ (O k)) : Nat) : Int)) (j_shl1 rfl rfl (by have := KR.ob hR (i := k) (by omega); omega)) ?_)
        refine J_ior dX3_spanningFacets_30 (J_top (v := (((x ||| (2 ^ (O k))) : Nat) : Int)) (j_orN rfl rfl (by rw [h1]; exact p12 hn12 (spM_lt k (fun i hi => KR.ob hR (by omega)))) (nb_p2 (by have := KR.ob hR (i := k) (by omega); omega))) ?_)
        refine J_istore_n (L' := [(19, 0), (14, 0), (0, (((x ||| (2 ^ (O k))) : Nat) : Int)), (0, ((k : Nat) : Int))]) dX3_spanningFacets_31 (by decide) rfl rfl ?_
        refine J_iinc (v := (((k + 1) : Nat) : Int)) (L' := [(19, 0), (14, 0), (0, (((x ||| (2 ^ (O k))) : Nat) : Int)), (0, (((k + 1) : Nat) : Int))]) dX3_spanningFacets_32 rfl (by omega) (by decide) rfl rfl ?_
        refine J_goto (tgt := 4) dX3_spanningFacets_35 rfl ?_
        exact ih _ _ (by rw [h1]; simp only [spM]; rw [h18]; simp) (by omega) (by omega)
set_option maxRecDepth 100000 in
set_option maxHeartbeats 4000000 in
theorem ev_X3_spanningFacets (P D n : Nat) (F O : Nat → Nat) (M : jM) (hR : KR P D n F O M) : Ev 3 mX3_spanningFacets [(19, 0), (14, 0)] M (fun z M' => z = ((spM F O n : Nat) : Int) ∧ M' = M) := by
  refine Ev_of (by decide +kernel) (Nat.le_of_ble_eq_true rfl) (L := [(19, 0), (14, 0), (9, 0), (9, 0)]) rfl ?_
  have hn12 := KR.hn hR
  have hP7 := KR.hP hR
  have hD5 := KR.hD hR
  have h2P : 2 ^ P ≤ 128 := Nat.pow_le_pow_right (n := 2) (by decide) hP7
  have h2p := Nat.two_pow_pos P
  refine J_iconst dX3_spanningFacets_0 ?_
  refine J_istore_n (L' := [(19, 0), (14, 0), (0, 0), (9, 0)]) dX3_spanningFacets_1 (by decide) rfl rfl ?_
  refine J_iconst dX3_spanningFacets_2 ?_
  refine J_istore_n (L' := [(19, 0), (14, 0), (0, 0), (0, 0)]) dX3_spanningFacets_3 (by decide) rfl rfl ?_
  refine J_eq (L' := [(19, 0), (14, 0), (0, ((0 : Nat) : Int)), (0, ((0 : Nat) : Int))]) rfl rfl rfl ?_
  exact ev_X3_spanningFacets_L4 P D n F O M hR  _ _ _ (by rfl) (by omega) (Nat.lt_succ_self _)
set_option maxRecDepth 100000 in
set_option maxHeartbeats 4000000 in
theorem ev_X3_firstWith_L2 (P D n : Nat) (F O : Nat → Nat) (M : jM) (hR : KR P D n F O M) (x : Nat) (hx : x < 128)  : ∀ (fu : Nat) (k : Nat) (h1 : anyN k (fun k => sbs x (F (O k))) = false) (h2 : k ≤ n) (hfu : n - k < fu), J none 0 mX3_firstWith 2 [(19, 0), (14, 0), (0, ((x : Nat) : Int)), (0, ((k : Nat) : Int))] [] M (j_ret mX3_firstWith (fun z M' => z = fstN n (fun k => sbs x (F (O k))) (-2) ∧ M' = M)) := by
  intro fu
  induction fu with
  | zero => intro k h1 h2 hfu; exact absurd hfu (Nat.not_lt_zero _)
  | succ fu ih =>
    intro k h1 h2 hfu
    have hn12 := KR.hn hR
    have hP7 := KR.hP hR
    have hD5 := KR.hD hR
    have h2P : 2 ^ P ≤ 128 := Nat.pow_le_pow_right (n := 2) (by decide) hP7
    have h2p := Nat.two_pow_pos P
    refine J_iload_n dX3_firstWith_2 rfl ?_
    refine J_aload_n dX3_firstWith_3 rfl ?_
    refine J_getI dX3_firstWith_4 flX3_19 rfl rfl (J_top (v := ((n : Nat) : Int)) (KR.gn hR) ?_)
    refine J_icmp_ge (tgt := 37) dX3_firstWith_7 rfl (j_R (by omega)) (j_R (by omega)) (fun h7 => ?_) (fun h7 => ?_)
    ·
      refine J_bipush dX3_firstWith_37 (by decide) ?_
      refine J_ireturn dX3_firstWith_39 rfl ?_
      have : k = n := by omega
      subst this
      exact ⟨by rw [fstN_none h1], rfl⟩
    ·
      refine J_aload_n dX3_firstWith_10 rfl ?_
      refine J_getR dX3_firstWith_11 flX3_55 rfl rfl ?_
      refine J_iload_n dX3_firstWith_14 rfl ?_
      refine J_iald dX3_firstWith_15 rfl (by decide) (i128 (by omega)) (J_top (v := (((lyg n F x) : Nat) : Int)) (KR.gL hR (by omega)) ?_)
      refine J_aload_n dX3_firstWith_16 rfl ?_
      refine J_getR dX3_firstWith_17 flX3_9 rfl rfl ?_
      refine J_iload_n dX3_firstWith_20 rfl ?_
      refine J_iald dX3_firstWith_21 rfl (by decide) (KR.ix hR (by omega)) (J_top (v := (((O k) : Nat) : Int)) (KR.gO hR (by omega)) ?_)
      refine J_ishr dX3_firstWith_22 (J_top (v := ((((lyg n F x) >>> (O k)) : Nat) : Int)) (j_shrN rfl rfl (lyg31 (KR.hn hR) F _) (by have := KR.ob hR (i := k) (by omega); omega)) ?_)
      refine J_iconst dX3_firstWith_23 ?_
      refine J_iand dX3_firstWith_24 (J_top (v := ((Bool.toNat (Nat.testBit (lyg n F x) (O k)) : Nat) : Int)) ((j_andN rfl rfl (nb_shr (lyg31 (KR.hn hR) F _)) (by decide)).trans (congrArg Nat.cast (bit_one _ _))) ?_)
      refine J_iconst dX3_firstWith_25 ?_
      refine J_icmp_ne (tgt := 31) dX3_firstWith_26 rfl (j_R (nb_bool _)) (by decide) (fun h26 => ?_) (fun h26 => ?_)
      ·
        refine J_iinc (v := (((k + 1) : Nat) : Int)) (L' := [(19, 0), (14, 0), (0, ((x : Nat) : Int)), (0, (((k + 1) : Nat) : Int))]) dX3_firstWith_31 rfl (by omega) (by decide) rfl rfl ?_
        refine J_goto (tgt := 2) dX3_firstWith_34 rfl ?_
        exact ih _ (by have e9 : (lyg n F x).testBit (O k) = sbs x (F (O k)) := (by rw [lyg_bit, decide_eq_true (KR.ob hR (by omega : k < n)), Bool.true_and]); rw [anyN_f (by rw [← e9]; exact bf' h26), h1]) (by omega) (by omega)
      ·
        refine J_iload_n dX3_firstWith_29 rfl ?_
        refine J_ireturn dX3_firstWith_30 rfl ?_
        have e9 : (lyg n F x).testBit (O k) = sbs x (F (O k)) := by rw [lyg_bit, decide_eq_true (KR.ob hR (by omega : k < n)), Bool.true_and]
        exact ⟨by rw [fstN_hit h1 (by rw [← e9]; exact bt' h26) (by omega)], rfl⟩
set_option maxRecDepth 100000 in
set_option maxHeartbeats 4000000 in
theorem ev_X3_firstWith (P D n : Nat) (F O : Nat → Nat) (M : jM) (hR : KR P D n F O M) (x : Nat) (hx : x < 128) : Ev 0 mX3_firstWith [(19, 0), (14, 0), (0, ((x : Nat) : Int))] M (fun z M' => z = fstN n (fun k => sbs x (F (O k))) (-2) ∧ M' = M) := by
  refine Ev_of (by decide +kernel) (Nat.le_of_ble_eq_true rfl) (L := [(19, 0), (14, 0), (0, ((x : Nat) : Int)), (9, 0)]) rfl ?_
  have hn12 := KR.hn hR
  have hP7 := KR.hP hR
  have hD5 := KR.hD hR
  have h2P : 2 ^ P ≤ 128 := Nat.pow_le_pow_right (n := 2) (by decide) hP7
  have h2p := Nat.two_pow_pos P
  refine J_iconst dX3_firstWith_0 ?_
  refine J_istore_n (L' := [(19, 0), (14, 0), (0, ((x : Nat) : Int)), (0, 0)]) dX3_firstWith_1 (by decide) rfl rfl ?_
  refine J_eq (L' := [(19, 0), (14, 0), (0, ((x : Nat) : Int)), (0, ((0 : Nat) : Int))]) rfl rfl rfl ?_
  exact ev_X3_firstWith_L2 P D n F O M hR x hx  _ _ (by rfl) (by omega) (Nat.lt_succ_self _)
set_option maxRecDepth 100000 in
set_option maxHeartbeats 4000000 in
theorem ev_X3_countBetween_L5 (P D n : Nat) (F O : Nat → Nat) (M : jM) (hR : KR P D n F O M) (x : Nat) (hx : x < 128)  : ∀ (fu : Nat) (c k : Nat) (h1 : c = cntN k (fun k => sbs x (F (O k)) && sbs (rst F O k) x)) (h2 : k ≤ n) (hfu : n - k < fu), J none 2 mX3_countBetween 5 [(19, 0), (14, 0), (0, ((x : Nat) : Int)), (0, ((c : Nat) : Int)), (0, ((k : Nat) : Int))] [] M (j_ret mX3_countBetween (fun z M' => z = ((cntN n (fun k => sbs x (F (O k)) && sbs (rst F O k) x) : Nat) : Int) ∧ M' = M)) := by
  intro fu
  induction fu with
  | zero => intro c k h1 h2 hfu; exact absurd hfu (Nat.not_lt_zero _)
  | succ fu ih =>
    intro c k h1 h2 hfu
    have hn12 := KR.hn hR
    have hP7 := KR.hP hR
    have hD5 := KR.hD hR
    have h2P : 2 ^ P ≤ 128 := Nat.pow_le_pow_right (n := 2) (by decide) hP7
    have h2p := Nat.two_pow_pos P
    refine J_iload dX3_countBetween_5 rfl ?_
    refine J_aload_n dX3_countBetween_7 rfl ?_
    refine J_getI dX3_countBetween_8 flX3_19 rfl rfl (J_top (v := ((n : Nat) : Int)) (KR.gn hR) ?_)
    refine J_icmp_ge (tgt := 57) dX3_countBetween_11 rfl (j_R (by omega)) (j_R (by omega)) (fun h11 => ?_) (fun h11 => ?_)
    ·
      refine J_iload_n dX3_countBetween_57 rfl ?_
      refine J_ireturn dX3_countBetween_58 rfl ?_
      have : k = n := by omega
      subst this
      exact ⟨by rw [h1], rfl⟩
    ·
      refine J_aload_n dX3_countBetween_14 rfl ?_
      refine J_getR dX3_countBetween_15 flX3_55 rfl rfl ?_
      refine J_iload_n dX3_countBetween_18 rfl ?_
      refine J_iald dX3_countBetween_19 rfl (by decide) (i128 (by omega)) (J_top (v := (((lyg n F x) : Nat) : Int)) (KR.gL hR (by omega)) ?_)
      refine J_aload_n dX3_countBetween_20 rfl ?_
      refine J_getR dX3_countBetween_21 flX3_9 rfl rfl ?_
      refine J_iload dX3_countBetween_24 rfl ?_
      refine J_iald dX3_countBetween_26 rfl (by decide) (KR.ix hR (by omega)) (J_top (v := (((O k) : Nat) : Int)) (KR.gO hR (by omega)) ?_)
      refine J_ishr dX3_countBetween_27 (J_top (v := ((((lyg n F x) >>> (O k)) : Nat) : Int)) (j_shrN rfl rfl (lyg31 (KR.hn hR) F _) (by have := KR.ob hR (i := k) (by omega); omega)) ?_)
      refine J_iconst dX3_countBetween_28 ?_
      refine J_iand dX3_countBetween_29 (J_top (v := ((Bool.toNat (Nat.testBit (lyg n F x) (O k)) : Nat) : Int)) ((j_andN rfl rfl (nb_shr (lyg31 (KR.hn hR) F _)) (by decide)).trans (congrArg Nat.cast (bit_one _ _))) ?_)
      refine J_iconst dX3_countBetween_30 ?_
      refine J_icmp_ne (tgt := 51) dX3_countBetween_31 rfl (j_R (nb_bool _)) (by decide) (fun h31 => ?_) (fun h31 => ?_)
      ·
        refine J_iinc (v := (((k + 1) : Nat) : Int)) (L' := [(19, 0), (14, 0), (0, ((x : Nat) : Int)), (0, ((c : Nat) : Int)), (0, (((k + 1) : Nat) : Int))]) dX3_countBetween_51 rfl (by omega) (by decide) rfl rfl ?_
        refine J_goto (tgt := 5) dX3_countBetween_54 rfl ?_
        exact ih _ _ (by have e9 : (lyg n F x).testBit (O k) = sbs x (F (O k)) := (by rw [lyg_bit, decide_eq_true (KR.ob hR (by omega : k < n)), Bool.true_and]); have a1 := bf' h31; rw [e9] at a1; rw [cntN_f (by simp [a1]), h1]) (by omega) (by omega)
      ·
        refine J_aload_n dX3_countBetween_34 rfl ?_
        refine J_aload_n dX3_countBetween_35 rfl ?_
        refine J_iload dX3_countBetween_36 rfl ?_
        refine J_callViQ (cl := mX3_restriction) [(14, 0), (0, ((k : Nat) : Int))] [] dX3_countBetween_38 mlX3_41 cvX3_restriction rfl rfl rfl rfl rfl (by decide) (Nat.le_of_ble_eq_true rfl) rfl (ev_X3_restriction P D n F O M hR k (by omega)) ?_
        refine J_iload_n dX3_countBetween_41 rfl ?_
        refine J_iconst dX3_countBetween_42 ?_
        refine J_ixor dX3_countBetween_43 (J_top (v := (-((x : Nat) : Int) - 1)) (j_notN rfl (by omega)) ?_)
        refine J_iand dX3_countBetween_44 (J_top (v := (((ndf (rst F O k) x) : Nat) : Int)) (j_ndfN rfl rfl (rst31 _ _ _)) ?_)
        refine J_if_ne (tgt := 51) dX3_countBetween_45 rfl (j_R (nb_ndf (rst31 _ _ _))) (fun h45 => ?_) (fun h45 => ?_)
        ·
          refine J_iinc (v := (((k + 1) : Nat) : Int)) (L' := [(19, 0), (14, 0), (0, ((x : Nat) : Int)), (0, ((c : Nat) : Int)), (0, (((k + 1) : Nat) : Int))]) dX3_countBetween_51 rfl (by omega) (by decide) rfl rfl ?_
          refine J_goto (tgt := 5) dX3_countBetween_54 rfl ?_
          exact ih _ _ (by have e9 : (lyg n F x).testBit (O k) = sbs x (F (O k)) := (by rw [lyg_bit, decide_eq_true (KR.ob hR (by omega : k < n)), Bool.true_and]); have a2 : sbs (rst F O k) x = false := beq_eq_false_iff_ne.mpr (by omega); rw [cntN_f (by simp [a2]), h1]) (by omega) (by omega)
        ·
          refine J_iinc (v := (((c + 1) : Nat) : Int)) (L' := [(19, 0), (14, 0), (0, ((x : Nat) : Int)), (0, (((c + 1) : Nat) : Int)), (0, ((k : Nat) : Int))]) dX3_countBetween_48 rfl (by omega) (by decide) rfl rfl ?_
          refine J_iinc (v := (((k + 1) : Nat) : Int)) (L' := [(19, 0), (14, 0), (0, ((x : Nat) : Int)), (0, (((c + 1) : Nat) : Int)), (0, (((k + 1) : Nat) : Int))]) dX3_countBetween_51 rfl (by omega) (by decide) rfl rfl ?_
          refine J_goto (tgt := 5) dX3_countBetween_54 rfl ?_
          exact ih _ _ (by have e9 : (lyg n F x).testBit (O k) = sbs x (F (O k)) := (by rw [lyg_bit, decide_eq_true (KR.ob hR (by omega : k < n)), Bool.true_and]); have a1 := bt' h31; rw [e9] at a1; have a2 : sbs (rst F O k) x = true := beq_iff_eq.mpr (by omega); rw [cntN_t (by simp [a1, a2]), h1]) (by omega) (by omega)
set_option maxRecDepth 100000 in
set_option maxHeartbeats 4000000 in
theorem ev_X3_countBetween (P D n : Nat) (F O : Nat → Nat) (M : jM) (hR : KR P D n F O M) (x : Nat) (hx : x < 128) : Ev 2 mX3_countBetween [(19, 0), (14, 0), (0, ((x : Nat) : Int))] M (fun z M' => z = ((cntN n (fun k => sbs x (F (O k)) && sbs (rst F O k) x) : Nat) : Int) ∧ M' = M) := by
  refine Ev_of (by decide +kernel) (Nat.le_of_ble_eq_true rfl) (L := [(19, 0), (14, 0), (0, ((x : Nat) : Int)), (9, 0), (9, 0)]) rfl ?_
  have hn12 := KR.hn hR
  have hP7 := KR.hP hR
  have hD5 := KR.hD hR
  have h2P : 2 ^ P ≤ 128 := Nat.pow_le_pow_right (n := 2) (by decide) hP7
  have h2p := Nat.two_pow_pos P
  refine J_iconst dX3_countBetween_0 ?_
  refine J_istore_n (L' := [(19, 0), (14, 0), (0, ((x : Nat) : Int)), (0, 0), (9, 0)]) dX3_countBetween_1 (by decide) rfl rfl ?_
  refine J_iconst dX3_countBetween_2 ?_
  refine J_istore (L' := [(19, 0), (14, 0), (0, ((x : Nat) : Int)), (0, 0), (0, 0)]) dX3_countBetween_3 (by decide) rfl rfl ?_
  refine J_eq (L' := [(19, 0), (14, 0), (0, ((x : Nat) : Int)), (0, ((0 : Nat) : Int)), (0, ((0 : Nat) : Int))]) rfl rfl rfl ?_
  exact ev_X3_countBetween_L5 P D n F O M hR x hx  _ _ _ (by rfl) (by omega) (Nat.lt_succ_self _)
set_option maxRecDepth 100000 in
set_option maxHeartbeats 4000000 in
theorem ev_X3_leapOver (P D n : Nat) (F O : Nat → Nat) (M : jM) (hR : KR P D n F O M) (pl e : Nat) (hpl : pl < n) (he : e < n) : Ev 0 mX3_leapOver [(19, 0), (14, 0), (0, ((pl : Nat) : Int)), (0, ((e : Nat) : Int))] M (fun z M' => z = ((lpV F O pl e : Nat) : Int) ∧ M' = M) := by
  refine Ev_of (by decide +kernel) (Nat.le_of_ble_eq_true rfl) (L := [(19, 0), (14, 0), (0, ((pl : Nat) : Int)), (0, ((e : Nat) : Int))]) rfl ?_
  have hn12 := KR.hn hR
  have hP7 := KR.hP hR
  have hD5 := KR.hD hR
  have h2P : 2 ^ P ≤ 128 := Nat.pow_le_pow_right (n := 2) (by decide) hP7
  have h2p := Nat.two_pow_pos P
  refine J_aload_n dX3_leapOver_0 rfl ?_
  refine J_getR dX3_leapOver_1 flX3_58 rfl rfl ?_
  refine J_aload_n dX3_leapOver_4 rfl ?_
  refine J_getR dX3_leapOver_5 flX3_9 rfl rfl ?_
  refine J_iload_n dX3_leapOver_8 rfl ?_
  refine J_iald dX3_leapOver_9 rfl (by decide) (KR.ix hR (by omega)) (J_top (v := (((O pl) : Nat) : Int)) (KR.gO hR (by omega)) ?_)
  refine J_iald dX3_leapOver_10 rfl (by decide) (KR.ix hR (KR.ob hR (by omega))) (J_top (v := (((F (O pl)) : Nat) : Int)) (KR.gF hR (KR.ob hR (by omega))) ?_)
  refine J_aload_n dX3_leapOver_11 rfl ?_
  refine J_getR dX3_leapOver_12 flX3_58 rfl rfl ?_
  refine J_aload_n dX3_leapOver_15 rfl ?_
  refine J_getR dX3_leapOver_16 flX3_9 rfl rfl ?_
  refine J_iload_n dX3_leapOver_19 rfl ?_
  refine J_iald dX3_leapOver_20 rfl (by decide) (KR.ix hR (by omega)) (J_top (v := (((O e) : Nat) : Int)) (KR.gO hR (by omega)) ?_)
  refine J_iald dX3_leapOver_21 rfl (by decide) (KR.ix hR (KR.ob hR (by omega))) (J_top (v := (((F (O e)) : Nat) : Int)) (KR.gF hR (KR.ob hR (by omega))) ?_)
  refine J_iconst dX3_leapOver_22 ?_
  refine J_ixor dX3_leapOver_23 (J_top (v := (-(((F (O e)) : Nat) : Int) - 1)) (j_notN rfl (KR.f31 hR (KR.ob hR (by omega)))) ?_)
  refine J_iand dX3_leapOver_24 (J_top (v := (((ndf (F (O pl)) (F (O e))) : Nat) : Int)) (j_ndfN rfl rfl (KR.f31 hR (KR.ob hR (by omega)))) ?_)
  refine J_ireturn dX3_leapOver_25 rfl ?_
  exact ⟨rfl, rfl⟩
set_option maxRecDepth 100000 in
set_option maxHeartbeats 4000000 in
theorem ev_X3_isLeast_L3 (P D n : Nat) (F O : Nat → Nat) (M : jM) (hR : KR P D n F O M) (pl x : Nat) (hpl : pl < n) (hx : x < 2147483648)  : ∀ (fu : Nat) (e : Nat) (h1 : allN e (fun e => (lpV F O pl e == x) || !sbs (lpV F O pl e) x) = true) (h2 : e ≤ pl) (hfu : pl - e < fu), J none 1 mX3_isLeast 3 [(19, 0), (14, 0), (0, ((pl : Nat) : Int)), (0, ((x : Nat) : Int)), (0, ((e : Nat) : Int)), (9, 0)] [] M (j_ret mX3_isLeast (fun z M' => z = ((Bool.toNat (leC F O pl x) : Nat) : Int) ∧ M' = M)) := by
  intro fu
  induction fu with
  | zero => intro e h1 h2 hfu; exact absurd hfu (Nat.not_lt_zero _)
  | succ fu ih =>
    intro e h1 h2 hfu
    have hn12 := KR.hn hR
    have hP7 := KR.hP hR
    have hD5 := KR.hD hR
    have h2P : 2 ^ P ≤ 128 := Nat.pow_le_pow_right (n := 2) (by decide) hP7
    have h2p := Nat.two_pow_pos P
    refine J_iload dX3_isLeast_3 rfl ?_
    refine J_iload_n dX3_isLeast_5 rfl ?_
    refine J_icmp_ge (tgt := 42) dX3_isLeast_6 rfl (j_R (by omega)) (j_R (by omega)) (fun h6 => ?_) (fun h6 => ?_)
    ·
      refine J_iconst dX3_isLeast_42 ?_
      refine J_zreturn dX3_isLeast_43 rfl (Or.inr rfl) ?_
      have : e = pl := by omega
      subst this
      exact ⟨bt h1, rfl⟩
    ·
      refine J_aload_n dX3_isLeast_9 rfl ?_
      refine J_aload_n dX3_isLeast_10 rfl ?_
      refine J_iload_n dX3_isLeast_11 rfl ?_
      refine J_iload dX3_isLeast_12 rfl ?_
      refine J_callViQ (cl := mX3_leapOver) [(14, 0), (0, ((pl : Nat) : Int)), (0, ((e : Nat) : Int))] [] dX3_isLeast_14 mlX3_61 cvX3_leapOver rfl rfl rfl rfl rfl (by decide) (Nat.le_of_ble_eq_true rfl) rfl (ev_X3_leapOver P D n F O M hR pl e (by omega) (by omega)) ?_
      refine J_istore (L' := [(19, 0), (14, 0), (0, ((pl : Nat) : Int)), (0, ((x : Nat) : Int)), (0, ((e : Nat) : Int)), (0, (((lpV F O pl e) : Nat) : Int))]) dX3_isLeast_17 (by decide) rfl rfl ?_
      refine J_iload dX3_isLeast_19 rfl ?_
      refine J_iload_n dX3_isLeast_21 rfl ?_
      refine J_icmp_eq (tgt := 36) dX3_isLeast_22 rfl (j_R (nb_ndf (KR.f31 hR (KR.ob hR (by omega))))) (j_R hx) (fun h22 => ?_) (fun h22 => ?_)
      ·
        refine J_iinc (v := (((e + 1) : Nat) : Int)) (L' := [(19, 0), (14, 0), (0, ((pl : Nat) : Int)), (0, ((x : Nat) : Int)), (0, (((e + 1) : Nat) : Int)), (0, (((lpV F O pl e) : Nat) : Int))]) dX3_isLeast_36 rfl (by omega) (by decide) rfl rfl ?_
        refine J_goto (tgt := 3) dX3_isLeast_39 rfl ?_
        refine J_unset 5 (L' := [(19, 0), (14, 0), (0, ((pl : Nat) : Int)), (0, ((x : Nat) : Int)), (0, (((e + 1) : Nat) : Int)), (9, 0)]) rfl ?_
        exact ih _ (by rw [allN_t (by rw [beq_iff_eq.mpr (by omega)]; rfl), h1]) (by omega) (by omega)
      ·
        refine J_iload dX3_isLeast_25 rfl ?_
        refine J_iload_n dX3_isLeast_27 rfl ?_
        refine J_iconst dX3_isLeast_28 ?_
        refine J_ixor dX3_isLeast_29 (J_top (v := (-((x : Nat) : Int) - 1)) (j_notN rfl hx) ?_)
        refine J_iand dX3_isLeast_30 (J_top (v := (((ndf (lpV F O pl e) x) : Nat) : Int)) (j_ndfN rfl rfl (nb_ndf (KR.f31 hR (KR.ob hR (by omega))))) ?_)
        refine J_if_ne (tgt := 36) dX3_isLeast_31 rfl (j_R (nb_ndf (nb_ndf (KR.f31 hR (KR.ob hR (by omega)))))) (fun h31 => ?_) (fun h31 => ?_)
        ·
          refine J_iinc (v := (((e + 1) : Nat) : Int)) (L' := [(19, 0), (14, 0), (0, ((pl : Nat) : Int)), (0, ((x : Nat) : Int)), (0, (((e + 1) : Nat) : Int)), (0, (((lpV F O pl e) : Nat) : Int))]) dX3_isLeast_36 rfl (by omega) (by decide) rfl rfl ?_
          refine J_goto (tgt := 3) dX3_isLeast_39 rfl ?_
          refine J_unset 5 (L' := [(19, 0), (14, 0), (0, ((pl : Nat) : Int)), (0, ((x : Nat) : Int)), (0, (((e + 1) : Nat) : Int)), (9, 0)]) rfl ?_
          exact ih _ (by rw [allN_t (by rw [show sbs (lpV F O pl e) x = false from beq_eq_false_iff_ne.mpr (by omega)]; simp), h1]) (by omega) (by omega)
        ·
          refine J_iconst dX3_isLeast_34 ?_
          refine J_zreturn dX3_isLeast_35 rfl (Or.inl rfl) ?_
          exact ⟨bf (by unfold leC; exact allN_no (k := e) (by rw [show sbs (lpV F O pl e) x = true from beq_iff_eq.mpr (by omega), beq_eq_false_iff_ne.mpr (by omega)]; rfl) (by omega)), rfl⟩
set_option maxRecDepth 100000 in
set_option maxHeartbeats 4000000 in
theorem ev_X3_isLeast (P D n : Nat) (F O : Nat → Nat) (M : jM) (hR : KR P D n F O M) (pl x : Nat) (hpl : pl < n) (hx : x < 2147483648) : Ev 1 mX3_isLeast [(19, 0), (14, 0), (0, ((pl : Nat) : Int)), (0, ((x : Nat) : Int))] M (fun z M' => z = ((Bool.toNat (leC F O pl x) : Nat) : Int) ∧ M' = M) := by
  refine Ev_of (by decide +kernel) (Nat.le_of_ble_eq_true rfl) (L := [(19, 0), (14, 0), (0, ((pl : Nat) : Int)), (0, ((x : Nat) : Int)), (9, 0), (9, 0)]) rfl ?_
  have hn12 := KR.hn hR
  have hP7 := KR.hP hR
  have hD5 := KR.hD hR
  have h2P : 2 ^ P ≤ 128 := Nat.pow_le_pow_right (n := 2) (by decide) hP7
  have h2p := Nat.two_pow_pos P
  refine J_iconst dX3_isLeast_0 ?_
  refine J_istore (L' := [(19, 0), (14, 0), (0, ((pl : Nat) : Int)), (0, ((x : Nat) : Int)), (0, 0), (9, 0)]) dX3_isLeast_1 (by decide) rfl rfl ?_
  refine J_eq (L' := [(19, 0), (14, 0), (0, ((pl : Nat) : Int)), (0, ((x : Nat) : Int)), (0, ((0 : Nat) : Int)), (9, 0)]) rfl rfl rfl ?_
  exact ev_X3_isLeast_L3 P D n F O M hR pl x hpl hx  _ _ (by rfl) (by omega) (Nat.lt_succ_self _)
set_option maxRecDepth 100000 in
set_option maxHeartbeats 4000000 in
theorem ev_X3_isLeap_L3 (P D n : Nat) (F O : Nat → Nat) (M : jM) (hR : KR P D n F O M) (pl x : Nat) (hpl : pl < n) (hx : x < 2147483648)  : ∀ (fu : Nat) (e : Nat) (h1 : anyN e (fun k => ndf (F (O pl)) (F (O k)) == x) = false) (h2 : e ≤ pl) (hfu : pl - e < fu), J none 1 mX3_isLeap 3 [(19, 0), (14, 0), (0, ((pl : Nat) : Int)), (0, ((x : Nat) : Int)), (0, ((e : Nat) : Int))] [] M (j_ret mX3_isLeap (fun z M' => z = ((Bool.toNat (lpB F O pl x) : Nat) : Int) ∧ M' = M)) := by
  intro fu
  induction fu with
  | zero => intro e h1 h2 hfu; exact absurd hfu (Nat.not_lt_zero _)
  | succ fu ih =>
    intro e h1 h2 hfu
    have hn12 := KR.hn hR
    have hP7 := KR.hP hR
    have hD5 := KR.hD hR
    have h2P : 2 ^ P ≤ 128 := Nat.pow_le_pow_right (n := 2) (by decide) hP7
    have h2p := Nat.two_pow_pos P
    refine J_iload dX3_isLeap_3 rfl ?_
    refine J_iload_n dX3_isLeap_5 rfl ?_
    refine J_icmp_ge (tgt := 29) dX3_isLeap_6 rfl (j_R (by omega)) (j_R (by omega)) (fun h6 => ?_) (fun h6 => ?_)
    ·
      refine J_iconst dX3_isLeap_29 ?_
      refine J_zreturn dX3_isLeap_30 rfl (Or.inl rfl) ?_
      have : e = pl := by omega
      subst this
      exact ⟨bf h1, rfl⟩
    ·
      refine J_aload_n dX3_isLeap_9 rfl ?_
      refine J_aload_n dX3_isLeap_10 rfl ?_
      refine J_iload_n dX3_isLeap_11 rfl ?_
      refine J_iload dX3_isLeap_12 rfl ?_
      refine J_callViQ (cl := mX3_leapOver) [(14, 0), (0, ((pl : Nat) : Int)), (0, ((e : Nat) : Int))] [] dX3_isLeap_14 mlX3_61 cvX3_leapOver rfl rfl rfl rfl rfl (by decide) (Nat.le_of_ble_eq_true rfl) rfl (ev_X3_leapOver P D n F O M hR pl e (by omega) (by omega)) ?_
      refine J_iload_n dX3_isLeap_17 rfl ?_
      refine J_icmp_ne (tgt := 23) dX3_isLeap_18 rfl (j_R (nb_ndf (KR.f31 hR (KR.ob hR (by omega))))) (j_R hx) (fun h18 => ?_) (fun h18 => ?_)
      ·
        refine J_iinc (v := (((e + 1) : Nat) : Int)) (L' := [(19, 0), (14, 0), (0, ((pl : Nat) : Int)), (0, ((x : Nat) : Int)), (0, (((e + 1) : Nat) : Int))]) dX3_isLeap_23 rfl (by omega) (by decide) rfl rfl ?_
        refine J_goto (tgt := 3) dX3_isLeap_26 rfl ?_
        exact ih _ (by rw [anyN_f (by exact beq_eq_false_iff_ne.mpr (by unfold lpV at h18; omega)), h1]) (by omega) (by omega)
      ·
        refine J_iconst dX3_isLeap_21 ?_
        refine J_zreturn dX3_isLeap_22 rfl (Or.inr rfl) ?_
        exact ⟨bt (by unfold lpB; exact anyN_iff.mpr ⟨e, by omega, beq_iff_eq.mpr (by unfold lpV at h18; omega)⟩), rfl⟩
set_option maxRecDepth 100000 in
set_option maxHeartbeats 4000000 in
theorem ev_X3_isLeap (P D n : Nat) (F O : Nat → Nat) (M : jM) (hR : KR P D n F O M) (pl x : Nat) (hpl : pl < n) (hx : x < 2147483648) : Ev 1 mX3_isLeap [(19, 0), (14, 0), (0, ((pl : Nat) : Int)), (0, ((x : Nat) : Int))] M (fun z M' => z = ((Bool.toNat (lpB F O pl x) : Nat) : Int) ∧ M' = M) := by
  refine Ev_of (by decide +kernel) (Nat.le_of_ble_eq_true rfl) (L := [(19, 0), (14, 0), (0, ((pl : Nat) : Int)), (0, ((x : Nat) : Int)), (9, 0)]) rfl ?_
  have hn12 := KR.hn hR
  have hP7 := KR.hP hR
  have hD5 := KR.hD hR
  have h2P : 2 ^ P ≤ 128 := Nat.pow_le_pow_right (n := 2) (by decide) hP7
  have h2p := Nat.two_pow_pos P
  refine J_iconst dX3_isLeap_0 ?_
  refine J_istore (L' := [(19, 0), (14, 0), (0, ((pl : Nat) : Int)), (0, ((x : Nat) : Int)), (0, 0)]) dX3_isLeap_1 (by decide) rfl rfl ?_
  refine J_eq (L' := [(19, 0), (14, 0), (0, ((pl : Nat) : Int)), (0, ((x : Nat) : Int)), (0, ((0 : Nat) : Int))]) rfl rfl rfl ?_
  exact ev_X3_isLeap_L3 P D n F O M hR pl x hpl hx  _ _ (by rfl) (by omega) (Nat.lt_succ_self _)
set_option maxRecDepth 100000 in
set_option maxHeartbeats 4000000 in
theorem ev_X3_nthLeap_L6 (P D n : Nat) (F O : Nat → Nat) (M : jM) (hR : KR P D n F O M) (pl : Nat) (hpl : pl < n) (i : Int) (hi : -2147483648 ≤ i ∧ i < 2147483648)  : ∀ (fu : Nat) (l : Int) (s : Nat) (h1 : l = i - cntN s (llB F O pl)) (h2 : 1 ≤ s ∧ s ≤ 2 ^ P) (h3 : nthN s (llB F O pl) i = -1) (h4 : -2147483648 ≤ l ∧ l < 2147483648) (hfu : 2 ^ P - s < fu), J none 2 mX3_nthLeap 6 [(19, 0), (14, 0), (0, ((pl : Nat) : Int)), (0, i), (0, l), (0, ((s : Nat) : Int))] [] M (j_ret mX3_nthLeap (fun z M' => z = nthN (2 ^ P) (llB F O pl) i ∧ M' = M)) := by
  intro fu
  induction fu with
  | zero => intro l s h1 h2 h3 h4 hfu; exact absurd hfu (Nat.not_lt_zero _)
  | succ fu ih =>
    intro l s h1 h2 h3 h4 hfu
    have hn12 := KR.hn hR
    have hP7 := KR.hP hR
    have hD5 := KR.hD hR
    have h2P : 2 ^ P ≤ 128 := Nat.pow_le_pow_right (n := 2) (by decide) hP7
    have h2p := Nat.two_pow_pos P
    refine J_iload dX3_nthLeap_6 rfl ?_
    refine J_aload_n dX3_nthLeap_8 rfl ?_
    refine J_callViQ (cl := mX0_everyPoint) [] [(0, ((s : Nat) : Int))] dX3_nthLeap_9 mlX3_65 cvX0_everyPoint rfl rfl rfl rfl rfl (by decide) (Nat.le_of_ble_eq_true rfl) rfl (ev_X0_everyPoint P D n F O M hR ) ?_
    refine J_icmp_gt (tgt := 59) dX3_nthLeap_12 rfl (j_R (by omega)) (j_R (kp31 hR)) (fun h12 => ?_) (fun h12 => ?_)
    ·
      refine J_iconst dX3_nthLeap_59 ?_
      refine J_ireturn dX3_nthLeap_60 rfl ?_
      have : s = 2 ^ P := by omega
      subst this
      exact ⟨h3.symm, rfl⟩
    ·
      refine J_iload dX3_nthLeap_15 rfl ?_
      refine J_if_lt (tgt := 59) dX3_nthLeap_17 rfl h4 (fun h17 => ?_) (fun h17 => ?_)
      ·
        refine J_iconst dX3_nthLeap_59 ?_
        refine J_ireturn dX3_nthLeap_60 rfl ?_
        exact ⟨by by_cases e : i < 0; rw [nthN_neg e]; rw [nth_gone h2.2 (by omega) h3], rfl⟩
      ·
        refine J_aload_n dX3_nthLeap_20 rfl ?_
        refine J_aload_n dX3_nthLeap_21 rfl ?_
        refine J_iload_n dX3_nthLeap_22 rfl ?_
        refine J_iload dX3_nthLeap_23 rfl ?_
        refine J_callViQ (cl := mX3_isLeap) [(14, 0), (0, ((pl : Nat) : Int)), (0, ((s : Nat) : Int))] [] dX3_nthLeap_25 mlX3_69 cvX3_isLeap rfl rfl rfl rfl rfl (by decide) (Nat.le_of_ble_eq_true rfl) rfl (ev_X3_isLeap P D n F O M hR pl s (by omega) (by omega)) ?_
        refine J_ifb_eq (tgt := 53) dX3_nthLeap_28 rfl (fun h28 => ?_) (fun h28 => ?_)
        ·
          refine J_iinc (v := (((s + 1) : Nat) : Int)) (L' := [(19, 0), (14, 0), (0, ((pl : Nat) : Int)), (0, i), (0, l), (0, (((s + 1) : Nat) : Int))]) dX3_nthLeap_53 rfl (by omega) (by decide) rfl rfl ?_
          refine J_goto (tgt := 6) dX3_nthLeap_56 rfl ?_
          exact ih _ _ (by have a3 := lc_eq F O pl s; rw [h28, Bool.false_and] at a3; rw [cntN_f a3.symm, h1]) (by omega) (by have a3 := lc_eq F O pl s; rw [h28, Bool.false_and] at a3; simp only [nthN]; rw [if_pos h3, if_neg (by rintro ⟨e, -⟩; rw [← a3] at e; exact absurd e (by decide))]) (by exact h4) (by omega)
        ·
          refine J_aload_n dX3_nthLeap_31 rfl ?_
          refine J_aload_n dX3_nthLeap_32 rfl ?_
          refine J_iload_n dX3_nthLeap_33 rfl ?_
          refine J_iload dX3_nthLeap_34 rfl ?_
          refine J_callViQ (cl := mX3_isLeast) [(14, 0), (0, ((pl : Nat) : Int)), (0, ((s : Nat) : Int))] [] dX3_nthLeap_36 mlX3_73 cvX3_isLeast rfl rfl rfl rfl rfl (by decide) (Nat.le_of_ble_eq_true rfl) rfl (ev_X3_isLeast P D n F O M hR pl s (by omega) (by omega)) ?_
          refine J_ifb_eq (tgt := 53) dX3_nthLeap_39 rfl (fun h39 => ?_) (fun h39 => ?_)
          ·
            refine J_iinc (v := (((s + 1) : Nat) : Int)) (L' := [(19, 0), (14, 0), (0, ((pl : Nat) : Int)), (0, i), (0, l), (0, (((s + 1) : Nat) : Int))]) dX3_nthLeap_53 rfl (by omega) (by decide) rfl rfl ?_
            refine J_goto (tgt := 6) dX3_nthLeap_56 rfl ?_
            exact ih _ _ (by have a3 := lc_eq F O pl s; rw [h28, h39] at a3; rw [cntN_f a3.symm, h1]) (by omega) (by have a3 := lc_eq F O pl s; rw [h28, h39] at a3; simp only [nthN]; rw [if_pos h3, if_neg (by rintro ⟨e, -⟩; rw [← a3] at e; exact absurd e (by decide))]) (by exact h4) (by omega)
          ·
            refine J_iload dX3_nthLeap_42 rfl ?_
            refine J_if_ne (tgt := 50) dX3_nthLeap_44 rfl h4 (fun h44 => ?_) (fun h44 => ?_)
            ·
              refine J_iinc (v := (l - 1)) (L' := [(19, 0), (14, 0), (0, ((pl : Nat) : Int)), (0, i), (0, (l - 1)), (0, ((s : Nat) : Int))]) dX3_nthLeap_50 rfl (by omega) (by decide) rfl rfl ?_
              refine J_iinc (v := (((s + 1) : Nat) : Int)) (L' := [(19, 0), (14, 0), (0, ((pl : Nat) : Int)), (0, i), (0, (l - 1)), (0, (((s + 1) : Nat) : Int))]) dX3_nthLeap_53 rfl (by omega) (by decide) rfl rfl ?_
              refine J_goto (tgt := 6) dX3_nthLeap_56 rfl ?_
              exact ih _ _ (by have a3 := lc_eq F O pl s; rw [h28, h39] at a3; rw [cntN_t a3.symm, h1]; omega) (by omega) (by have a3 := lc_eq F O pl s; rw [h28, h39] at a3; simp only [nthN]; rw [if_pos h3, if_neg (by rintro ⟨-, e⟩; omega)]) (by omega) (by omega)
            ·
              refine J_iload dX3_nthLeap_47 rfl ?_
              refine J_ireturn dX3_nthLeap_49 rfl ?_
              have a3 := lc_eq F O pl s
              rw [h28, h39] at a3
              exact ⟨by rw [nthN_hit a3.symm (by omega) (by omega)], rfl⟩
set_option maxRecDepth 100000 in
set_option maxHeartbeats 4000000 in
theorem ev_X3_nthLeap (P D n : Nat) (F O : Nat → Nat) (M : jM) (hR : KR P D n F O M) (pl : Nat) (hpl : pl < n) (i : Int) (hi : -2147483648 ≤ i ∧ i < 2147483648) : Ev 2 mX3_nthLeap [(19, 0), (14, 0), (0, ((pl : Nat) : Int)), (0, i)] M (fun z M' => z = nthN (2 ^ P) (llB F O pl) i ∧ M' = M) := by
  refine Ev_of (by decide +kernel) (Nat.le_of_ble_eq_true rfl) (L := [(19, 0), (14, 0), (0, ((pl : Nat) : Int)), (0, i), (9, 0), (9, 0)]) rfl ?_
  have hn12 := KR.hn hR
  have hP7 := KR.hP hR
  have hD5 := KR.hD hR
  have h2P : 2 ^ P ≤ 128 := Nat.pow_le_pow_right (n := 2) (by decide) hP7
  have h2p := Nat.two_pow_pos P
  refine J_iload_n dX3_nthLeap_0 rfl ?_
  refine J_istore (L' := [(19, 0), (14, 0), (0, ((pl : Nat) : Int)), (0, i), (0, i), (9, 0)]) dX3_nthLeap_1 (by decide) rfl rfl ?_
  refine J_iconst dX3_nthLeap_3 ?_
  refine J_istore (L' := [(19, 0), (14, 0), (0, ((pl : Nat) : Int)), (0, i), (0, i), (0, 1)]) dX3_nthLeap_4 (by decide) rfl rfl ?_
  refine J_eq (L' := [(19, 0), (14, 0), (0, ((pl : Nat) : Int)), (0, i), (0, i), (0, ((1 : Nat) : Int))]) rfl rfl rfl ?_
  exact ev_X3_nthLeap_L6 P D n F O M hR pl hpl i hi  _ _ _ (by have h9 := ll_0 hR.wf hpl; simp [cntN, h9]) (by omega) (by have h9 := ll_0 hR.wf hpl; simp [nthN, h9]) (by exact hi) (Nat.lt_succ_self _)
set_option maxRecDepth 100000 in
set_option maxHeartbeats 4000000 in
theorem ev_X3_countLeaps_L5 (P D n : Nat) (F O : Nat → Nat) (M : jM) (hR : KR P D n F O M) (pl : Nat) (hpl : pl < n)  : ∀ (fu : Nat) (c s : Nat) (h1 : c = cntN s (llB F O pl)) (h2 : 1 ≤ s ∧ s ≤ 2 ^ P) (hfu : 2 ^ P - s < fu), J none 2 mX3_countLeaps 5 [(19, 0), (14, 0), (0, ((pl : Nat) : Int)), (0, ((c : Nat) : Int)), (0, ((s : Nat) : Int))] [] M (j_ret mX3_countLeaps (fun z M' => z = ((cntN (2 ^ P) (llB F O pl) : Nat) : Int) ∧ M' = M)) := by
  intro fu
  induction fu with
  | zero => intro c s h1 h2 hfu; exact absurd hfu (Nat.not_lt_zero _)
  | succ fu ih =>
    intro c s h1 h2 hfu
    have hn12 := KR.hn hR
    have hP7 := KR.hP hR
    have hD5 := KR.hD hR
    have h2P : 2 ^ P ≤ 128 := Nat.pow_le_pow_right (n := 2) (by decide) hP7
    have h2p := Nat.two_pow_pos P
    refine J_iload dX3_countLeaps_5 rfl ?_
    refine J_aload_n dX3_countLeaps_7 rfl ?_
    refine J_callViQ (cl := mX0_everyPoint) [] [(0, ((s : Nat) : Int))] dX3_countLeaps_8 mlX3_65 cvX0_everyPoint rfl rfl rfl rfl rfl (by decide) (Nat.le_of_ble_eq_true rfl) rfl (ev_X0_everyPoint P D n F O M hR ) ?_
    refine J_icmp_gt (tgt := 45) dX3_countLeaps_11 rfl (j_R (by omega)) (j_R (kp31 hR)) (fun h11 => ?_) (fun h11 => ?_)
    ·
      refine J_iload_n dX3_countLeaps_45 rfl ?_
      refine J_ireturn dX3_countLeaps_46 rfl ?_
      have : s = 2 ^ P := by omega
      subst this
      exact ⟨by rw [h1], rfl⟩
    ·
      refine J_aload_n dX3_countLeaps_14 rfl ?_
      refine J_aload_n dX3_countLeaps_15 rfl ?_
      refine J_iload_n dX3_countLeaps_16 rfl ?_
      refine J_iload dX3_countLeaps_17 rfl ?_
      refine J_callViQ (cl := mX3_isLeap) [(14, 0), (0, ((pl : Nat) : Int)), (0, ((s : Nat) : Int))] [] dX3_countLeaps_19 mlX3_69 cvX3_isLeap rfl rfl rfl rfl rfl (by decide) (Nat.le_of_ble_eq_true rfl) rfl (ev_X3_isLeap P D n F O M hR pl s (by omega) (by omega)) ?_
      refine J_ifb_eq (tgt := 39) dX3_countLeaps_22 rfl (fun h22 => ?_) (fun h22 => ?_)
      ·
        refine J_iinc (v := (((s + 1) : Nat) : Int)) (L' := [(19, 0), (14, 0), (0, ((pl : Nat) : Int)), (0, ((c : Nat) : Int)), (0, (((s + 1) : Nat) : Int))]) dX3_countLeaps_39 rfl (by omega) (by decide) rfl rfl ?_
        refine J_goto (tgt := 5) dX3_countLeaps_42 rfl ?_
        exact ih _ _ (by have a3 := lc_eq F O pl s; rw [h22, Bool.false_and] at a3; rw [cntN_f a3.symm, h1]) (by omega) (by omega)
      ·
        refine J_aload_n dX3_countLeaps_25 rfl ?_
        refine J_aload_n dX3_countLeaps_26 rfl ?_
        refine J_iload_n dX3_countLeaps_27 rfl ?_
        refine J_iload dX3_countLeaps_28 rfl ?_
        refine J_callViQ (cl := mX3_isLeast) [(14, 0), (0, ((pl : Nat) : Int)), (0, ((s : Nat) : Int))] [] dX3_countLeaps_30 mlX3_73 cvX3_isLeast rfl rfl rfl rfl rfl (by decide) (Nat.le_of_ble_eq_true rfl) rfl (ev_X3_isLeast P D n F O M hR pl s (by omega) (by omega)) ?_
        refine J_ifb_eq (tgt := 39) dX3_countLeaps_33 rfl (fun h33 => ?_) (fun h33 => ?_)
        ·
          refine J_iinc (v := (((s + 1) : Nat) : Int)) (L' := [(19, 0), (14, 0), (0, ((pl : Nat) : Int)), (0, ((c : Nat) : Int)), (0, (((s + 1) : Nat) : Int))]) dX3_countLeaps_39 rfl (by omega) (by decide) rfl rfl ?_
          refine J_goto (tgt := 5) dX3_countLeaps_42 rfl ?_
          exact ih _ _ (by have a3 := lc_eq F O pl s; rw [h22, h33] at a3; rw [cntN_f a3.symm, h1]) (by omega) (by omega)
        ·
          refine J_iinc (v := (((c + 1) : Nat) : Int)) (L' := [(19, 0), (14, 0), (0, ((pl : Nat) : Int)), (0, (((c + 1) : Nat) : Int)), (0, ((s : Nat) : Int))]) dX3_countLeaps_36 rfl (by omega) (by decide) rfl rfl ?_
          refine J_iinc (v := (((s + 1) : Nat) : Int)) (L' := [(19, 0), (14, 0), (0, ((pl : Nat) : Int)), (0, (((c + 1) : Nat) : Int)), (0, (((s + 1) : Nat) : Int))]) dX3_countLeaps_39 rfl (by omega) (by decide) rfl rfl ?_
          refine J_goto (tgt := 5) dX3_countLeaps_42 rfl ?_
          exact ih _ _ (by have a3 := lc_eq F O pl s; rw [h22, h33] at a3; rw [cntN_t a3.symm, h1]) (by omega) (by omega)
set_option maxRecDepth 100000 in
set_option maxHeartbeats 4000000 in
theorem ev_X3_countLeaps (P D n : Nat) (F O : Nat → Nat) (M : jM) (hR : KR P D n F O M) (pl : Nat) (hpl : pl < n) : Ev 2 mX3_countLeaps [(19, 0), (14, 0), (0, ((pl : Nat) : Int))] M (fun z M' => z = ((cntN (2 ^ P) (llB F O pl) : Nat) : Int) ∧ M' = M) := by
  refine Ev_of (by decide +kernel) (Nat.le_of_ble_eq_true rfl) (L := [(19, 0), (14, 0), (0, ((pl : Nat) : Int)), (9, 0), (9, 0)]) rfl ?_
  have hn12 := KR.hn hR
  have hP7 := KR.hP hR
  have hD5 := KR.hD hR
  have h2P : 2 ^ P ≤ 128 := Nat.pow_le_pow_right (n := 2) (by decide) hP7
  have h2p := Nat.two_pow_pos P
  refine J_iconst dX3_countLeaps_0 ?_
  refine J_istore_n (L' := [(19, 0), (14, 0), (0, ((pl : Nat) : Int)), (0, 0), (9, 0)]) dX3_countLeaps_1 (by decide) rfl rfl ?_
  refine J_iconst dX3_countLeaps_2 ?_
  refine J_istore (L' := [(19, 0), (14, 0), (0, ((pl : Nat) : Int)), (0, 0), (0, 1)]) dX3_countLeaps_3 (by decide) rfl rfl ?_
  refine J_eq (L' := [(19, 0), (14, 0), (0, ((pl : Nat) : Int)), (0, ((0 : Nat) : Int)), (0, ((1 : Nat) : Int))]) rfl rfl rfl ?_
  exact ev_X3_countLeaps_L5 P D n F O M hR pl hpl  _ _ _ (by have h9 := ll_0 hR.wf hpl; simp [cntN, h9]) (by omega) (Nat.lt_succ_self _)
set_option maxRecDepth 100000 in
set_option maxHeartbeats 4000000 in
theorem ev_X3_hasSingleLeaps_L2 (P D n : Nat) (F O : Nat → Nat) (M : jM) (hR : KR P D n F O M) (pl : Nat) (hpl : pl < n)  : ∀ (fu : Nat) (e : Nat) (h1 : allN e (fun e => decide (popc (lpV F O pl e) = 1) || !leC F O pl (lpV F O pl e)) = true) (h2 : e ≤ pl) (hfu : pl - e < fu), J none 2 mX3_hasSingleLeaps 2 [(19, 0), (14, 0), (0, ((pl : Nat) : Int)), (0, ((e : Nat) : Int)), (9, 0)] [] M (j_ret mX3_hasSingleLeaps (fun z M' => z = ((Bool.toNat (liN P F O pl) : Nat) : Int) ∧ M' = M)) := by
  intro fu
  induction fu with
  | zero => intro e h1 h2 hfu; exact absurd hfu (Nat.not_lt_zero _)
  | succ fu ih =>
    intro e h1 h2 hfu
    have hn12 := KR.hn hR
    have hP7 := KR.hP hR
    have hD5 := KR.hD hR
    have h2P : 2 ^ P ≤ 128 := Nat.pow_le_pow_right (n := 2) (by decide) hP7
    have h2p := Nat.two_pow_pos P
    refine J_iload_n dX3_hasSingleLeaps_2 rfl ?_
    refine J_iload_n dX3_hasSingleLeaps_3 rfl ?_
    refine J_icmp_ge (tgt := 44) dX3_hasSingleLeaps_4 rfl (j_R (by omega)) (j_R (by omega)) (fun h4 => ?_) (fun h4 => ?_)
    ·
      refine J_iconst dX3_hasSingleLeaps_44 ?_
      refine J_zreturn dX3_hasSingleLeaps_45 rfl (Or.inr rfl) ?_
      have : e = pl := by omega
      subst this
      exact ⟨bt (by rw [← li_eq hR.wf hpl]; exact h1), rfl⟩
    ·
      refine J_aload_n dX3_hasSingleLeaps_7 rfl ?_
      refine J_aload_n dX3_hasSingleLeaps_8 rfl ?_
      refine J_iload_n dX3_hasSingleLeaps_9 rfl ?_
      refine J_iload_n dX3_hasSingleLeaps_10 rfl ?_
      refine J_callViQ (cl := mX3_leapOver) [(14, 0), (0, ((pl : Nat) : Int)), (0, ((e : Nat) : Int))] [] dX3_hasSingleLeaps_11 mlX3_61 cvX3_leapOver rfl rfl rfl rfl rfl (by decide) (Nat.le_of_ble_eq_true rfl) rfl (ev_X3_leapOver P D n F O M hR pl e (by omega) (by omega)) ?_
      refine J_istore (L' := [(19, 0), (14, 0), (0, ((pl : Nat) : Int)), (0, ((e : Nat) : Int)), (0, (((lpV F O pl e) : Nat) : Int))]) dX3_hasSingleLeaps_14 (by decide) rfl rfl ?_
      refine J_iload dX3_hasSingleLeaps_16 rfl ?_
      refine J_callSiQ (cl := mJ6_bitCount_0f7a4) [(0, (((lpV F O pl e) : Nat) : Int))] [] dX3_hasSingleLeaps_18 mlX3_44 csJ6_bitCount_0f7a4 rfl rfl (by decide) (Nat.le_of_ble_eq_true rfl) rfl (ev_bitCount (lpV F O pl e) (by have h9 : lpV F O pl e < 128 := nb_ndf (KR.fb hR (KR.ob hR (by omega))); omega) M) ?_
      refine J_iconst dX3_hasSingleLeaps_21 ?_
      refine J_icmp_eq (tgt := 38) dX3_hasSingleLeaps_22 rfl (j_R (popc_lt (nb_ndf (KR.f31 hR (KR.ob hR (by omega)))))) (by decide) (fun h22 => ?_) (fun h22 => ?_)
      ·
        refine J_iinc (v := (((e + 1) : Nat) : Int)) (L' := [(19, 0), (14, 0), (0, ((pl : Nat) : Int)), (0, (((e + 1) : Nat) : Int)), (0, (((lpV F O pl e) : Nat) : Int))]) dX3_hasSingleLeaps_38 rfl (by omega) (by decide) rfl rfl ?_
        refine J_goto (tgt := 2) dX3_hasSingleLeaps_41 rfl ?_
        refine J_unset 4 (L' := [(19, 0), (14, 0), (0, ((pl : Nat) : Int)), (0, (((e + 1) : Nat) : Int)), (9, 0)]) rfl ?_
        exact ih _ (by rw [allN_t (by rw [decide_eq_true (by omega)]; rfl), h1]) (by omega) (by omega)
      ·
        refine J_aload_n dX3_hasSingleLeaps_25 rfl ?_
        refine J_aload_n dX3_hasSingleLeaps_26 rfl ?_
        refine J_iload_n dX3_hasSingleLeaps_27 rfl ?_
        refine J_iload dX3_hasSingleLeaps_28 rfl ?_
        refine J_callViQ (cl := mX3_isLeast) [(14, 0), (0, ((pl : Nat) : Int)), (0, (((lpV F O pl e) : Nat) : Int))] [] dX3_hasSingleLeaps_30 mlX3_73 cvX3_isLeast rfl rfl rfl rfl rfl (by decide) (Nat.le_of_ble_eq_true rfl) rfl (ev_X3_isLeast P D n F O M hR pl (lpV F O pl e) (by omega) (nb_ndf (KR.f31 hR (KR.ob hR (by omega))))) ?_
        refine J_ifb_eq (tgt := 38) dX3_hasSingleLeaps_33 rfl (fun h33 => ?_) (fun h33 => ?_)
        ·
          refine J_iinc (v := (((e + 1) : Nat) : Int)) (L' := [(19, 0), (14, 0), (0, ((pl : Nat) : Int)), (0, (((e + 1) : Nat) : Int)), (0, (((lpV F O pl e) : Nat) : Int))]) dX3_hasSingleLeaps_38 rfl (by omega) (by decide) rfl rfl ?_
          refine J_goto (tgt := 2) dX3_hasSingleLeaps_41 rfl ?_
          refine J_unset 4 (L' := [(19, 0), (14, 0), (0, ((pl : Nat) : Int)), (0, (((e + 1) : Nat) : Int)), (9, 0)]) rfl ?_
          exact ih _ (by rw [allN_t (by rw [h33]; simp), h1]) (by omega) (by omega)
        ·
          refine J_iconst dX3_hasSingleLeaps_36 ?_
          refine J_zreturn dX3_hasSingleLeaps_37 rfl (Or.inl rfl) ?_
          exact ⟨bf (by rw [← li_eq hR.wf hpl]; exact allN_no (k := e) (by rw [h33, decide_eq_false (by omega)]; rfl) (by omega)), rfl⟩
set_option maxRecDepth 100000 in
set_option maxHeartbeats 4000000 in
theorem ev_X3_hasSingleLeaps (P D n : Nat) (F O : Nat → Nat) (M : jM) (hR : KR P D n F O M) (pl : Nat) (hpl : pl < n) : Ev 2 mX3_hasSingleLeaps [(19, 0), (14, 0), (0, ((pl : Nat) : Int))] M (fun z M' => z = ((Bool.toNat (liN P F O pl) : Nat) : Int) ∧ M' = M) := by
  refine Ev_of (by decide +kernel) (Nat.le_of_ble_eq_true rfl) (L := [(19, 0), (14, 0), (0, ((pl : Nat) : Int)), (9, 0), (9, 0)]) rfl ?_
  have hn12 := KR.hn hR
  have hP7 := KR.hP hR
  have hD5 := KR.hD hR
  have h2P : 2 ^ P ≤ 128 := Nat.pow_le_pow_right (n := 2) (by decide) hP7
  have h2p := Nat.two_pow_pos P
  refine J_iconst dX3_hasSingleLeaps_0 ?_
  refine J_istore_n (L' := [(19, 0), (14, 0), (0, ((pl : Nat) : Int)), (0, 0), (9, 0)]) dX3_hasSingleLeaps_1 (by decide) rfl rfl ?_
  refine J_eq (L' := [(19, 0), (14, 0), (0, ((pl : Nat) : Int)), (0, ((0 : Nat) : Int)), (9, 0)]) rfl rfl rfl ?_
  exact ev_X3_hasSingleLeaps_L2 P D n F O M hR pl hpl  _ _ (by rfl) (by omega) (Nat.lt_succ_self _)
