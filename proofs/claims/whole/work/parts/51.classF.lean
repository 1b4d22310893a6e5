/-! the class: what its memory holds -/
def KF (P D n : Nat) (F O : Nat → Nat) (M : jM) : Prop := WF P D n F O ∧ M 4 0 = (P : Int) ∧ M 4 1 = (D : Int) ∧ M 4 2 = (n : Int) ∧ (∀ i : Nat, i < n → M 5 (i : Int) = (F i : Int)) ∧ ∀ i : Nat, i < n → M 10 (i : Int) = (O i : Int)
def KT (n : Nat) (F : Nat → Nat) (M : jM) : Prop := (∀ p : Nat, p < 7 → M 6 (p : Int) = (hvg n F p : Int)) ∧ (∀ s : Nat, s < 128 → M 7 (s : Int) = (lyg n F s : Int)) ∧ ∀ i p : Nat, i < n → p < 7 → M 8 ((i * 7 + p : Nat) : Int) = (acr n F i p : Int)
def KR (P D n : Nat) (F O : Nat → Nat) (M : jM) : Prop := KF P D n F O M ∧ KT n F M
section KRS
variable {P D n : Nat} {F O : Nat → Nat} {M : jM}
theorem KF.wf (h : KF P D n F O M) : WF P D n F O := h.1
theorem KF.gP (h : KF P D n F O M) : M 4 0 = (P : Int) := h.2.1
theorem KF.gD (h : KF P D n F O M) : M 4 1 = (D : Int) := h.2.2.1
theorem KF.gn (h : KF P D n F O M) : M 4 2 = (n : Int) := h.2.2.2.1
theorem KF.gF (h : KF P D n F O M) {i : Nat} (hi : i < n) : M 5 (i : Int) = (F i : Int) := h.2.2.2.2.1 i hi
theorem KF.gO (h : KF P D n F O M) {i : Nat} (hi : i < n) : M 10 (i : Int) = (O i : Int) := h.2.2.2.2.2 i hi
theorem KF.hP (h : KF P D n F O M) : P ≤ 7 := h.1.1
theorem KF.hD (h : KF P D n F O M) : D ≤ 5 := h.1.2.1
theorem KF.hn (h : KF P D n F O M) : n ≤ 12 := h.1.2.2.1
theorem KF.fb (h : KF P D n F O M) {i : Nat} (hi : i < n) : F i < 128 := h.1.fb hi
theorem KF.f31 (h : KF P D n F O M) {i : Nat} (hi : i < n) : F i < 2147483648 := by have := h.fb hi; omega
theorem KF.ob (h : KF P D n F O M) {i : Nat} (hi : i < n) : O i < n := h.1.on hi
theorem KF.ix (h : KF P D n F O M) {i : Nat} (hi : i < n) : 0 ≤ (i : Int) ∧ (i : Int) < ((12 : Nat) : Int) := by have := h.hn; omega
theorem KR.wf (h : KR P D n F O M) : WF P D n F O := h.1.1
theorem KR.gP (h : KR P D n F O M) : M 4 0 = (P : Int) := h.1.gP
theorem KR.gD (h : KR P D n F O M) : M 4 1 = (D : Int) := h.1.gD
theorem KR.gn (h : KR P D n F O M) : M 4 2 = (n : Int) := h.1.gn
theorem KR.gF (h : KR P D n F O M) {i : Nat} (hi : i < n) : M 5 (i : Int) = (F i : Int) := h.1.gF hi
theorem KR.gO (h : KR P D n F O M) {i : Nat} (hi : i < n) : M 10 (i : Int) = (O i : Int) := h.1.gO hi
theorem KR.hP (h : KR P D n F O M) : P ≤ 7 := h.1.hP
theorem KR.hD (h : KR P D n F O M) : D ≤ 5 := h.1.hD
theorem KR.hn (h : KR P D n F O M) : n ≤ 12 := h.1.hn
theorem KR.fb (h : KR P D n F O M) {i : Nat} (hi : i < n) : F i < 128 := h.1.fb hi
theorem KR.f31 (h : KR P D n F O M) {i : Nat} (hi : i < n) : F i < 2147483648 := h.1.f31 hi
theorem KR.ob (h : KR P D n F O M) {i : Nat} (hi : i < n) : O i < n := h.1.ob hi
theorem KR.ix (h : KR P D n F O M) {i : Nat} (hi : i < n) : 0 ≤ (i : Int) ∧ (i : Int) < ((12 : Nat) : Int) := h.1.ix hi
theorem KR.gH (h : KR P D n F O M) {p : Nat} (hp : p < 7) : M 6 (p : Int) = (hvg n F p : Int) := h.2.1 p hp
theorem KR.gL (h : KR P D n F O M) {s : Nat} (hs : s < 128) : M 7 (s : Int) = (lyg n F s : Int) := h.2.2.1 s hs
theorem KR.gA (h : KR P D n F O M) {i p : Nat} (hi : i < n) (hp : p < 7) : M 8 ((i * 7 + p : Nat) : Int) = (acr n F i p : Int) := h.2.2.2 i p hi hp
theorem KR.iA (h : KR P D n F O M) {i p : Nat} (hi : i < n) (hp : p < 7) : 0 ≤ ((i * 7 + p : Nat) : Int) ∧ ((i * 7 + p : Nat) : Int) < ((84 : Nat) : Int) := by have := h.hn; omega
theorem i128 {s : Nat} (hs : s < 128) : 0 ≤ (s : Int) ∧ (s : Int) < ((128 : Nat) : Int) := by omega
theorem kf_ch {ks : List Nat} {M' : jM} (hc : Ch ks M M') (hk : 4 ∉ ks ∧ 5 ∉ ks ∧ 10 ∉ ks) (h : KF P D n F O M) : KF P D n F O M' := by
  unfold KF at h ⊢
  rw [hc 4 hk.1, hc 5 hk.2.1, hc 10 hk.2.2]
  exact h
theorem kr_ch {ks : List Nat} {M' : jM} (hc : Ch ks M M') (hk : (4 ∉ ks ∧ 5 ∉ ks ∧ 10 ∉ ks) ∧ 6 ∉ ks ∧ 7 ∉ ks ∧ 8 ∉ ks) (h : KR P D n F O M) : KR P D n F O M' := by
  refine ⟨kf_ch hc hk.1 h.1, ?_⟩
  unfold KT
  rw [hc 6 hk.2.1, hc 7 hk.2.2.1, hc 8 hk.2.2.2]
  exact h.2
theorem ch1 {k : Nat} {z v : Int} : Ch [k] M (j_up M k z v) := Ch_up (by simp) Ch_rf
theorem kr_up {k : Nat} {z v : Int} (hk : (4 ≠ k ∧ 5 ≠ k ∧ 10 ≠ k) ∧ 6 ≠ k ∧ 7 ≠ k ∧ 8 ≠ k) (h : KR P D n F O M) : KR P D n F O (j_up M k z v) := kr_ch (ks := [k]) ch1 (by simp only [List.mem_singleton]; exact hk) h
theorem kp31 (h : KR P D n F O M) : 2 ^ P - 1 < 2147483648 := by
  have := Nat.pow_le_pow_right (n := 2) (by decide) h.hP
  omega
theorem kn31 (h : KR P D n F O M) : 2 ^ n - 1 < 2147483648 := by
  have := Nat.pow_le_pow_right (n := 2) (by decide) h.hn
  omega
theorem ptK31 (h : KF P D n F O M) {k : Nat} (hk : k ≤ n) (b : Bool) : ptN P k F b < 2147483648 := by
  induction k with
  | zero =>
    simp only [ptN]
    have := Nat.pow_le_pow_right (n := 2) (by decide) h.hP
    split <;> omega
  | succ k ih =>
    simp only [ptN]
    have h1 := ih (by omega)
    have h2 := h.f31 (i := k) (by omega)
    split
    · exact nb_and h1
    · exact nb_or h1 h2
theorem cntP31 (h : KR P D n F O M) (q : Nat → Bool) : cntN (2 ^ P) q < 2147483648 := by
  have := cntN_le (2 ^ P) q
  have := Nat.pow_le_pow_right (n := 2) (by decide) h.hP
  omega
theorem cntK31 (h : KR P D n F O M) (p : Nat → Bool) : cntN n p < 2147483648 := by
  have := h.hn
  have := cntN_le n p
  omega
end KRS
theorem and_p2z {x p : Nat} (h : ((x &&& 2 ^ p : Nat) : Int) = 0) : x.testBit p = false := by
  have h0 : x &&& 2 ^ p = 0 := by omega
  cases e : x.testBit p
  · rfl
  · exact absurd h0 (and_ne.mpr ⟨p, e, by rw [p2_bit]; simp⟩)
theorem and_p2n {x p : Nat} (h : ¬ ((x &&& 2 ^ p : Nat) : Int) = 0) : x.testBit p = true := by
  obtain ⟨j, h1, h2⟩ := (and_ne (a := x) (b := 2 ^ p)).mp (by omega)
  rw [p2_bit, decide_eq_true_eq] at h2
  rw [h2]
  exact h1
theorem j_shlB {b : Bool} {i : Nat} (hi : i < 31) : j_shl ((b.toNat : Nat) : Int) ((i : Nat) : Int) = (((if b = true then 2 ^ i else 0) : Nat) : Int) := by
  cases b
  · refine (j_shlN (x := 0) (a := ((false.toNat : Nat) : Int)) rfl rfl hi (by omega)).trans ?_
    simp
  · refine (j_shlN (x := 1) (a := ((true.toNat : Nat) : Int)) rfl rfl hi (by have := nb_p2 hi; omega)).trans ?_
    simp
theorem if2 (b : Bool) {i : Nat} (hi : i < 31) : (if b = true then 2 ^ i else 0) < 2147483648 := by
  split
  · exact nb_p2 hi
  · decide
theorem p2or {p b : Nat} (h : b < 2 ^ p) : 2 ^ p ||| b = 2 ^ p + b := by
  have := Nat.two_pow_add_eq_or_of_lt h 1
  rw [Nat.mul_one] at this
  exact this.symm
theorem j_orP {p b : Nat} (hb : b < 2 ^ p) (hp : 2 ^ p ≤ 64) : j_or ((2 ^ p : Nat) : Int) (b : Int) = ((2 ^ p + b : Nat) : Int) := by
  rw [j_orN rfl rfl (by omega) (by omega), p2or hb]
theorem lyg_0 (n : Nat) (F : Nat → Nat) : lyg n F 0 = 2 ^ n - 1 := by
  apply Nat.eq_of_testBit_eq
  intro i
  rw [lyg_bit, all_bit, sbs_iff.mpr (fun j hj => by rw [Nat.zero_testBit] at hj; exact absurd hj (by decide)), Bool.and_true]
theorem lyg_or {n p b : Nat} {F : Nat → Nat} (hb : b < 2 ^ p) : lyg n F (2 ^ p + b) = lyg n F b &&& hvg n F p := by
  rw [← p2or hb]
  apply Nat.eq_of_testBit_eq
  intro i
  rw [Nat.testBit_and, lyg_bit, lyg_bit, hvg_bit]
  apply beqB
  simp only [Bool.and_eq_true, decide_eq_true_eq]
  constructor
  · rintro ⟨h1, h2⟩
    exact ⟨⟨h1, sbs_iff.mpr (fun j hj => sbs_iff.mp h2 j (by rw [Nat.testBit_or, hj, Bool.or_true]))⟩, h1, sbs_iff.mp h2 p (by rw [Nat.testBit_or, p2_bit]; simp)⟩
  · rintro ⟨⟨h1, h2⟩, -, h3⟩
    refine ⟨h1, sbs_iff.mpr (fun j hj => ?_)⟩
    rw [Nat.testBit_or, p2_bit, Bool.or_eq_true, decide_eq_true_eq] at hj
    rcases hj with e | e
    · rw [← e]; exact h3
    · exact sbs_iff.mp h2 j e
theorem chs_eq : ∀ a, a ≤ 5 → ∀ k, k ≤ a → j_chs.getD (a * 6 + k) 0 = (wys a k : Int) := by decide
/-- by values -/
theorem sum_by (N : Nat) (p : Nat → Bool) (f : Nat → Nat) (g : Nat → Int) : ∀ m, sumN m (fun k => g k * (cntN N (fun s => p s && decide ((f s : Int) = (k : Int))) : Int)) = sumN N (fun s => if p s = true ∧ f s < m then g (f s) else 0) := by
  have h1 : ∀ (m N : Nat), sumN N (fun s => if p s = true ∧ f s < m + 1 then g (f s) else 0) = sumN N (fun s => if p s = true ∧ f s < m then g (f s) else 0) + g m * (cntN N (fun s => p s && decide ((f s : Int) = (m : Int))) : Int) := by
    intro m N
    induction N with
    | zero => simp [sumN, cntN]
    | succ N ih =>
      simp only [sumN, cntN]
      rw [ih]
      cases hp : p N
      · simp
      · by_cases e : f N = m
        · rw [if_pos ⟨rfl, by omega⟩, if_neg (by omega), e]
          simp only [decide_true, Bool.and_self, Bool.toNat_true, Int.natCast_add]
          rw [Int.mul_add]
          simp
          omega
        · rw [decide_eq_false (by omega)]
          simp only [Bool.and_false, Bool.toNat_false, Nat.add_zero]
          by_cases e2 : f N < m
          · rw [if_pos (by simp; omega), if_pos (by simp; omega)]; omega
          · rw [if_neg (by omega), if_neg (by omega)]; omega
  intro m
  induction m with
  | zero =>
    have : ∀ N, sumN N (fun s => if p s = true ∧ f s < 0 then g (f s) else 0) = 0 := by
      intro N
      induction N with
      | zero => rfl
      | succ N ih => simp only [sumN]; rw [ih, if_neg (by omega)]; rfl
    rw [this]
    rfl
  | succ m ih => rw [h1, ← ih]; rfl
theorem isF_pop {P D n : Nat} {F O : Nat → Nat} (h : WF P D n F O) {s : Nat} (hs : isF n F s = true) : popc s ≤ D := by
  obtain ⟨k, hk, h1⟩ := anyN_iff.mp hs
  rw [← h.fD hk]
  exact popc_sub (sbs_iff.mp h1)
theorem tr_pop {x p q : Nat} (hpq : ¬ p = q) : popc (x &&& (2 ^ p ||| 2 ^ q)) = (x.testBit p).toNat + (x.testBit q).toNat := by
  have hb : ∀ i, (x &&& (2 ^ p ||| 2 ^ q)).testBit i = (x.testBit i && (decide (p = i) || decide (q = i))) := by
    intro i
    rw [Nat.testBit_and, Nat.testBit_or, p2_bit, p2_bit]
  cases hp : x.testBit p
  · cases hq : x.testBit q
    · have : x &&& (2 ^ p ||| 2 ^ q) = 0 := by
        apply Nat.eq_of_testBit_eq
        intro i
        rw [hb, Nat.zero_testBit]
        by_cases e1 : p = i
        · subst e1; rw [hp]; rfl
        · by_cases e2 : q = i
          · subst e2; rw [hq]; rfl
          · simp [e1, e2]
      rw [this, popc_zero]
      rfl
    · have : x &&& (2 ^ p ||| 2 ^ q) = 2 ^ q := by
        apply Nat.eq_of_testBit_eq
        intro i
        rw [hb, p2_bit]
        by_cases e1 : p = i
        · subst e1; rw [hp, decide_eq_false (p := q = p) (fun e => hpq e.symm)]; rfl
        · by_cases e2 : q = i
          · subst e2; rw [hq]; simp
          · simp [e1, e2]
      rw [this, popc_p2]
      rfl
  · have h1 := popc_rem' (s := x &&& (2 ^ p ||| 2 ^ q)) (k := p) (by rw [hb, hp]; simp)
    rw [← h1]
    cases hq : x.testBit q
    · have : ndf (x &&& (2 ^ p ||| 2 ^ q)) (2 ^ p) = 0 := by
        apply Nat.eq_of_testBit_eq
        intro i
        rw [ndf_bit, hb, p2_bit, Nat.zero_testBit]
        by_cases e1 : p = i
        · simp [e1]
        · by_cases e2 : q = i
          · subst e2; rw [hq]; rfl
          · simp [e1, e2]
      rw [this, popc_zero]
      rfl
    · have : ndf (x &&& (2 ^ p ||| 2 ^ q)) (2 ^ p) = 2 ^ q := by
        apply Nat.eq_of_testBit_eq
        intro i
        rw [ndf_bit, hb, p2_bit, p2_bit]
        by_cases e1 : p = i
        · subst e1; rw [decide_eq_false (p := q = p) (fun e => hpq e.symm)]; simp
        · by_cases e2 : q = i
          · subst e2; rw [hq]; simp [e1]
          · simp [e1, e2]
      rw [this, popc_p2]
      rfl
theorem fstK {P D n : Nat} {F O : Nat → Nat} {M : jM} (h : KR P D n F O M) (p : Nat → Bool) (z : Int) (hz : -2147483648 ≤ z ∧ z < 2147483648 := by decide) : -2147483648 ≤ fstN n p z ∧ fstN n p z < 2147483648 := by
  have := h.hn
  rcases fstN_rng (n := n) (p := p) (z := z) with q | q <;> omega
theorem nthK {P D n : Nat} {F O : Nat → Nat} {M : jM} (h : KR P D n F O M) (p : Nat → Bool) (i : Int) : -2147483648 ≤ nthN n p i ∧ nthN n p i < 2147483648 := by
  have := h.hn
  rcases nthN_rng (n := n) (p := p) (i := i) with q | q <;> omega
theorem nmR {P D n : Nat} {F O : Nat → Nat} {M : jM} (h : KR P D n F O M) (i : Int) : -2147483648 ≤ (if 0 < n then nthN (2 ^ P) (msg P (isF n F)) i else -1) ∧ (if 0 < n then nthN (2 ^ P) (msg P (isF n F)) i else -1) < 2147483648 := by
  have := Nat.pow_le_pow_right (n := 2) (by decide) h.hP
  split
  · rcases nthN_rng (n := 2 ^ P) (p := msg P (isF n F)) (i := i) with q | q <;> omega
  · decide
theorem fst12 (p : Nat → Bool) : -2147483648 ≤ fstN 12 p (-2) ∧ fstN 12 p (-2) < 2147483648 := by
  rcases fstN_rng (n := 12) (p := p) (z := -2) with q | q <;> omega
set_option maxRecDepth 100000 in
set_option maxHeartbeats 4000000 in
theorem ev_X0_everyPoint (P D n : Nat) (F O : Nat → Nat) (M : jM) (hR : KR P D n F O M) : Ev 0 mX0_everyPoint [(14, 0)] M (fun z M' => z = ((2 ^ P - 1 : Nat) : Int) ∧ M' = M) := by
  refine Ev_of (by decide +kernel) (Nat.le_of_ble_eq_true rfl) (L := [(14, 0)]) rfl ?_
  have hn12 := KR.hn hR
  have hP7 := KR.hP hR
  have hD5 := KR.hD hR
  have h2P : 2 ^ P ≤ 128 := Nat.pow_le_pow_right (n := 2) (by decide) hP7
  have h2p := Nat.two_pow_pos P
  refine J_iconst dX0_everyPoint_0 ?_
  refine J_aload_n dX0_everyPoint_1 rfl ?_
  refine J_getI dX0_everyPoint_2 flX0_33 rfl rfl (J_top (v := ((P : Nat) : Int)) (KR.gP hR) ?_)
  refine J_ishl dX0_everyPoint_5 (J_top (v := (((2 ^ P) : Nat) : Int)) (j_shl1 rfl rfl (by omega)) ?_)
  refine J_iconst dX0_everyPoint_6 ?_
  refine J_isub dX0_everyPoint_7 (J_top (v := (((2 ^ P - 1) : Nat) : Int)) (by omega) ?_)
  refine J_ireturn dX0_everyPoint_8 rfl ?_
  exact ⟨rfl, rfl⟩
set_option maxRecDepth 100000 in
set_option maxHeartbeats 4000000 in
theorem ev_X0_everyFacet (n : Nat) (hn12 : n ≤ 12) (M : jM) (hR : M 4 2 = (n : Int)) : Ev 0 mX0_everyFacet [(14, 0)] M (fun z M' => z = ((2 ^ n - 1 : Nat) : Int) ∧ M' = M) := by
  refine Ev_of (by decide +kernel) (Nat.le_of_ble_eq_true rfl) (L := [(14, 0)]) rfl ?_
  refine J_iconst dX0_everyFacet_0 ?_
  refine J_aload_n dX0_everyFacet_1 rfl ?_
  refine J_getI dX0_everyFacet_2 flX0_41 rfl rfl (J_top (v := ((n : Nat) : Int)) hR ?_)
  refine J_ishl dX0_everyFacet_5 (J_top (v := (((2 ^ n) : Nat) : Int)) (j_shl1 rfl rfl (by omega)) ?_)
  refine J_iconst dX0_everyFacet_6 ?_
  refine J_isub dX0_everyFacet_7 (J_top (v := (((2 ^ n - 1) : Nat) : Int)) (by have := Nat.two_pow_pos n; omega) ?_)
  refine J_ireturn dX0_everyFacet_8 rfl ?_
  exact ⟨rfl, rfl⟩
set_option maxRecDepth 100000 in
set_option maxHeartbeats 4000000 in
theorem ev_X0_choose (a k : Nat) (ha : a ≤ 5) (hk : k ≤ a) (M : jM) : Ev 0 mX0_choose [(0, ((a : Nat) : Int)), (0, ((k : Nat) : Int))] M (fun z M' => z = ((wys a k : Nat) : Int) ∧ M' = M) := by
  refine Ev_of (by decide +kernel) (Nat.le_of_ble_eq_true rfl) (L := [(0, ((a : Nat) : Int)), (0, ((k : Nat) : Int))]) rfl ?_
  refine J_iload_n dX0_choose_0 rfl ?_
  refine J_if_lt (tgt := 18) dX0_choose_1 rfl (j_R (by omega)) (fun h1 => ?_) (fun h1 => ?_)
  · omega
  ·
    refine J_iload_n dX0_choose_4 rfl ?_
    refine J_iconst dX0_choose_5 ?_
    refine J_icmp_gt (tgt := 18) dX0_choose_6 rfl (j_R (by omega)) (by decide) (fun h6 => ?_) (fun h6 => ?_)
    · omega
    ·
      refine J_iload_n dX0_choose_9 rfl ?_
      refine J_if_lt (tgt := 18) dX0_choose_10 rfl (j_R (by omega)) (fun h10 => ?_) (fun h10 => ?_)
      · omega
      ·
        refine J_iload_n dX0_choose_13 rfl ?_
        refine J_iload_n dX0_choose_14 rfl ?_
        refine J_icmp_le (tgt := 20) dX0_choose_15 rfl (j_R (by omega)) (j_R (by omega)) (fun h15 => ?_) (fun h15 => ?_)
        ·
          refine J_getC dX0_choose_20 flX0_24 ?_
          refine J_iload_n dX0_choose_23 rfl ?_
          refine J_bipush dX0_choose_24 (by decide) ?_
          refine J_imul dX0_choose_26 (J_top (v := (((a * 6) : Nat) : Int)) (Int.natCast_mul _ _).symm ?_)
          refine J_iload_n dX0_choose_27 rfl ?_
          refine J_iadd dX0_choose_28 (J_top (v := ((((a * 6) + k) : Nat) : Int)) (by omega) ?_)
          refine J_cald dX0_choose_29 (by omega) (J_top (v := (((wys a k) : Nat) : Int)) (chs_eq a ha k hk) ?_)
          refine J_ireturn dX0_choose_30 rfl ?_
          exact ⟨rfl, rfl⟩
        · omega
set_option maxRecDepth 100000 in
set_option maxHeartbeats 4000000 in
theorem ev_X0_isPoint (P D n : Nat) (F O : Nat → Nat) (M : jM) (hR : KR P D n F O M) (i : Int) (hi : -2147483648 ≤ i ∧ i < 2147483648) : Ev 0 mX0_isPoint [(14, 0), (0, i)] M (fun z M' => z = ((Bool.toNat (decide (0 < n ∧ 0 ≤ i ∧ i < (P : Int))) : Nat) : Int) ∧ M' = M) := by
  refine Ev_of (by decide +kernel) (Nat.le_of_ble_eq_true rfl) (L := [(14, 0), (0, i)]) rfl ?_
  have hn12 := KR.hn hR
  have hP7 := KR.hP hR
  have hD5 := KR.hD hR
  have h2P : 2 ^ P ≤ 128 := Nat.pow_le_pow_right (n := 2) (by decide) hP7
  have h2p := Nat.two_pow_pos P
  refine J_aload_n dX0_isPoint_0 rfl ?_
  refine J_getI dX0_isPoint_1 flX0_41 rfl rfl (J_top (v := ((n : Nat) : Int)) (KR.gn hR) ?_)
  refine J_if_le (tgt := 23) dX0_isPoint_4 rfl (j_R (by omega)) (fun h4 => ?_) (fun h4 => ?_)
  ·
    refine J_iconst dX0_isPoint_23 ?_
    refine J_zreturn dX0_isPoint_24 rfl (Or.inl rfl) ?_
    exact ⟨df (by omega), rfl⟩
  ·
    refine J_iload_n dX0_isPoint_7 rfl ?_
    refine J_if_lt (tgt := 23) dX0_isPoint_8 rfl (by omega) (fun h8 => ?_) (fun h8 => ?_)
    ·
      refine J_iconst dX0_isPoint_23 ?_
      refine J_zreturn dX0_isPoint_24 rfl (Or.inl rfl) ?_
      exact ⟨df (by omega), rfl⟩
    ·
      refine J_iload_n dX0_isPoint_11 rfl ?_
      refine J_aload_n dX0_isPoint_12 rfl ?_
      refine J_getI dX0_isPoint_13 flX0_33 rfl rfl (J_top (v := ((P : Nat) : Int)) (KR.gP hR) ?_)
      refine J_icmp_ge (tgt := 23) dX0_isPoint_16 rfl (by omega) (j_R (by omega)) (fun h16 => ?_) (fun h16 => ?_)
      ·
        refine J_iconst dX0_isPoint_23 ?_
        refine J_zreturn dX0_isPoint_24 rfl (Or.inl rfl) ?_
        exact ⟨df (by omega), rfl⟩
      ·
        refine J_iconst dX0_isPoint_19 ?_
        refine J_goto (tgt := 24) dX0_isPoint_20 rfl ?_
        refine J_zreturn dX0_isPoint_24 rfl (Or.inr rfl) ?_
        exact ⟨dt (by omega), rfl⟩
set_option maxRecDepth 100000 in
set_option maxHeartbeats 4000000 in
theorem ev_X0_isFacet (P D n : Nat) (F O : Nat → Nat) (M : jM) (hR : KR P D n F O M) (i : Int) (hi : -2147483648 ≤ i ∧ i < 2147483648) : Ev 0 mX0_isFacet [(14, 0), (0, i)] M (fun z M' => z = ((Bool.toNat (bI n i) : Nat) : Int) ∧ M' = M) := by
  refine Ev_of (by decide +kernel) (Nat.le_of_ble_eq_true rfl) (L := [(14, 0), (0, i)]) rfl ?_
  have hn12 := KR.hn hR
  have hP7 := KR.hP hR
  have hD5 := KR.hD hR
  have h2P : 2 ^ P ≤ 128 := Nat.pow_le_pow_right (n := 2) (by decide) hP7
  have h2p := Nat.two_pow_pos P
  refine J_iload_n dX0_isFacet_0 rfl ?_
  refine J_if_lt (tgt := 16) dX0_isFacet_1 rfl (by omega) (fun h1 => ?_) (fun h1 => ?_)
  ·
    refine J_iconst dX0_isFacet_16 ?_
    refine J_zreturn dX0_isFacet_17 rfl (Or.inl rfl) ?_
    exact ⟨df (by omega), rfl⟩
  ·
    refine J_iload_n dX0_isFacet_4 rfl ?_
    refine J_aload_n dX0_isFacet_5 rfl ?_
    refine J_getI dX0_isFacet_6 flX0_41 rfl rfl (J_top (v := ((n : Nat) : Int)) (KR.gn hR) ?_)
    refine J_icmp_ge (tgt := 16) dX0_isFacet_9 rfl (by omega) (j_R (by omega)) (fun h9 => ?_) (fun h9 => ?_)
    ·
      refine J_iconst dX0_isFacet_16 ?_
      refine J_zreturn dX0_isFacet_17 rfl (Or.inl rfl) ?_
      exact ⟨df (by omega), rfl⟩
    ·
      refine J_iconst dX0_isFacet_12 ?_
      refine J_goto (tgt := 17) dX0_isFacet_13 rfl ?_
      refine J_zreturn dX0_isFacet_17 rfl (Or.inr rfl) ?_
      exact ⟨dt (by omega), rfl⟩
set_option maxRecDepth 100000 in
set_option maxHeartbeats 4000000 in
theorem ev_X0_isSet (P D n : Nat) (F O : Nat → Nat) (M : jM) (hR : KR P D n F O M) (i : Int) (hi : -2147483648 ≤ i ∧ i < 2147483648) : Ev 1 mX0_isSet [(14, 0), (0, i)] M (fun z M' => z = ((Bool.toNat (bS P i) : Nat) : Int) ∧ M' = M) := by
  refine Ev_of (by decide +kernel) (Nat.le_of_ble_eq_true rfl) (L := [(14, 0), (0, i)]) rfl ?_
  have hn12 := KR.hn hR
  have hP7 := KR.hP hR
  have hD5 := KR.hD hR
  have h2P : 2 ^ P ≤ 128 := Nat.pow_le_pow_right (n := 2) (by decide) hP7
  have h2p := Nat.two_pow_pos P
  refine J_iload_n dX0_isSet_0 rfl ?_
  refine J_if_lt (tgt := 16) dX0_isSet_1 rfl (by omega) (fun h1 => ?_) (fun h1 => ?_)
  ·
    refine J_iconst dX0_isSet_16 ?_
    refine J_zreturn dX0_isSet_17 rfl (Or.inl rfl) ?_
    exact ⟨df (by omega), rfl⟩
  ·
    refine J_iload_n dX0_isSet_4 rfl ?_
    refine J_aload_n dX0_isSet_5 rfl ?_
    refine J_callViQ (cl := mX0_everyPoint) [] [(0, i)] dX0_isSet_6 mlX0_62 cvX0_everyPoint rfl rfl rfl rfl rfl (by decide) (Nat.le_of_ble_eq_true rfl) rfl (ev_X0_everyPoint P D n F O M hR ) ?_
    refine J_icmp_gt (tgt := 16) dX0_isSet_9 rfl (by omega) (j_R (kp31 hR)) (fun h9 => ?_) (fun h9 => ?_)
    ·
      refine J_iconst dX0_isSet_16 ?_
      refine J_zreturn dX0_isSet_17 rfl (Or.inl rfl) ?_
      exact ⟨df (by omega), rfl⟩
    ·
      refine J_iconst dX0_isSet_12 ?_
      refine J_goto (tgt := 17) dX0_isSet_13 rfl ?_
      refine J_zreturn dX0_isSet_17 rfl (Or.inr rfl) ?_
      exact ⟨dt (by omega), rfl⟩
set_option maxRecDepth 100000 in
set_option maxHeartbeats 4000000 in
theorem ev_X0_isFace (P D n : Nat) (F O : Nat → Nat) (M : jM) (hR : KR P D n F O M) (x : Nat) (hx : x < 128) : Ev 2 mX0_isFace [(14, 0), (0, ((x : Nat) : Int))] M (fun z M' => z = ((Bool.toNat (isF n F x) : Nat) : Int) ∧ M' = M) := by
  refine Ev_of (by decide +kernel) (Nat.le_of_ble_eq_true rfl) (L := [(14, 0), (0, ((x : Nat) : Int))]) rfl ?_
  have hn12 := KR.hn hR
  have hP7 := KR.hP hR
  have hD5 := KR.hD hR
  have h2P : 2 ^ P ≤ 128 := Nat.pow_le_pow_right (n := 2) (by decide) hP7
  have h2p := Nat.two_pow_pos P
  refine J_aload_n dX0_isFace_0 rfl ?_
  refine J_iload_n dX0_isFace_1 rfl ?_
  refine J_callViQ (cl := mX0_isSet) [(0, ((x : Nat) : Int))] [] dX0_isFace_2 mlX0_65 cvX0_isSet rfl rfl rfl rfl rfl (by decide) (Nat.le_of_ble_eq_true rfl) rfl (ev_X0_isSet P D n F O M hR ((x : Nat) : Int) (j_R (by omega))) ?_
  refine J_ifb_eq (tgt := 21) dX0_isFace_5 rfl (fun h5 => ?_) (fun h5 => ?_)
  ·
    refine J_iconst dX0_isFace_21 ?_
    refine J_zreturn dX0_isFace_22 rfl (Or.inl rfl) ?_
    exact ⟨bf (by have h9 := of_decide_eq_false h5; cases e : isF n F x; rfl; have := isF_lt hR.wf e; omega), rfl⟩
  ·
    refine J_aload_n dX0_isFace_8 rfl ?_
    refine J_getR dX0_isFace_9 flX0_18 rfl rfl ?_
    refine J_iload_n dX0_isFace_12 rfl ?_
    refine J_iald dX0_isFace_13 rfl (by decide) (i128 (by omega)) (J_top (v := (((lyg n F x) : Nat) : Int)) (KR.gL hR (by omega)) ?_)
    refine J_if_eq (tgt := 21) dX0_isFace_14 rfl (j_R (lyg31 (KR.hn hR) F _)) (fun h14 => ?_) (fun h14 => ?_)
    ·
      refine J_iconst dX0_isFace_21 ?_
      refine J_zreturn dX0_isFace_22 rfl (Or.inl rfl) ?_
      exact ⟨bf (by rw [lyg_isF]; exact decide_eq_false (by omega)), rfl⟩
    ·
      refine J_iconst dX0_isFace_17 ?_
      refine J_goto (tgt := 22) dX0_isFace_18 rfl ?_
      refine J_zreturn dX0_isFace_22 rfl (Or.inr rfl) ?_
      exact ⟨bt (by rw [lyg_isF]; exact decide_eq_true (by omega)), rfl⟩
set_option maxRecDepth 100000 in
set_option maxHeartbeats 4000000 in
theorem ev_X0_numberOf_L2 (P D n : Nat) (F O : Nat → Nat) (M : jM) (hR : KR P D n F O M) (x : Int) (hx : -2147483648 ≤ x ∧ x < 2147483648)  : ∀ (fu : Nat) (k : Nat) (h1 : anyN k (fun k => decide ((F k : Int) = x)) = false) (h2 : k ≤ n) (hfu : n - k < fu), J none 0 mX0_numberOf 2 [(14, 0), (0, x), (0, ((k : Nat) : Int))] [] M (j_ret mX0_numberOf (fun z M' => z = fstN n (fun k => decide ((F k : Int) = x)) (-1) ∧ M' = M)) := by
  intro fu
  induction fu with
  | zero => intro k h1 h2 hfu; exact absurd hfu (Nat.not_lt_zero _)
  | succ fu ih =>
    intro k h1 h2 hfu
    have hn12 := KR.hn hR
    have hP7 := KR.hP hR
    have hD5 := KR.hD hR
    have h2P : 2 ^ P ≤ 128 := Nat.pow_le_pow_right (n := 2) (by decide) hP7
    have h2p := Nat.two_pow_pos P
    refine J_iload_n dX0_numberOf_2 rfl ?_
    refine J_aload_n dX0_numberOf_3 rfl ?_
    refine J_getI dX0_numberOf_4 flX0_41 rfl rfl (J_top (v := ((n : Nat) : Int)) (KR.gn hR) ?_)
    refine J_icmp_ge (tgt := 28) dX0_numberOf_7 rfl (j_R (by omega)) (j_R (by omega)) (fun h7 => ?_) (fun h7 => ?_)
    ·
      refine J_iconst dX0_numberOf_28 ?_
      refine J_ireturn dX0_numberOf_29 rfl ?_
      have : k = n := by omega
      subst this
      exact ⟨by rw [fstN_none h1], rfl⟩
    ·
      refine J_aload_n dX0_numberOf_10 rfl ?_
      refine J_getR dX0_numberOf_11 flX0_9 rfl rfl ?_
      refine J_iload_n dX0_numberOf_14 rfl ?_
      refine J_iald dX0_numberOf_15 rfl (by decide) (KR.ix hR (by omega)) (J_top (v := (((F k) : Nat) : Int)) (KR.gF hR (by omega)) ?_)
      refine J_iload_n dX0_numberOf_16 rfl ?_
      refine J_icmp_ne (tgt := 22) dX0_numberOf_17 rfl (j_R (KR.f31 hR (by omega))) (by omega) (fun h17 => ?_) (fun h17 => ?_)
      ·
        refine J_iinc (v := (((k + 1) : Nat) : Int)) (L' := [(14, 0), (0, x), (0, (((k + 1) : Nat) : Int))]) dX0_numberOf_22 rfl (by omega) (by decide) rfl rfl ?_
        refine J_goto (tgt := 2) dX0_numberOf_25 rfl ?_
        exact ih _ (by rw [anyN_f (by exact decide_eq_false (by omega)), h1]) (by omega) (by omega)
      ·
        refine J_iload_n dX0_numberOf_20 rfl ?_
        refine J_ireturn dX0_numberOf_21 rfl ?_
        exact ⟨by rw [fstN_hit h1 (by exact decide_eq_true (by omega)) (by omega)], rfl⟩
set_option maxRecDepth 100000 in
set_option maxHeartbeats 4000000 in
theorem ev_X0_numberOf (P D n : Nat) (F O : Nat → Nat) (M : jM) (hR : KR P D n F O M) (x : Int) (hx : -2147483648 ≤ x ∧ x < 2147483648) : Ev 0 mX0_numberOf [(14, 0), (0, x)] M (fun z M' => z = fstN n (fun k => decide ((F k : Int) = x)) (-1) ∧ M' = M) := by
  refine Ev_of (by decide +kernel) (Nat.le_of_ble_eq_true rfl) (L := [(14, 0), (0, x), (9, 0)]) rfl ?_
  have hn12 := KR.hn hR
  have hP7 := KR.hP hR
  have hD5 := KR.hD hR
  have h2P : 2 ^ P ≤ 128 := Nat.pow_le_pow_right (n := 2) (by decide) hP7
  have h2p := Nat.two_pow_pos P
  refine J_iconst dX0_numberOf_0 ?_
  refine J_istore_n (L' := [(14, 0), (0, x), (0, 0)]) dX0_numberOf_1 (by decide) rfl rfl ?_
  refine J_eq (L' := [(14, 0), (0, x), (0, ((0 : Nat) : Int))]) rfl rfl rfl ?_
  exact ev_X0_numberOf_L2 P D n F O M hR x hx  _ _ (by rfl) (by omega) (Nat.lt_succ_self _)
set_option maxRecDepth 100000 in
set_option maxHeartbeats 4000000 in
theorem ev_X0_countSized_L4 (P D n : Nat) (F O : Nat → Nat) (M : jM) (hR : KR P D n F O M) (k : Int) (hk : -2147483648 ≤ k ∧ k < 2147483648)  : ∀ (fu : Nat) (c s : Nat) (h1 : c = cntN s (fun s => decide (¬ lyg n F s = 0) && decide ((popc s : Int) = k))) (h2 : s ≤ 2 ^ P) (hfu : 2 ^ P - s < fu), J none 1 mX0_countSized 4 [(14, 0), (0, k), (0, ((c : Nat) : Int)), (0, ((s : Nat) : Int))] [] M (j_ret mX0_countSized (fun z M' => z = ((cntN 128 (fun s => isF n F s && decide ((popc s : Int) = k)) : Nat) : Int) ∧ M' = M)) := by
  intro fu
  induction fu with
  | zero => intro c s h1 h2 hfu; exact absurd hfu (Nat.not_lt_zero _)
  | succ fu ih =>
    intro c s h1 h2 hfu
    have hn12 := KR.hn hR
    have hP7 := KR.hP hR
    have hD5 := KR.hD hR
    have h2P : 2 ^ P ≤ 128 := Nat.pow_le_pow_right (n := 2) (by decide) hP7
    have h2p := Nat.two_pow_pos P
    refine J_iload_n dX0_countSized_4 rfl ?_
    refine J_aload_n dX0_countSized_5 rfl ?_
    refine J_callViQ (cl := mX0_everyPoint) [] [(0, ((s : Nat) : Int))] dX0_countSized_6 mlX0_62 cvX0_everyPoint rfl rfl rfl rfl rfl (by decide) (Nat.le_of_ble_eq_true rfl) rfl (ev_X0_everyPoint P D n F O M hR ) ?_
    refine J_icmp_gt (tgt := 38) dX0_countSized_9 rfl (j_R (by omega)) (j_R (kp31 hR)) (fun h9 => ?_) (fun h9 => ?_)
    ·
      refine J_iload_n dX0_countSized_38 rfl ?_
      refine J_ireturn dX0_countSized_39 rfl ?_
      have : s = 2 ^ P := by omega
      subst this
      exact ⟨by rw [h1, cnt_faces hR.wf], rfl⟩
    ·
      refine J_aload_n dX0_countSized_12 rfl ?_
      refine J_getR dX0_countSized_13 flX0_18 rfl rfl ?_
      refine J_iload_n dX0_countSized_16 rfl ?_
      refine J_iald dX0_countSized_17 rfl (by decide) (i128 (by omega)) (J_top (v := (((lyg n F s) : Nat) : Int)) (KR.gL hR (by omega)) ?_)
      refine J_if_eq (tgt := 32) dX0_countSized_18 rfl (j_R (lyg31 (KR.hn hR) F _)) (fun h18 => ?_) (fun h18 => ?_)
      ·
        refine J_iinc (v := (((s + 1) : Nat) : Int)) (L' := [(14, 0), (0, k), (0, ((c : Nat) : Int)), (0, (((s + 1) : Nat) : Int))]) dX0_countSized_32 rfl (by omega) (by decide) rfl rfl ?_
        refine J_goto (tgt := 4) dX0_countSized_35 rfl ?_
        exact ih _ _ (by have a1 : lyg n F s = 0 := (by omega); rw [cntN_f (by simp [a1]), h1]) (by omega) (by omega)
      ·
        refine J_iload_n dX0_countSized_21 rfl ?_
        refine J_callSiQ (cl := mJ6_bitCount_0f7a4) [(0, ((s : Nat) : Int))] [] dX0_countSized_22 mlX0_43 csJ6_bitCount_0f7a4 rfl rfl (by decide) (Nat.le_of_ble_eq_true rfl) rfl (ev_bitCount s (by omega) M) ?_
        refine J_iload_n dX0_countSized_25 rfl ?_
        refine J_icmp_ne (tgt := 32) dX0_countSized_26 rfl (j_R (popc_lt (by omega))) (by omega) (fun h26 => ?_) (fun h26 => ?_)
        ·
          refine J_iinc (v := (((s + 1) : Nat) : Int)) (L' := [(14, 0), (0, k), (0, ((c : Nat) : Int)), (0, (((s + 1) : Nat) : Int))]) dX0_countSized_32 rfl (by omega) (by decide) rfl rfl ?_
          refine J_goto (tgt := 4) dX0_countSized_35 rfl ?_
          exact ih _ _ (by have a2 : ¬ (popc s : Int) = k := (by omega); rw [cntN_f (by simp [a2]), h1]) (by omega) (by omega)
        ·
          refine J_iinc (v := (((c + 1) : Nat) : Int)) (L' := [(14, 0), (0, k), (0, (((c + 1) : Nat) : Int)), (0, ((s : Nat) : Int))]) dX0_countSized_29 rfl (by omega) (by decide) rfl rfl ?_
          refine J_iinc (v := (((s + 1) : Nat) : Int)) (L' := [(14, 0), (0, k), (0, (((c + 1) : Nat) : Int)), (0, (((s + 1) : Nat) : Int))]) dX0_countSized_32 rfl (by omega) (by decide) rfl rfl ?_
          refine J_goto (tgt := 4) dX0_countSized_35 rfl ?_
          exact ih _ _ (by have a1 : ¬ lyg n F s = 0 := (by omega); have a2 : (popc s : Int) = k := (by omega); rw [cntN_t (by simp [a1, a2]), h1]) (by omega) (by omega)
set_option maxRecDepth 100000 in
set_option maxHeartbeats 4000000 in
theorem ev_X0_countSized (P D n : Nat) (F O : Nat → Nat) (M : jM) (hR : KR P D n F O M) (k : Int) (hk : -2147483648 ≤ k ∧ k < 2147483648) : Ev 1 mX0_countSized [(14, 0), (0, k)] M (fun z M' => z = ((cntN 128 (fun s => isF n F s && decide ((popc s : Int) = k)) : Nat) : Int) ∧ M' = M) := by
  refine Ev_of (by decide +kernel) (Nat.le_of_ble_eq_true rfl) (L := [(14, 0), (0, k), (9, 0), (9, 0)]) rfl ?_
  have hn12 := KR.hn hR
  have hP7 := KR.hP hR
  have hD5 := KR.hD hR
  have h2P : 2 ^ P ≤ 128 := Nat.pow_le_pow_right (n := 2) (by decide) hP7
  have h2p := Nat.two_pow_pos P
  refine J_iconst dX0_countSized_0 ?_
  refine J_istore_n (L' := [(14, 0), (0, k), (0, 0), (9, 0)]) dX0_countSized_1 (by decide) rfl rfl ?_
  refine J_iconst dX0_countSized_2 ?_
  refine J_istore_n (L' := [(14, 0), (0, k), (0, 0), (0, 0)]) dX0_countSized_3 (by decide) rfl rfl ?_
  refine J_eq (L' := [(14, 0), (0, k), (0, ((0 : Nat) : Int)), (0, ((0 : Nat) : Int))]) rfl rfl rfl ?_
  exact ev_X0_countSized_L4 P D n F O M hR k hk  _ _ _ (by rfl) (by omega) (Nat.lt_succ_self _)
set_option maxRecDepth 100000 in
set_option maxHeartbeats 4000000 in
theorem ev_X0_countFaces_L4 (P D n : Nat) (F O : Nat → Nat) (M : jM) (hR : KR P D n F O M)  : ∀ (fu : Nat) (c : Int) (k : Nat) (h1 : c = sumN k (fun k => (1 : Int) * (cntN 128 (fun s => isF n F s && decide ((popc s : Int) = (k : Int))) : Int))) (h2 : k ≤ D + 1) (hfu : D + 1 - k < fu), J none 2 mX0_countFaces 4 [(14, 0), (0, c), (0, ((k : Nat) : Int))] [] M (j_ret mX0_countFaces (fun z M' => z = (sumN 128 (fun s => if isF n F s = true then (if false = true ∧ popc s % 2 = 0 then -1 else 1) else 0)) ∧ M' = M)) := by
  intro fu
  induction fu with
  | zero => intro c k h1 h2 hfu; exact absurd hfu (Nat.not_lt_zero _)
  | succ fu ih =>
    intro c k h1 h2 hfu
    have hn12 := KR.hn hR
    have hP7 := KR.hP hR
    have hD5 := KR.hD hR
    have h2P : 2 ^ P ≤ 128 := Nat.pow_le_pow_right (n := 2) (by decide) hP7
    have h2p := Nat.two_pow_pos P
    refine J_iload_n dX0_countFaces_4 rfl ?_
    refine J_aload_n dX0_countFaces_5 rfl ?_
    refine J_getI dX0_countFaces_6 flX0_37 rfl rfl (J_top (v := ((D : Nat) : Int)) (KR.gD hR) ?_)
    refine J_icmp_gt (tgt := 26) dX0_countFaces_9 rfl (j_R (by omega)) (j_R (by omega)) (fun h9 => ?_) (fun h9 => ?_)
    ·
      refine J_iload_n dX0_countFaces_26 rfl ?_
      refine J_ireturn dX0_countFaces_27 rfl ?_
      have : k = D + 1 := by omega
      subst this
      refine ⟨?_, rfl⟩
      rw [h1, sum_by 128 (isF n F) popc (fun _ => 1)]
      refine sumN_congr (fun s _ => ?_)
      cases e : isF n F s
      · simp
      · have := isF_pop hR.wf e
        rw [if_pos ⟨rfl, by omega⟩]
        simp
    ·
      refine J_iload_n dX0_countFaces_12 rfl ?_
      refine J_aload_n dX0_countFaces_13 rfl ?_
      refine J_iload_n dX0_countFaces_14 rfl ?_
      refine J_callViQ (cl := mX0_countSized) [(0, ((k : Nat) : Int))] [(0, c)] dX0_countFaces_15 mlX0_69 cvX0_countSized rfl rfl rfl rfl rfl (by decide) (Nat.le_of_ble_eq_true rfl) rfl (ev_X0_countSized P D n F O M hR ((k : Nat) : Int) (j_R (by omega))) ?_
      refine J_iadd dX0_countFaces_18 ?_
      refine J_istore_n (L' := [(14, 0), (0, (c + (((cntN 128 (fun s => isF n F s && decide ((popc s : Int) = ((k : Nat) : Int)))) : Nat) : Int))), (0, ((k : Nat) : Int))]) dX0_countFaces_19 (by decide) rfl rfl ?_
      refine J_iinc (v := (((k + 1) : Nat) : Int)) (L' := [(14, 0), (0, (c + (((cntN 128 (fun s => isF n F s && decide ((popc s : Int) = ((k : Nat) : Int)))) : Nat) : Int))), (0, (((k + 1) : Nat) : Int))]) dX0_countFaces_20 rfl (by omega) (by decide) rfl rfl ?_
      refine J_goto (tgt := 4) dX0_countFaces_23 rfl ?_
      exact ih _ _ (by rw [h1]; simp only [sumN]; omega) (by omega) (by omega)
set_option maxRecDepth 100000 in
set_option maxHeartbeats 4000000 in
theorem ev_X0_countFaces (P D n : Nat) (F O : Nat → Nat) (M : jM) (hR : KR P D n F O M) : Ev 2 mX0_countFaces [(14, 0)] M (fun z M' => z = (sumN 128 (fun s => if isF n F s = true then (if false = true ∧ popc s % 2 = 0 then -1 else 1) else 0)) ∧ M' = M) := by
  refine Ev_of (by decide +kernel) (Nat.le_of_ble_eq_true rfl) (L := [(14, 0), (9, 0), (9, 0)]) rfl ?_
  have hn12 := KR.hn hR
  have hP7 := KR.hP hR
  have hD5 := KR.hD hR
  have h2P : 2 ^ P ≤ 128 := Nat.pow_le_pow_right (n := 2) (by decide) hP7
  have h2p := Nat.two_pow_pos P
  refine J_iconst dX0_countFaces_0 ?_
  refine J_istore_n (L' := [(14, 0), (0, 0), (9, 0)]) dX0_countFaces_1 (by decide) rfl rfl ?_
  refine J_iconst dX0_countFaces_2 ?_
  refine J_istore_n (L' := [(14, 0), (0, 0), (0, 0)]) dX0_countFaces_3 (by decide) rfl rfl ?_
  refine J_eq (L' := [(14, 0), (0, 0), (0, ((0 : Nat) : Int))]) rfl rfl rfl ?_
  exact ev_X0_countFaces_L4 P D n F O M hR  _ _ _ (by rfl) (by omega) (Nat.lt_succ_self _)
set_option maxRecDepth 100000 in
set_option maxHeartbeats 4000000 in
theorem ev_X0_usedPoints_L4 (P D n : Nat) (F O : Nat → Nat) (M : jM) (hR : KR P D n F O M)  : ∀ (fu : Nat) (x k : Nat) (h1 : x = ptN P k F false) (h2 : k ≤ n) (hfu : n - k < fu), J none 0 mX0_usedPoints 4 [(14, 0), (0, ((x : Nat) : Int)), (0, ((k : Nat) : Int))] [] M (j_ret mX0_usedPoints (fun z M' => z = ((ptN P n F false : Nat) : Int) ∧ M' = M)) := by
  intro fu
  induction fu with
  | zero => intro x k h1 h2 hfu; exact absurd hfu (Nat.not_lt_zero _)
  | succ fu ih =>
    intro x k h1 h2 hfu
    have hn12 := KR.hn hR
    have hP7 := KR.hP hR
    have hD5 := KR.hD hR
    have h2P : 2 ^ P ≤ 128 := Nat.pow_le_pow_right (n := 2) (by decide) hP7
    have h2p := Nat.two_pow_pos P
    refine J_iload_n dX0_usedPoints_4 rfl ?_
    refine J_aload_n dX0_usedPoints_5 rfl ?_
    refine J_getI dX0_usedPoints_6 flX0_41 rfl rfl (J_top (v := ((n : Nat) : Int)) (KR.gn hR) ?_)
    refine J_icmp_ge (tgt := 27) dX0_usedPoints_9 rfl (j_R (by omega)) (j_R (by omega)) (fun h9 => ?_) (fun h9 => ?_)
    ·
      refine J_iload_n dX0_usedPoints_27 rfl ?_
      refine J_ireturn dX0_usedPoints_28 rfl ?_
      have : k = n := by omega
      subst this
      exact ⟨by rw [h1], rfl⟩
    ·
      refine J_iload_n dX0_usedPoints_12 rfl ?_
      refine J_aload_n dX0_usedPoints_13 rfl ?_
      refine J_getR dX0_usedPoints_14 flX0_9 rfl rfl ?_
      refine J_iload_n dX0_usedPoints_17 rfl ?_
      refine J_iald dX0_usedPoints_18 rfl (by decide) (KR.ix hR (by omega)) (J_top (v := (((F k) : Nat) : Int)) (KR.gF hR (by omega)) ?_)
      refine J_ior dX0_usedPoints_19 (J_top (v := (((x ||| (F k)) : Nat) : Int)) (j_orN rfl rfl (by rw [h1]; exact ptK31 hR.1 h2 _) (KR.f31 hR (by omega))) ?_)
      refine J_istore_n (L' := [(14, 0), (0, (((x ||| (F k)) : Nat) : Int)), (0, ((k : Nat) : Int))]) dX0_usedPoints_20 (by decide) rfl rfl ?_
      refine J_iinc (v := (((k + 1) : Nat) : Int)) (L' := [(14, 0), (0, (((x ||| (F k)) : Nat) : Int)), (0, (((k + 1) : Nat) : Int))]) dX0_usedPoints_21 rfl (by omega) (by decide) rfl rfl ?_
      refine J_goto (tgt := 4) dX0_usedPoints_24 rfl ?_
      exact ih _ _ (by rw [h1]; rfl) (by omega) (by omega)
set_option maxRecDepth 100000 in
set_option maxHeartbeats 4000000 in
theorem ev_X0_usedPoints (P D n : Nat) (F O : Nat → Nat) (M : jM) (hR : KR P D n F O M) : Ev 0 mX0_usedPoints [(14, 0)] M (fun z M' => z = ((ptN P n F false : Nat) : Int) ∧ M' = M) := by
  refine Ev_of (by decide +kernel) (Nat.le_of_ble_eq_true rfl) (L := [(14, 0), (9, 0), (9, 0)]) rfl ?_
  have hn12 := KR.hn hR
  have hP7 := KR.hP hR
  have hD5 := KR.hD hR
  have h2P : 2 ^ P ≤ 128 := Nat.pow_le_pow_right (n := 2) (by decide) hP7
  have h2p := Nat.two_pow_pos P
  refine J_iconst dX0_usedPoints_0 ?_
  refine J_istore_n (L' := [(14, 0), (0, 0), (9, 0)]) dX0_usedPoints_1 (by decide) rfl rfl ?_
  refine J_iconst dX0_usedPoints_2 ?_
  refine J_istore_n (L' := [(14, 0), (0, 0), (0, 0)]) dX0_usedPoints_3 (by decide) rfl rfl ?_
  refine J_eq (L' := [(14, 0), (0, ((0 : Nat) : Int)), (0, ((0 : Nat) : Int))]) rfl rfl rfl ?_
  exact ev_X0_usedPoints_L4 P D n F O M hR  _ _ _ (by rfl) (by omega) (Nat.lt_succ_self _)
set_option maxRecDepth 100000 in
set_option maxHeartbeats 4000000 in
theorem ev_X0_commonPoints_L7 (P D n : Nat) (F O : Nat → Nat) (M : jM) (hR : KR P D n F O M)  : ∀ (fu : Nat) (x k : Nat) (h1 : x = ptN P k F true) (h2 : k ≤ n) (hfu : n - k < fu), J none 1 mX0_commonPoints 7 [(14, 0), (0, ((x : Nat) : Int)), (0, ((k : Nat) : Int))] [] M (j_ret mX0_commonPoints (fun z M' => z = ((ptN P n F true : Nat) : Int) ∧ M' = M)) := by
  intro fu
  induction fu with
  | zero => intro x k h1 h2 hfu; exact absurd hfu (Nat.not_lt_zero _)
  | succ fu ih =>
    intro x k h1 h2 hfu
    have hn12 := KR.hn hR
    have hP7 := KR.hP hR
    have hD5 := KR.hD hR
    have h2P : 2 ^ P ≤ 128 := Nat.pow_le_pow_right (n := 2) (by decide) hP7
    have h2p := Nat.two_pow_pos P
    refine J_iload_n dX0_commonPoints_7 rfl ?_
    refine J_aload_n dX0_commonPoints_8 rfl ?_
    refine J_getI dX0_commonPoints_9 flX0_41 rfl rfl (J_top (v := ((n : Nat) : Int)) (KR.gn hR) ?_)
    refine J_icmp_ge (tgt := 30) dX0_commonPoints_12 rfl (j_R (by omega)) (j_R (by omega)) (fun h12 => ?_) (fun h12 => ?_)
    ·
      refine J_iload_n dX0_commonPoints_30 rfl ?_
      refine J_ireturn dX0_commonPoints_31 rfl ?_
      have : k = n := by omega
      subst this
      exact ⟨by rw [h1], rfl⟩
    ·
      refine J_iload_n dX0_commonPoints_15 rfl ?_
      refine J_aload_n dX0_commonPoints_16 rfl ?_
      refine J_getR dX0_commonPoints_17 flX0_9 rfl rfl ?_
      refine J_iload_n dX0_commonPoints_20 rfl ?_
      refine J_iald dX0_commonPoints_21 rfl (by decide) (KR.ix hR (by omega)) (J_top (v := (((F k) : Nat) : Int)) (KR.gF hR (by omega)) ?_)
      refine J_iand dX0_commonPoints_22 (J_top (v := (((x &&& (F k)) : Nat) : Int)) (j_andN rfl rfl (by rw [h1]; exact ptK31 hR.1 h2 _) (KR.f31 hR (by omega))) ?_)
      refine J_istore_n (L' := [(14, 0), (0, (((x &&& (F k)) : Nat) : Int)), (0, ((k : Nat) : Int))]) dX0_commonPoints_23 (by decide) rfl rfl ?_
      refine J_iinc (v := (((k + 1) : Nat) : Int)) (L' := [(14, 0), (0, (((x &&& (F k)) : Nat) : Int)), (0, (((k + 1) : Nat) : Int))]) dX0_commonPoints_24 rfl (by omega) (by decide) rfl rfl ?_
      refine J_goto (tgt := 7) dX0_commonPoints_27 rfl ?_
      exact ih _ _ (by rw [h1]; rfl) (by omega) (by omega)
set_option maxRecDepth 100000 in
set_option maxHeartbeats 4000000 in
theorem ev_X0_commonPoints (P D n : Nat) (F O : Nat → Nat) (M : jM) (hR : KR P D n F O M) : Ev 1 mX0_commonPoints [(14, 0)] M (fun z M' => z = ((ptN P n F true : Nat) : Int) ∧ M' = M) := by
  refine Ev_of (by decide +kernel) (Nat.le_of_ble_eq_true rfl) (L := [(14, 0), (9, 0), (9, 0)]) rfl ?_
  have hn12 := KR.hn hR
  have hP7 := KR.hP hR
  have hD5 := KR.hD hR
  have h2P : 2 ^ P ≤ 128 := Nat.pow_le_pow_right (n := 2) (by decide) hP7
  have h2p := Nat.two_pow_pos P
  refine J_aload_n dX0_commonPoints_0 rfl ?_
  refine J_callViQ (cl := mX0_everyPoint) [] [] dX0_commonPoints_1 mlX0_62 cvX0_everyPoint rfl rfl rfl rfl rfl (by decide) (Nat.le_of_ble_eq_true rfl) rfl (ev_X0_everyPoint P D n F O M hR ) ?_
  refine J_istore_n (L' := [(14, 0), (0, (((2 ^ P - 1) : Nat) : Int)), (9, 0)]) dX0_commonPoints_4 (by decide) rfl rfl ?_
  refine J_iconst dX0_commonPoints_5 ?_
  refine J_istore_n (L' := [(14, 0), (0, (((2 ^ P - 1) : Nat) : Int)), (0, 0)]) dX0_commonPoints_6 (by decide) rfl rfl ?_
  refine J_eq (L' := [(14, 0), (0, (((2 ^ P - 1) : Nat) : Int)), (0, ((0 : Nat) : Int))]) rfl rfl rfl ?_
  exact ev_X0_commonPoints_L7 P D n F O M hR  _ _ _ (by rfl) (by omega) (Nat.lt_succ_self _)
set_option maxRecDepth 100000 in
set_option maxHeartbeats 4000000 in
theorem ev_X0_isMissing_L13 (P D n : Nat) (F O : Nat → Nat) (M : jM) (hR : KR P D n F O M) (h0 : 0 < n) (x : Nat) (hx : x < 128) (g1 : lyg n F x = 0) : ∀ (fu : Nat) (p : Nat) (h1 : allN p (fun p => !Nat.testBit x p || decide (¬ lyg n F (ndf x (2 ^ p)) = 0)) = true) (h2 : p ≤ P) (hfu : P - p < fu), J none 0 mX0_isMissing 13 [(14, 0), (0, ((x : Nat) : Int)), (0, ((p : Nat) : Int)), (9, 0)] [] M (j_ret mX0_isMissing (fun z M' => z = ((Bool.toNat (msg P (isF n F) x) : Nat) : Int) ∧ M' = M)) := by
  intro fu
  induction fu with
  | zero => intro p h1 h2 hfu; exact absurd hfu (Nat.not_lt_zero _)
  | succ fu ih =>
    intro p h1 h2 hfu
    have hn12 := KR.hn hR
    have hP7 := KR.hP hR
    have hD5 := KR.hD hR
    have h2P : 2 ^ P ≤ 128 := Nat.pow_le_pow_right (n := 2) (by decide) hP7
    have h2p := Nat.two_pow_pos P
    refine J_iload_n dX0_isMissing_13 rfl ?_
    refine J_aload_n dX0_isMissing_14 rfl ?_
    refine J_getI dX0_isMissing_15 flX0_33 rfl rfl (J_top (v := ((P : Nat) : Int)) (KR.gP hR) ?_)
    refine J_icmp_ge (tgt := 52) dX0_isMissing_18 rfl (j_R (by omega)) (j_R (by omega)) (fun h18 => ?_) (fun h18 => ?_)
    ·
      refine J_iconst dX0_isMissing_52 ?_
      refine J_zreturn dX0_isMissing_53 rfl (Or.inr rfl) ?_
      have : p = P := by omega
      subst this
      exact ⟨bt (by rw [← msC_eq h0]; unfold msC; rw [h1, decide_eq_true g1]; rfl), rfl⟩
    ·
      refine J_iconst dX0_isMissing_21 ?_
      refine J_iload_n dX0_isMissing_22 rfl ?_
      refine J_ishl dX0_isMissing_23 (J_top (v := (((2 ^ p) : Nat) : Int)) (j_shl1 rfl rfl (by omega)) ?_)
      refine J_istore_n (L' := [(14, 0), (0, ((x : Nat) : Int)), (0, ((p : Nat) : Int)), (0, (((2 ^ p) : Nat) : Int))]) dX0_isMissing_24 (by decide) rfl rfl ?_
      refine J_iload_n dX0_isMissing_25 rfl ?_
      refine J_iload_n dX0_isMissing_26 rfl ?_
      refine J_iand dX0_isMissing_27 (J_top (v := (((x &&& (2 ^ p)) : Nat) : Int)) (j_andN rfl rfl (by omega) (nb_p2 (by omega))) ?_)
      refine J_if_eq (tgt := 46) dX0_isMissing_28 rfl (j_R (nb_and (by omega))) (fun h28 => ?_) (fun h28 => ?_)
      ·
        refine J_iinc (v := (((p + 1) : Nat) : Int)) (L' := [(14, 0), (0, ((x : Nat) : Int)), (0, (((p + 1) : Nat) : Int)), (0, (((2 ^ p) : Nat) : Int))]) dX0_isMissing_46 rfl (by omega) (by decide) rfl rfl ?_
        refine J_goto (tgt := 13) dX0_isMissing_49 rfl ?_
        refine J_unset 3 (L' := [(14, 0), (0, ((x : Nat) : Int)), (0, (((p + 1) : Nat) : Int)), (9, 0)]) rfl ?_
        exact ih _ (by have a1 := and_p2z h28; rw [allN_t (by simp [a1]), h1]) (by omega) (by omega)
      ·
        refine J_aload_n dX0_isMissing_31 rfl ?_
        refine J_getR dX0_isMissing_32 flX0_18 rfl rfl ?_
        refine J_iload_n dX0_isMissing_35 rfl ?_
        refine J_iload_n dX0_isMissing_36 rfl ?_
        refine J_iconst dX0_isMissing_37 ?_
        refine J_ixor dX0_isMissing_38 (J_top (v := (-(((2 ^ p) : Nat) : Int) - 1)) (j_notN rfl (nb_p2 (by omega))) ?_)
        refine J_iand dX0_isMissing_39 (J_top (v := (((ndf x (2 ^ p)) : Nat) : Int)) (j_ndfN rfl rfl (by omega)) ?_)
        refine J_iald dX0_isMissing_40 rfl (by decide) (i128 (by have := ndf_le x (2 ^ p); omega)) (J_top (v := (((lyg n F (ndf x (2 ^ p))) : Nat) : Int)) (KR.gL hR (by have := ndf_le x (2 ^ p); omega)) ?_)
        refine J_if_ne (tgt := 46) dX0_isMissing_41 rfl (j_R (lyg31 (KR.hn hR) F _)) (fun h41 => ?_) (fun h41 => ?_)
        ·
          refine J_iinc (v := (((p + 1) : Nat) : Int)) (L' := [(14, 0), (0, ((x : Nat) : Int)), (0, (((p + 1) : Nat) : Int)), (0, (((2 ^ p) : Nat) : Int))]) dX0_isMissing_46 rfl (by omega) (by decide) rfl rfl ?_
          refine J_goto (tgt := 13) dX0_isMissing_49 rfl ?_
          refine J_unset 3 (L' := [(14, 0), (0, ((x : Nat) : Int)), (0, (((p + 1) : Nat) : Int)), (9, 0)]) rfl ?_
          exact ih _ (by have a2 : ¬ lyg n F (ndf x (2 ^ p)) = 0 := (by omega); rw [allN_t (by simp [a2]), h1]) (by omega) (by omega)
        ·
          refine J_iconst dX0_isMissing_44 ?_
          refine J_zreturn dX0_isMissing_45 rfl (Or.inl rfl) ?_
          exact ⟨bf (by rw [← msC_eq h0]; have a1 := and_p2n h28; have a2 : lyg n F (ndf x (2 ^ p)) = 0 := (by omega); have := allN_no (n := P) (p := (fun p => !Nat.testBit x p || decide (¬ lyg n F (ndf x (2 ^ p)) = 0))) (k := p) (by simp [a1, a2]) (by omega); unfold msC; rw [this, Bool.and_false]), rfl⟩
set_option maxRecDepth 100000 in
set_option maxHeartbeats 4000000 in
theorem ev_X0_isMissing (P D n : Nat) (F O : Nat → Nat) (M : jM) (hR : KR P D n F O M) (h0 : 0 < n) (x : Nat) (hx : x < 128) : Ev 0 mX0_isMissing [(14, 0), (0, ((x : Nat) : Int))] M (fun z M' => z = ((Bool.toNat (msg P (isF n F) x) : Nat) : Int) ∧ M' = M) := by
  refine Ev_of (by decide +kernel) (Nat.le_of_ble_eq_true rfl) (L := [(14, 0), (0, ((x : Nat) : Int)), (9, 0), (9, 0)]) rfl ?_
  have hn12 := KR.hn hR
  have hP7 := KR.hP hR
  have hD5 := KR.hD hR
  have h2P : 2 ^ P ≤ 128 := Nat.pow_le_pow_right (n := 2) (by decide) hP7
  have h2p := Nat.two_pow_pos P
  refine J_aload_n dX0_isMissing_0 rfl ?_
  refine J_getR dX0_isMissing_1 flX0_18 rfl rfl ?_
  refine J_iload_n dX0_isMissing_4 rfl ?_
  refine J_iald dX0_isMissing_5 rfl (by decide) (i128 (by omega)) (J_top (v := (((lyg n F x) : Nat) : Int)) (KR.gL hR (by omega)) ?_)
  refine J_if_eq (tgt := 11) dX0_isMissing_6 rfl (j_R (lyg31 (KR.hn hR) F _)) (fun h6 => ?_) (fun h6 => ?_)
  ·
    refine J_iconst dX0_isMissing_11 ?_
    refine J_istore_n (L' := [(14, 0), (0, ((x : Nat) : Int)), (0, 0), (9, 0)]) dX0_isMissing_12 (by decide) rfl rfl ?_
    refine J_eq (L' := [(14, 0), (0, ((x : Nat) : Int)), (0, ((0 : Nat) : Int)), (9, 0)]) rfl rfl rfl ?_
    exact ev_X0_isMissing_L13 P D n F O M hR h0 x hx (by omega) _ _ (by rfl) (by omega) (Nat.lt_succ_self _)
  ·
    refine J_iconst dX0_isMissing_9 ?_
    refine J_zreturn dX0_isMissing_10 rfl (Or.inl rfl) ?_
    exact ⟨bf (by rw [← msC_eq h0]; have a1 : ¬ lyg n F x = 0 := (by omega); simp [msC, a1]), rfl⟩
set_option maxRecDepth 100000 in
set_option maxHeartbeats 4000000 in
theorem ev_X0_countMissing_L4 (P D n : Nat) (F O : Nat → Nat) (M : jM) (hR : KR P D n F O M) (h0 : 0 < n)  : ∀ (fu : Nat) (c s : Nat) (h1 : c = cntN s (msg P (isF n F))) (h2 : s ≤ 2 ^ P) (hfu : 2 ^ P - s < fu), J none 1 mX0_countMissing 4 [(14, 0), (0, ((c : Nat) : Int)), (0, ((s : Nat) : Int))] [] M (j_ret mX0_countMissing (fun z M' => z = ((cntN (2 ^ P) (msg P (isF n F)) : Nat) : Int) ∧ M' = M)) := by
  intro fu
  induction fu with
  | zero => intro c s h1 h2 hfu; exact absurd hfu (Nat.not_lt_zero _)
  | succ fu ih =>
    intro c s h1 h2 hfu
    have hn12 := KR.hn hR
    have hP7 := KR.hP hR
    have hD5 := KR.hD hR
    have h2P : 2 ^ P ≤ 128 := Nat.pow_le_pow_right (n := 2) (by decide) hP7
    have h2p := Nat.two_pow_pos P
    refine J_iload_n dX0_countMissing_4 rfl ?_
    refine J_aload_n dX0_countMissing_5 rfl ?_
    refine J_callViQ (cl := mX0_everyPoint) [] [(0, ((s : Nat) : Int))] dX0_countMissing_6 mlX0_62 cvX0_everyPoint rfl rfl rfl rfl rfl (by decide) (Nat.le_of_ble_eq_true rfl) rfl (ev_X0_everyPoint P D n F O M hR ) ?_
    refine J_icmp_gt (tgt := 29) dX0_countMissing_9 rfl (j_R (by omega)) (j_R (kp31 hR)) (fun h9 => ?_) (fun h9 => ?_)
    ·
      refine J_iload_n dX0_countMissing_29 rfl ?_
      refine J_ireturn dX0_countMissing_30 rfl ?_
      have : s = 2 ^ P := by omega
      subst this
      exact ⟨by rw [h1], rfl⟩
    ·
      refine J_aload_n dX0_countMissing_12 rfl ?_
      refine J_iload_n dX0_countMissing_13 rfl ?_
      refine J_callViQ (cl := mX0_isMissing) [(0, ((s : Nat) : Int))] [] dX0_countMissing_14 mlX0_72 cvX0_isMissing rfl rfl rfl rfl rfl (by decide) (Nat.le_of_ble_eq_true rfl) rfl (ev_X0_isMissing P D n F O M hR h0 s (by omega)) ?_
      refine J_ifb_eq (tgt := 23) dX0_countMissing_17 rfl (fun h17 => ?_) (fun h17 => ?_)
      ·
        refine J_iinc (v := (((s + 1) : Nat) : Int)) (L' := [(14, 0), (0, ((c : Nat) : Int)), (0, (((s + 1) : Nat) : Int))]) dX0_countMissing_23 rfl (by omega) (by decide) rfl rfl ?_
        refine J_goto (tgt := 4) dX0_countMissing_26 rfl ?_
        exact ih _ _ (by rw [cntN_f h17, h1]) (by omega) (by omega)
      ·
        refine J_iinc (v := (((c + 1) : Nat) : Int)) (L' := [(14, 0), (0, (((c + 1) : Nat) : Int)), (0, ((s : Nat) : Int))]) dX0_countMissing_20 rfl (by omega) (by decide) rfl rfl ?_
        refine J_iinc (v := (((s + 1) : Nat) : Int)) (L' := [(14, 0), (0, (((c + 1) : Nat) : Int)), (0, (((s + 1) : Nat) : Int))]) dX0_countMissing_23 rfl (by omega) (by decide) rfl rfl ?_
        refine J_goto (tgt := 4) dX0_countMissing_26 rfl ?_
        exact ih _ _ (by rw [cntN_t h17, h1]) (by omega) (by omega)
set_option maxRecDepth 100000 in
set_option maxHeartbeats 4000000 in
theorem ev_X0_countMissing (P D n : Nat) (F O : Nat → Nat) (M : jM) (hR : KR P D n F O M) (h0 : 0 < n) : Ev 1 mX0_countMissing [(14, 0)] M (fun z M' => z = ((cntN (2 ^ P) (msg P (isF n F)) : Nat) : Int) ∧ M' = M) := by
  refine Ev_of (by decide +kernel) (Nat.le_of_ble_eq_true rfl) (L := [(14, 0), (9, 0), (9, 0)]) rfl ?_
  have hn12 := KR.hn hR
  have hP7 := KR.hP hR
  have hD5 := KR.hD hR
  have h2P : 2 ^ P ≤ 128 := Nat.pow_le_pow_right (n := 2) (by decide) hP7
  have h2p := Nat.two_pow_pos P
  refine J_iconst dX0_countMissing_0 ?_
  refine J_istore_n (L' := [(14, 0), (0, 0), (9, 0)]) dX0_countMissing_1 (by decide) rfl rfl ?_
  refine J_iconst dX0_countMissing_2 ?_
  refine J_istore_n (L' := [(14, 0), (0, 0), (0, 0)]) dX0_countMissing_3 (by decide) rfl rfl ?_
  refine J_eq (L' := [(14, 0), (0, ((0 : Nat) : Int)), (0, ((0 : Nat) : Int))]) rfl rfl rfl ?_
  exact ev_X0_countMissing_L4 P D n F O M hR h0  _ _ _ (by rfl) (by omega) (Nat.lt_succ_self _)
set_option maxRecDepth 100000 in
set_option maxHeartbeats 4000000 in
theorem ev_X0_nthMissing_L17 (P D n : Nat) (F O : Nat → Nat) (M : jM) (hR : KR P D n F O M) (i : Int) (hi : -2147483648 ≤ i ∧ i < 2147483648) (h0 : 0 < n) (g : 0 ≤ i) : ∀ (fu : Nat) (l : Int) (s : Nat) (h1 : l = i - cntN s (msg P (isF n F))) (h2 : s ≤ 2 ^ P) (h3 : nthN s (msg P (isF n F)) i = -1) (h4 : 0 ≤ l) (hfu : 2 ^ P - s < fu), J none 1 mX0_nthMissing 17 [(14, 0), (0, i), (0, l), (0, ((s : Nat) : Int))] [] M (j_ret mX0_nthMissing (fun z M' => z = (if 0 < n then nthN (2 ^ P) (msg P (isF n F)) i else -1) ∧ M' = M)) := by
  intro fu
  induction fu with
  | zero => intro l s h1 h2 h3 h4 hfu; exact absurd hfu (Nat.not_lt_zero _)
  | succ fu ih =>
    intro l s h1 h2 h3 h4 hfu
    have hn12 := KR.hn hR
    have hP7 := KR.hP hR
    have hD5 := KR.hD hR
    have h2P : 2 ^ P ≤ 128 := Nat.pow_le_pow_right (n := 2) (by decide) hP7
    have h2p := Nat.two_pow_pos P
    refine J_iload_n dX0_nthMissing_17 rfl ?_
    refine J_aload_n dX0_nthMissing_18 rfl ?_
    refine J_callViQ (cl := mX0_everyPoint) [] [(0, ((s : Nat) : Int))] dX0_nthMissing_19 mlX0_62 cvX0_everyPoint rfl rfl rfl rfl rfl (by decide) (Nat.le_of_ble_eq_true rfl) rfl (ev_X0_everyPoint P D n F O M hR ) ?_
    refine J_icmp_gt (tgt := 48) dX0_nthMissing_22 rfl (j_R (by omega)) (j_R (kp31 hR)) (fun h22 => ?_) (fun h22 => ?_)
    ·
      refine J_iconst dX0_nthMissing_48 ?_
      refine J_ireturn dX0_nthMissing_49 rfl ?_
      have : s = 2 ^ P := by omega
      subst this
      exact ⟨by rw [if_pos h0, h3], rfl⟩
    ·
      refine J_aload_n dX0_nthMissing_25 rfl ?_
      refine J_iload_n dX0_nthMissing_26 rfl ?_
      refine J_callViQ (cl := mX0_isMissing) [(0, ((s : Nat) : Int))] [] dX0_nthMissing_27 mlX0_72 cvX0_isMissing rfl rfl rfl rfl rfl (by decide) (Nat.le_of_ble_eq_true rfl) rfl (ev_X0_isMissing P D n F O M hR h0 s (by omega)) ?_
      refine J_ifb_eq (tgt := 42) dX0_nthMissing_30 rfl (fun h30 => ?_) (fun h30 => ?_)
      ·
        refine J_iinc (v := (((s + 1) : Nat) : Int)) (L' := [(14, 0), (0, i), (0, l), (0, (((s + 1) : Nat) : Int))]) dX0_nthMissing_42 rfl (by omega) (by decide) rfl rfl ?_
        refine J_goto (tgt := 17) dX0_nthMissing_45 rfl ?_
        exact ih _ _ (by rw [cntN_f h30, h1]) (by omega) (by simp only [nthN]; rw [if_pos h3, if_neg (by rintro ⟨e, -⟩; rw [h30] at e; exact absurd e (by decide))]) (by exact h4) (by omega)
      ·
        refine J_iload_n dX0_nthMissing_33 rfl ?_
        refine J_if_ne (tgt := 39) dX0_nthMissing_34 rfl (by omega) (fun h34 => ?_) (fun h34 => ?_)
        ·
          refine J_iinc (v := (l - 1)) (L' := [(14, 0), (0, i), (0, (l - 1)), (0, ((s : Nat) : Int))]) dX0_nthMissing_39 rfl (by omega) (by decide) rfl rfl ?_
          refine J_iinc (v := (((s + 1) : Nat) : Int)) (L' := [(14, 0), (0, i), (0, (l - 1)), (0, (((s + 1) : Nat) : Int))]) dX0_nthMissing_42 rfl (by omega) (by decide) rfl rfl ?_
          refine J_goto (tgt := 17) dX0_nthMissing_45 rfl ?_
          exact ih _ _ (by rw [cntN_t h30, h1]; omega) (by omega) (by simp only [nthN]; rw [if_pos h3, if_neg (by rintro ⟨-, e⟩; omega)]) (by omega) (by omega)
        ·
          refine J_iload_n dX0_nthMissing_37 rfl ?_
          refine J_ireturn dX0_nthMissing_38 rfl ?_
          exact ⟨by rw [if_pos h0, nthN_hit h30 (by omega) (by omega)], rfl⟩
set_option maxRecDepth 100000 in
set_option maxHeartbeats 4000000 in
theorem ev_X0_nthMissing (P D n : Nat) (F O : Nat → Nat) (M : jM) (hR : KR P D n F O M) (i : Int) (hi : -2147483648 ≤ i ∧ i < 2147483648) : Ev 1 mX0_nthMissing [(14, 0), (0, i)] M (fun z M' => z = (if 0 < n then nthN (2 ^ P) (msg P (isF n F)) i else -1) ∧ M' = M) := by
  refine Ev_of (by decide +kernel) (Nat.le_of_ble_eq_true rfl) (L := [(14, 0), (0, i), (9, 0), (9, 0)]) rfl ?_
  have hn12 := KR.hn hR
  have hP7 := KR.hP hR
  have hD5 := KR.hD hR
  have h2P : 2 ^ P ≤ 128 := Nat.pow_le_pow_right (n := 2) (by decide) hP7
  have h2p := Nat.two_pow_pos P
  refine J_aload_n dX0_nthMissing_0 rfl ?_
  refine J_getI dX0_nthMissing_1 flX0_41 rfl rfl (J_top (v := ((n : Nat) : Int)) (KR.gn hR) ?_)
  refine J_if_eq (tgt := 11) dX0_nthMissing_4 rfl (j_R (by omega)) (fun h4 => ?_) (fun h4 => ?_)
  ·
    refine J_iconst dX0_nthMissing_11 ?_
    refine J_ireturn dX0_nthMissing_12 rfl ?_
    exact ⟨by split; (have : n = 0 := by omega); omega; rfl, rfl⟩
  ·
    refine J_iload_n dX0_nthMissing_7 rfl ?_
    refine J_if_ge (tgt := 13) dX0_nthMissing_8 rfl (by omega) (fun h8 => ?_) (fun h8 => ?_)
    ·
      have h0 : 0 < n := by omega
      refine J_iload_n dX0_nthMissing_13 rfl ?_
      refine J_istore_n (L' := [(14, 0), (0, i), (0, i), (9, 0)]) dX0_nthMissing_14 (by decide) rfl rfl ?_
      refine J_iconst dX0_nthMissing_15 ?_
      refine J_istore_n (L' := [(14, 0), (0, i), (0, i), (0, 0)]) dX0_nthMissing_16 (by decide) rfl rfl ?_
      refine J_eq (L' := [(14, 0), (0, i), (0, i), (0, ((0 : Nat) : Int))]) rfl rfl rfl ?_
      exact ev_X0_nthMissing_L17 P D n F O M hR i hi h0 (by omega) _ _ _ (by simp [cntN]) (by omega) (by rfl) (by omega) (Nat.lt_succ_self _)
    ·
      refine J_iconst dX0_nthMissing_11 ?_
      refine J_ireturn dX0_nthMissing_12 rfl ?_
      exact ⟨by rw [nthN_neg (by omega)]; split <;> rfl, rfl⟩
set_option maxRecDepth 100000 in
set_option maxHeartbeats 4000000 in
theorem ev_X0_neighbours_L4 (P D n : Nat) (F O : Nat → Nat) (M : jM) (hR : KR P D n F O M) (i : Nat) (hi : i < n)  : ∀ (fu : Nat) (x p : Nat) (h1 : x = orN p (acr n F i)) (h2 : p ≤ P) (hfu : P - p < fu), J none 0 mX0_neighbours 4 [(14, 0), (0, ((i : Nat) : Int)), (0, ((x : Nat) : Int)), (0, ((p : Nat) : Int))] [] M (j_ret mX0_neighbours (fun z M' => z = ((mskN n (nrB F D i) : Nat) : Int) ∧ M' = M)) := by
  intro fu
  induction fu with
  | zero => intro x p h1 h2 hfu; exact absurd hfu (Nat.not_lt_zero _)
  | succ fu ih =>
    intro x p h1 h2 hfu
    have hn12 := KR.hn hR
    have hP7 := KR.hP hR
    have hD5 := KR.hD hR
    have h2P : 2 ^ P ≤ 128 := Nat.pow_le_pow_right (n := 2) (by decide) hP7
    have h2p := Nat.two_pow_pos P
    refine J_iload_n dX0_neighbours_4 rfl ?_
    refine J_aload_n dX0_neighbours_5 rfl ?_
    refine J_getI dX0_neighbours_6 flX0_33 rfl rfl (J_top (v := ((P : Nat) : Int)) (KR.gP hR) ?_)
    refine J_icmp_ge (tgt := 32) dX0_neighbours_9 rfl (j_R (by omega)) (j_R (by omega)) (fun h9 => ?_) (fun h9 => ?_)
    ·
      refine J_iload_n dX0_neighbours_32 rfl ?_
      refine J_ireturn dX0_neighbours_33 rfl ?_
      have : p = P := by omega
      subst this
      exact ⟨by rw [h1, nb_eq hR.wf hi], rfl⟩
    ·
      refine J_iload_n dX0_neighbours_12 rfl ?_
      refine J_aload_n dX0_neighbours_13 rfl ?_
      refine J_getR dX0_neighbours_14 flX0_21 rfl rfl ?_
      refine J_iload_n dX0_neighbours_17 rfl ?_
      refine J_bipush dX0_neighbours_18 (by decide) ?_
      refine J_imul dX0_neighbours_20 (J_top (v := (((i * 7) : Nat) : Int)) (Int.natCast_mul _ _).symm ?_)
      refine J_iload_n dX0_neighbours_21 rfl ?_
      refine J_iadd dX0_neighbours_22 (J_top (v := ((((i * 7) + p) : Nat) : Int)) (by omega) ?_)
      refine J_iald dX0_neighbours_23 rfl (by decide) (KR.iA hR (by omega) (by omega)) (J_top (v := (((acr n F i p) : Nat) : Int)) (KR.gA hR (by omega) (by omega)) ?_)
      refine J_ior dX0_neighbours_24 (J_top (v := (((x ||| (acr n F i p)) : Nat) : Int)) (j_orN rfl rfl (by rw [h1]; exact orN31 (fun q _ => acr31 hn12 F i q)) (acr31 (KR.hn hR) F _ _)) ?_)
      refine J_istore_n (L' := [(14, 0), (0, ((i : Nat) : Int)), (0, (((x ||| (acr n F i p)) : Nat) : Int)), (0, ((p : Nat) : Int))]) dX0_neighbours_25 (by decide) rfl rfl ?_
      refine J_iinc (v := (((p + 1) : Nat) : Int)) (L' := [(14, 0), (0, ((i : Nat) : Int)), (0, (((x ||| (acr n F i p)) : Nat) : Int)), (0, (((p + 1) : Nat) : Int))]) dX0_neighbours_26 rfl (by omega) (by decide) rfl rfl ?_
      refine J_goto (tgt := 4) dX0_neighbours_29 rfl ?_
      exact ih _ _ (by rw [h1]; rfl) (by omega) (by omega)
set_option maxRecDepth 100000 in
set_option maxHeartbeats 4000000 in
theorem ev_X0_neighbours (P D n : Nat) (F O : Nat → Nat) (M : jM) (hR : KR P D n F O M) (i : Nat) (hi : i < n) : Ev 0 mX0_neighbours [(14, 0), (0, ((i : Nat) : Int))] M (fun z M' => z = ((mskN n (nrB F D i) : Nat) : Int) ∧ M' = M) := by
  refine Ev_of (by decide +kernel) (Nat.le_of_ble_eq_true rfl) (L := [(14, 0), (0, ((i : Nat) : Int)), (9, 0), (9, 0)]) rfl ?_
  have hn12 := KR.hn hR
  have hP7 := KR.hP hR
  have hD5 := KR.hD hR
  have h2P : 2 ^ P ≤ 128 := Nat.pow_le_pow_right (n := 2) (by decide) hP7
  have h2p := Nat.two_pow_pos P
  refine J_iconst dX0_neighbours_0 ?_
  refine J_istore_n (L' := [(14, 0), (0, ((i : Nat) : Int)), (0, 0), (9, 0)]) dX0_neighbours_1 (by decide) rfl rfl ?_
  refine J_iconst dX0_neighbours_2 ?_
  refine J_istore_n (L' := [(14, 0), (0, ((i : Nat) : Int)), (0, 0), (0, 0)]) dX0_neighbours_3 (by decide) rfl rfl ?_
  refine J_eq (L' := [(14, 0), (0, ((i : Nat) : Int)), (0, ((0 : Nat) : Int)), (0, ((0 : Nat) : Int))]) rfl rfl rfl ?_
  exact ev_X0_neighbours_L4 P D n F O M hR i hi  _ _ _ (by rfl) (by omega) (Nat.lt_succ_self _)
set_option maxRecDepth 100000 in
set_option maxHeartbeats 4000000 in
theorem ev_X0_steps_L32 (P D n : Nat) (F O : Nat → Nat) (M : jM) (hR : KR P D n F O M) (i j : Nat) (hi : i < n) (hj : j < n) (t : Nat) (ht : t < 12) (K0 : J none 1 mX0_steps 68 [(14, 0), (0, ((i : Nat) : Int)), (0, ((j : Nat) : Int)), (0, (((apT D n F i t) : Nat) : Int)), (0, ((t : Nat) : Int)), (0, (((apW D n F (apT D n F i t) n) : Nat) : Int)), (9, 0)] [] M (j_ret mX0_steps (fun z M' => z = fstN 12 (fun t => (apT D n F i t).testBit j) (-2) ∧ M' = M))) : ∀ (fu : Nat) (k : Nat) (g1 : k ≤ n) (hfu : n - k < fu), J none 1 mX0_steps 32 [(14, 0), (0, ((i : Nat) : Int)), (0, ((j : Nat) : Int)), (0, (((apT D n F i t) : Nat) : Int)), (0, ((t : Nat) : Int)), (0, (((apW D n F (apT D n F i t) k) : Nat) : Int)), (0, ((k : Nat) : Int))] [] M (j_ret mX0_steps (fun z M' => z = fstN 12 (fun t => (apT D n F i t).testBit j) (-2) ∧ M' = M)) := by
  intro fu
  induction fu with
  | zero => intro k g1 hfu; exact absurd hfu (Nat.not_lt_zero _)
  | succ fu ih =>
    intro k g1 hfu
    have hn12 := KR.hn hR
    have hP7 := KR.hP hR
    have hD5 := KR.hD hR
    have h2P : 2 ^ P ≤ 128 := Nat.pow_le_pow_right (n := 2) (by decide) hP7
    have h2p := Nat.two_pow_pos P
    refine J_iload dX0_steps_32 rfl ?_
    refine J_aload_n dX0_steps_34 rfl ?_
    refine J_getI dX0_steps_35 flX0_41 rfl rfl (J_top (v := ((n : Nat) : Int)) (KR.gn hR) ?_)
    refine J_icmp_ge (tgt := 68) dX0_steps_38 rfl (j_R (by omega)) (j_R (by omega)) (fun h38 => ?_) (fun h38 => ?_)
    ·
      refine J_eq (L' := [(14, 0), (0, ((i : Nat) : Int)), (0, ((j : Nat) : Int)), (0, (((apT D n F i t) : Nat) : Int)), (0, ((t : Nat) : Int)), (0, (((apW D n F (apT D n F i t) n) : Nat) : Int)), (0, ((k : Nat) : Int))]) (by rw [show k = n by omega]) rfl rfl ?_
      refine J_unset 6 (L' := [(14, 0), (0, ((i : Nat) : Int)), (0, ((j : Nat) : Int)), (0, (((apT D n F i t) : Nat) : Int)), (0, ((t : Nat) : Int)), (0, (((apW D n F (apT D n F i t) n) : Nat) : Int)), (9, 0)]) rfl ?_
      exact K0  
    ·
      refine J_iload_n dX0_steps_41 rfl ?_
      refine J_iload dX0_steps_42 rfl ?_
      refine J_ishr dX0_steps_44 (J_top (v := ((((apT D n F i t) >>> k) : Nat) : Int)) (j_shrN rfl rfl (apT31 hn12 (by omega) t) (by omega)) ?_)
      refine J_iconst dX0_steps_45 ?_
      refine J_iand dX0_steps_46 (J_top (v := ((Bool.toNat (Nat.testBit (apT D n F i t) k) : Nat) : Int)) ((j_andN rfl rfl (nb_shr (apT31 hn12 (by omega) t)) (by decide)).trans (congrArg Nat.cast (bit_one _ _))) ?_)
      refine J_iconst dX0_steps_47 ?_
      refine J_icmp_ne (tgt := 62) dX0_steps_48 rfl (j_R (nb_bool _)) (by decide) (fun h48 => ?_) (fun h48 => ?_)
      ·
        refine J_eq (L' := [(14, 0), (0, ((i : Nat) : Int)), (0, ((j : Nat) : Int)), (0, (((apT D n F i t) : Nat) : Int)), (0, ((t : Nat) : Int)), (0, (((apW D n F (apT D n F i t) (k + 1)) : Nat) : Int)), (0, ((k : Nat) : Int))]) (by simp only [apW]; rw [bf' h48, if_neg (by decide), Nat.or_zero]) rfl rfl ?_
        refine J_iinc (v := (((k + 1) : Nat) : Int)) (L' := [(14, 0), (0, ((i : Nat) : Int)), (0, ((j : Nat) : Int)), (0, (((apT D n F i t) : Nat) : Int)), (0, ((t : Nat) : Int)), (0, (((apW D n F (apT D n F i t) (k + 1)) : Nat) : Int)), (0, (((k + 1) : Nat) : Int))]) dX0_steps_62 rfl (by omega) (by decide) rfl rfl ?_
        refine J_goto (tgt := 32) dX0_steps_65 rfl ?_
        exact ih _ (by omega) (by omega)
      ·
        refine J_iload dX0_steps_51 rfl ?_
        refine J_aload_n dX0_steps_53 rfl ?_
        refine J_iload dX0_steps_54 rfl ?_
        refine J_callViQ (cl := mX0_neighbours) [(0, ((k : Nat) : Int))] [(0, (((apW D n F (apT D n F i t) k) : Nat) : Int))] dX0_steps_56 mlX0_75 cvX0_neighbours rfl rfl rfl rfl rfl (by decide) (Nat.le_of_ble_eq_true rfl) rfl (ev_X0_neighbours P D n F O M hR k (by omega)) ?_
        refine J_ior dX0_steps_59 (J_top (v := ((((apW D n F (apT D n F i t) k) ||| (mskN n (nrB F D k))) : Nat) : Int)) (j_orN rfl rfl (apW31 hn12 (apT31 hn12 (by omega) t) k) (mskN_31 (by omega))) ?_)
        refine J_istore (L' := [(14, 0), (0, ((i : Nat) : Int)), (0, ((j : Nat) : Int)), (0, (((apT D n F i t) : Nat) : Int)), (0, ((t : Nat) : Int)), (0, ((((apW D n F (apT D n F i t) k) ||| (mskN n (nrB F D k))) : Nat) : Int)), (0, ((k : Nat) : Int))]) dX0_steps_60 (by decide) rfl rfl ?_
        refine J_eq (L' := [(14, 0), (0, ((i : Nat) : Int)), (0, ((j : Nat) : Int)), (0, (((apT D n F i t) : Nat) : Int)), (0, ((t : Nat) : Int)), (0, (((apW D n F (apT D n F i t) (k + 1)) : Nat) : Int)), (0, ((k : Nat) : Int))]) (by simp only [apW]; rw [if_pos (bt' h48)]) rfl rfl ?_
        refine J_iinc (v := (((k + 1) : Nat) : Int)) (L' := [(14, 0), (0, ((i : Nat) : Int)), (0, ((j : Nat) : Int)), (0, (((apT D n F i t) : Nat) : Int)), (0, ((t : Nat) : Int)), (0, (((apW D n F (apT D n F i t) (k + 1)) : Nat) : Int)), (0, (((k + 1) : Nat) : Int))]) dX0_steps_62 rfl (by omega) (by decide) rfl rfl ?_
        refine J_goto (tgt := 32) dX0_steps_65 rfl ?_
        exact ih _ (by omega) (by omega)
set_option maxRecDepth 100000 in
set_option maxHeartbeats 4000000 in
theorem ev_X0_steps_L7 (P D n : Nat) (F O : Nat → Nat) (M : jM) (hR : KR P D n F O M) (i j : Nat) (hi : i < n) (hj : j < n)  : ∀ (fu : Nat) (t : Nat) (f1 : anyN t (fun t => (apT D n F i t).testBit j) = false) (f2 : t ≤ 12) (hfu : 12 - t < fu), J none 1 mX0_steps 7 [(14, 0), (0, ((i : Nat) : Int)), (0, ((j : Nat) : Int)), (0, (((apT D n F i t) : Nat) : Int)), (0, ((t : Nat) : Int)), (9, 0), (9, 0)] [] M (j_ret mX0_steps (fun z M' => z = fstN 12 (fun t => (apT D n F i t).testBit j) (-2) ∧ M' = M)) := by
  intro fu
  induction fu with
  | zero => intro t f1 f2 hfu; exact absurd hfu (Nat.not_lt_zero _)
  | succ fu ih =>
    intro t f1 f2 hfu
    have hn12 := KR.hn hR
    have hP7 := KR.hP hR
    have hD5 := KR.hD hR
    have h2P : 2 ^ P ≤ 128 := Nat.pow_le_pow_right (n := 2) (by decide) hP7
    have h2p := Nat.two_pow_pos P
    refine J_iload dX0_steps_7 rfl ?_
    refine J_bipush dX0_steps_9 (by decide) ?_
    refine J_icmp_ge (tgt := 77) dX0_steps_11 rfl (j_R (by omega)) (by decide) (fun h11 => ?_) (fun h11 => ?_)
    ·
      refine J_bipush dX0_steps_77 (by decide) ?_
      refine J_ireturn dX0_steps_79 rfl ?_
      exact ⟨by rw [fstN_none (by rw [show 12 = t by omega]; exact f1)], rfl⟩
    ·
      refine J_iload_n dX0_steps_14 rfl ?_
      refine J_iload_n dX0_steps_15 rfl ?_
      refine J_ishr dX0_steps_16 (J_top (v := ((((apT D n F i t) >>> j) : Nat) : Int)) (j_shrN rfl rfl (apT31 hn12 (by omega) t) (by omega)) ?_)
      refine J_iconst dX0_steps_17 ?_
      refine J_iand dX0_steps_18 (J_top (v := ((Bool.toNat (Nat.testBit (apT D n F i t) j) : Nat) : Int)) ((j_andN rfl rfl (nb_shr (apT31 hn12 (by omega) t)) (by decide)).trans (congrArg Nat.cast (bit_one _ _))) ?_)
      refine J_iconst dX0_steps_19 ?_
      refine J_icmp_ne (tgt := 26) dX0_steps_20 rfl (j_R (nb_bool _)) (by decide) (fun h20 => ?_) (fun h20 => ?_)
      ·
        refine J_iload_n dX0_steps_26 rfl ?_
        refine J_istore (L' := [(14, 0), (0, ((i : Nat) : Int)), (0, ((j : Nat) : Int)), (0, (((apT D n F i t) : Nat) : Int)), (0, ((t : Nat) : Int)), (0, (((apT D n F i t) : Nat) : Int)), (9, 0)]) dX0_steps_27 (by decide) rfl rfl ?_
        refine J_eq (L' := [(14, 0), (0, ((i : Nat) : Int)), (0, ((j : Nat) : Int)), (0, (((apT D n F i t) : Nat) : Int)), (0, ((t : Nat) : Int)), (0, (((apW D n F (apT D n F i t) 0) : Nat) : Int)), (9, 0)]) rfl rfl rfl ?_
        refine J_iconst dX0_steps_29 ?_
        refine J_istore (L' := [(14, 0), (0, ((i : Nat) : Int)), (0, ((j : Nat) : Int)), (0, (((apT D n F i t) : Nat) : Int)), (0, ((t : Nat) : Int)), (0, (((apW D n F (apT D n F i t) 0) : Nat) : Int)), (0, 0)]) dX0_steps_30 (by decide) rfl rfl ?_
        refine J_eq (L' := [(14, 0), (0, ((i : Nat) : Int)), (0, ((j : Nat) : Int)), (0, (((apT D n F i t) : Nat) : Int)), (0, ((t : Nat) : Int)), (0, (((apW D n F (apT D n F i t) 0) : Nat) : Int)), (0, ((0 : Nat) : Int))]) rfl rfl rfl ?_
        refine ev_X0_steps_L32 P D n F O M hR i j hi hj t (by omega) ?_ _ _ (by omega) (Nat.lt_succ_self _)
        ·
          refine J_iload dX0_steps_68 rfl ?_
          refine J_istore_n (L' := [(14, 0), (0, ((i : Nat) : Int)), (0, ((j : Nat) : Int)), (0, (((apW D n F (apT D n F i t) n) : Nat) : Int)), (0, ((t : Nat) : Int)), (0, (((apW D n F (apT D n F i t) n) : Nat) : Int)), (9, 0)]) dX0_steps_70 (by decide) rfl rfl ?_
          refine J_eq (L' := [(14, 0), (0, ((i : Nat) : Int)), (0, ((j : Nat) : Int)), (0, (((apT D n F i (t + 1)) : Nat) : Int)), (0, ((t : Nat) : Int)), (0, (((apW D n F (apT D n F i t) n) : Nat) : Int)), (9, 0)]) rfl rfl rfl ?_
          refine J_iinc (v := (((t + 1) : Nat) : Int)) (L' := [(14, 0), (0, ((i : Nat) : Int)), (0, ((j : Nat) : Int)), (0, (((apT D n F i (t + 1)) : Nat) : Int)), (0, (((t + 1) : Nat) : Int)), (0, (((apW D n F (apT D n F i t) n) : Nat) : Int)), (9, 0)]) dX0_steps_71 rfl (by omega) (by decide) rfl rfl ?_
          refine J_goto (tgt := 7) dX0_steps_74 rfl ?_
          refine J_unset 5 (L' := [(14, 0), (0, ((i : Nat) : Int)), (0, ((j : Nat) : Int)), (0, (((apT D n F i (t + 1)) : Nat) : Int)), (0, (((t + 1) : Nat) : Int)), (9, 0), (9, 0)]) rfl ?_
          exact ih _ (by rw [anyN_f (by exact bf' h20), f1]) (by omega) (by omega)
      ·
        refine J_iload dX0_steps_23 rfl ?_
        refine J_ireturn dX0_steps_25 rfl ?_
        exact ⟨by rw [fstN_hit f1 (bt' h20) (by omega)], rfl⟩
set_option maxRecDepth 100000 in
set_option maxHeartbeats 4000000 in
theorem ev_X0_steps (P D n : Nat) (F O : Nat → Nat) (M : jM) (hR : KR P D n F O M) (i j : Nat) (hi : i < n) (hj : j < n) : Ev 1 mX0_steps [(14, 0), (0, ((i : Nat) : Int)), (0, ((j : Nat) : Int))] M (fun z M' => z = fstN 12 (fun t => (apT D n F i t).testBit j) (-2) ∧ M' = M) := by
  refine Ev_of (by decide +kernel) (Nat.le_of_ble_eq_true rfl) (L := [(14, 0), (0, ((i : Nat) : Int)), (0, ((j : Nat) : Int)), (9, 0), (9, 0), (9, 0), (9, 0)]) rfl ?_
  have hn12 := KR.hn hR
  have hP7 := KR.hP hR
  have hD5 := KR.hD hR
  have h2P : 2 ^ P ≤ 128 := Nat.pow_le_pow_right (n := 2) (by decide) hP7
  have h2p := Nat.two_pow_pos P
  refine J_iconst dX0_steps_0 ?_
  refine J_iload_n dX0_steps_1 rfl ?_
  refine J_ishl dX0_steps_2 (J_top (v := (((2 ^ i) : Nat) : Int)) (j_shl1 rfl rfl (by omega)) ?_)
  refine J_istore_n (L' := [(14, 0), (0, ((i : Nat) : Int)), (0, ((j : Nat) : Int)), (0, (((2 ^ i) : Nat) : Int)), (9, 0), (9, 0), (9, 0)]) dX0_steps_3 (by decide) rfl rfl ?_
  refine J_eq (L' := [(14, 0), (0, ((i : Nat) : Int)), (0, ((j : Nat) : Int)), (0, (((apT D n F i 0) : Nat) : Int)), (9, 0), (9, 0), (9, 0)]) rfl rfl rfl ?_
  refine J_iconst dX0_steps_4 ?_
  refine J_istore (L' := [(14, 0), (0, ((i : Nat) : Int)), (0, ((j : Nat) : Int)), (0, (((apT D n F i 0) : Nat) : Int)), (0, 0), (9, 0), (9, 0)]) dX0_steps_5 (by decide) rfl rfl ?_
  refine J_eq (L' := [(14, 0), (0, ((i : Nat) : Int)), (0, ((j : Nat) : Int)), (0, (((apT D n F i 0) : Nat) : Int)), (0, ((0 : Nat) : Int)), (9, 0), (9, 0)]) rfl rfl rfl ?_
  exact ev_X0_steps_L7 P D n F O M hR i j hi hj  _ _ (by rfl) (by omega) (Nat.lt_succ_self _)
set_option maxRecDepth 100000 in
set_option maxHeartbeats 4000000 in
theorem ev_X0_restriction_L5 (P D n : Nat) (F O : Nat → Nat) (M : jM) (hR : KR P D n F O M) (i s : Nat) (hi : i < n) (hs : s < 2147483648)  : ∀ (fu : Nat) (x p : Nat) (h1 : x = mskN p (fun p => decide (¬ acr n F i p &&& s = 0))) (h2 : p ≤ P) (hfu : P - p < fu), J none 0 mX0_restriction 5 [(14, 0), (0, ((i : Nat) : Int)), (0, ((s : Nat) : Int)), (0, ((x : Nat) : Int)), (0, ((p : Nat) : Int))] [] M (j_ret mX0_restriction (fun z M' => z = ((mskN P (fun p => decide (¬ acr n F i p &&& s = 0)) : Nat) : Int) ∧ M' = M)) := by
  intro fu
  induction fu with
  | zero => intro x p h1 h2 hfu; exact absurd hfu (Nat.not_lt_zero _)
  | succ fu ih =>
    intro x p h1 h2 hfu
    have hn12 := KR.hn hR
    have hP7 := KR.hP hR
    have hD5 := KR.hD hR
    have h2P : 2 ^ P ≤ 128 := Nat.pow_le_pow_right (n := 2) (by decide) hP7
    have h2p := Nat.two_pow_pos P
    refine J_iload dX0_restriction_5 rfl ?_
    refine J_aload_n dX0_restriction_7 rfl ?_
    refine J_getI dX0_restriction_8 flX0_33 rfl rfl (J_top (v := ((P : Nat) : Int)) (KR.gP hR) ?_)
    refine J_icmp_ge (tgt := 44) dX0_restriction_11 rfl (j_R (by omega)) (j_R (by omega)) (fun h11 => ?_) (fun h11 => ?_)
    ·
      refine J_iload_n dX0_restriction_44 rfl ?_
      refine J_ireturn dX0_restriction_45 rfl ?_
      have : p = P := by omega
      subst this
      exact ⟨by rw [h1], rfl⟩
    ·
      refine J_aload_n dX0_restriction_14 rfl ?_
      refine J_getR dX0_restriction_15 flX0_21 rfl rfl ?_
      refine J_iload_n dX0_restriction_18 rfl ?_
      refine J_bipush dX0_restriction_19 (by decide) ?_
      refine J_imul dX0_restriction_21 (J_top (v := (((i * 7) : Nat) : Int)) (Int.natCast_mul _ _).symm ?_)
      refine J_iload dX0_restriction_22 rfl ?_
      refine J_iadd dX0_restriction_24 (J_top (v := ((((i * 7) + p) : Nat) : Int)) (by omega) ?_)
      refine J_iald dX0_restriction_25 rfl (by decide) (KR.iA hR (by omega) (by omega)) (J_top (v := (((acr n F i p) : Nat) : Int)) (KR.gA hR (by omega) (by omega)) ?_)
      refine J_iload_n dX0_restriction_26 rfl ?_
      refine J_iand dX0_restriction_27 (J_top (v := ((((acr n F i p) &&& s) : Nat) : Int)) (j_andN rfl rfl (acr31 (KR.hn hR) F _ _) hs) ?_)
      refine J_if_eq (tgt := 38) dX0_restriction_28 rfl (j_R (nb_and (acr31 (KR.hn hR) F _ _))) (fun h28 => ?_) (fun h28 => ?_)
      ·
        refine J_iinc (v := (((p + 1) : Nat) : Int)) (L' := [(14, 0), (0, ((i : Nat) : Int)), (0, ((s : Nat) : Int)), (0, ((x : Nat) : Int)), (0, (((p + 1) : Nat) : Int))]) dX0_restriction_38 rfl (by omega) (by decide) rfl rfl ?_
        refine J_goto (tgt := 5) dX0_restriction_41 rfl ?_
        exact ih _ _ (by rw [mskN_f (by exact decide_eq_false (by omega)), h1]) (by omega) (by omega)
      ·
        refine J_iload_n dX0_restriction_31 rfl ?_
        refine J_iconst dX0_restriction_32 ?_
        refine J_iload dX0_restriction_33 rfl ?_
        refine J_ishl dX0_restriction_35 (J_top (v := (((2 ^ p) : Nat) : Int)) (j_shl1 rfl rfl (by omega)) ?_)
        refine J_ior dX0_restriction_36 (J_top (v := (((x ||| (2 ^ p)) : Nat) : Int)) (j_orN rfl rfl (by rw [h1]; exact mskN_31 (by omega)) (nb_p2 (by omega))) ?_)
        refine J_istore_n (L' := [(14, 0), (0, ((i : Nat) : Int)), (0, ((s : Nat) : Int)), (0, (((x ||| (2 ^ p)) : Nat) : Int)), (0, ((p : Nat) : Int))]) dX0_restriction_37 (by decide) rfl rfl ?_
        refine J_iinc (v := (((p + 1) : Nat) : Int)) (L' := [(14, 0), (0, ((i : Nat) : Int)), (0, ((s : Nat) : Int)), (0, (((x ||| (2 ^ p)) : Nat) : Int)), (0, (((p + 1) : Nat) : Int))]) dX0_restriction_38 rfl (by omega) (by decide) rfl rfl ?_
        refine J_goto (tgt := 5) dX0_restriction_41 rfl ?_
        exact ih _ _ (by rw [mskN_t (by exact decide_eq_true (by omega)), h1]) (by omega) (by omega)
set_option maxRecDepth 100000 in
set_option maxHeartbeats 4000000 in
theorem ev_X0_restriction (P D n : Nat) (F O : Nat → Nat) (M : jM) (hR : KR P D n F O M) (i s : Nat) (hi : i < n) (hs : s < 2147483648) : Ev 0 mX0_restriction [(14, 0), (0, ((i : Nat) : Int)), (0, ((s : Nat) : Int))] M (fun z M' => z = ((mskN P (fun p => decide (¬ acr n F i p &&& s = 0)) : Nat) : Int) ∧ M' = M) := by
  refine Ev_of (by decide +kernel) (Nat.le_of_ble_eq_true rfl) (L := [(14, 0), (0, ((i : Nat) : Int)), (0, ((s : Nat) : Int)), (9, 0), (9, 0)]) rfl ?_
  have hn12 := KR.hn hR
  have hP7 := KR.hP hR
  have hD5 := KR.hD hR
  have h2P : 2 ^ P ≤ 128 := Nat.pow_le_pow_right (n := 2) (by decide) hP7
  have h2p := Nat.two_pow_pos P
  refine J_iconst dX0_restriction_0 ?_
  refine J_istore_n (L' := [(14, 0), (0, ((i : Nat) : Int)), (0, ((s : Nat) : Int)), (0, 0), (9, 0)]) dX0_restriction_1 (by decide) rfl rfl ?_
  refine J_iconst dX0_restriction_2 ?_
  refine J_istore (L' := [(14, 0), (0, ((i : Nat) : Int)), (0, ((s : Nat) : Int)), (0, 0), (0, 0)]) dX0_restriction_3 (by decide) rfl rfl ?_
  refine J_eq (L' := [(14, 0), (0, ((i : Nat) : Int)), (0, ((s : Nat) : Int)), (0, ((0 : Nat) : Int)), (0, ((0 : Nat) : Int))]) rfl rfl rfl ?_
  exact ev_X0_restriction_L5 P D n F O M hR i s hi hs  _ _ _ (by rfl) (by omega) (Nat.lt_succ_self _)
set_option maxRecDepth 100000 in
set_option maxHeartbeats 4000000 in
theorem ev_X0_fits_L5 (P D n : Nat) (F O : Nat → Nat) (M : jM) (hR : KR P D n F O M) (i s : Nat) (hi : i < n) (hs : s < 2 ^ n)  : ∀ (fu : Nat) (u p : Nat) (h1 : u = ftU n F i s p) (h2 : p ≤ P) (hfu : P - p < fu), J none 0 mX0_fits 5 [(14, 0), (0, ((i : Nat) : Int)), (0, ((s : Nat) : Int)), (0, ((u : Nat) : Int)), (0, ((p : Nat) : Int))] [] M (j_ret mX0_fits (fun z M' => z = ((Bool.toNat (jnS F i s) : Nat) : Int) ∧ M' = M)) := by
  intro fu
  induction fu with
  | zero => intro u p h1 h2 hfu; exact absurd hfu (Nat.not_lt_zero _)
  | succ fu ih =>
    intro u p h1 h2 hfu
    have hn12 := KR.hn hR
    have hP7 := KR.hP hR
    have hD5 := KR.hD hR
    have h2P : 2 ^ P ≤ 128 := Nat.pow_le_pow_right (n := 2) (by decide) hP7
    have h2p := Nat.two_pow_pos P
    refine J_iload dX0_fits_5 rfl ?_
    refine J_aload_n dX0_fits_7 rfl ?_
    refine J_getI dX0_fits_8 flX0_33 rfl rfl (J_top (v := ((P : Nat) : Int)) (KR.gP hR) ?_)
    refine J_icmp_ge (tgt := 51) dX0_fits_11 rfl (j_R (by omega)) (j_R (by omega)) (fun h11 => ?_) (fun h11 => ?_)
    ·
      refine J_iload_n dX0_fits_51 rfl ?_
      refine J_if_ne (tgt := 59) dX0_fits_52 rfl (j_R (by rw [h1]; exact ftU31 (p12 hn12 hs) p)) (fun h52 => ?_) (fun h52 => ?_)
      ·
        refine J_iconst dX0_fits_59 ?_
        refine J_zreturn dX0_fits_60 rfl (Or.inl rfl) ?_
        have e : ¬ ftU n F i s P = 0 := by rw [show P = p by omega, ← h1]; omega
        exact ⟨bf (by rw [← fits_eq hR.wf hi hs]; exact decide_eq_false e), rfl⟩
      ·
        refine J_iconst dX0_fits_55 ?_
        refine J_goto (tgt := 60) dX0_fits_56 rfl ?_
        refine J_zreturn dX0_fits_60 rfl (Or.inr rfl) ?_
        have e : ftU n F i s P = 0 := by rw [show P = p by omega, ← h1]; omega
        exact ⟨bt (by rw [← fits_eq hR.wf hi hs]; exact decide_eq_true e), rfl⟩
    ·
      refine J_iload_n dX0_fits_14 rfl ?_
      refine J_if_eq (tgt := 51) dX0_fits_15 rfl (j_R (by rw [h1]; exact ftU31 (p12 hn12 hs) p)) (fun h15 => ?_) (fun h15 => ?_)
      ·
        refine J_iload_n dX0_fits_51 rfl ?_
        refine J_if_ne (tgt := 59) dX0_fits_52 rfl (j_R (by rw [h1]; exact ftU31 (p12 hn12 hs) p)) (fun h52 => ?_) (fun h52 => ?_)
        ·
          refine J_iconst dX0_fits_59 ?_
          refine J_zreturn dX0_fits_60 rfl (Or.inl rfl) ?_
          omega
        ·
          refine J_iconst dX0_fits_55 ?_
          refine J_goto (tgt := 60) dX0_fits_56 rfl ?_
          refine J_zreturn dX0_fits_60 rfl (Or.inr rfl) ?_
          have e : ftU n F i s P = 0 := ftU_z (p := p) (by rw [← h1]; omega) h2
          exact ⟨bt (by rw [← fits_eq hR.wf hi hs]; exact decide_eq_true e), rfl⟩
      ·
        refine J_aload_n dX0_fits_18 rfl ?_
        refine J_getR dX0_fits_19 flX0_21 rfl rfl ?_
        refine J_iload_n dX0_fits_22 rfl ?_
        refine J_bipush dX0_fits_23 (by decide) ?_
        refine J_imul dX0_fits_25 (J_top (v := (((i * 7) : Nat) : Int)) (Int.natCast_mul _ _).symm ?_)
        refine J_iload dX0_fits_26 rfl ?_
        refine J_iadd dX0_fits_28 (J_top (v := ((((i * 7) + p) : Nat) : Int)) (by omega) ?_)
        refine J_iald dX0_fits_29 rfl (by decide) (KR.iA hR (by omega) (by omega)) (J_top (v := (((acr n F i p) : Nat) : Int)) (KR.gA hR (by omega) (by omega)) ?_)
        refine J_iload_n dX0_fits_30 rfl ?_
        refine J_iand dX0_fits_31 (J_top (v := ((((acr n F i p) &&& s) : Nat) : Int)) (j_andN rfl rfl (acr31 (KR.hn hR) F _ _) (p12 hn12 hs)) ?_)
        refine J_if_eq (tgt := 45) dX0_fits_32 rfl (j_R (nb_and (acr31 (KR.hn hR) F _ _))) (fun h32 => ?_) (fun h32 => ?_)
        ·
          refine J_iinc (v := (((p + 1) : Nat) : Int)) (L' := [(14, 0), (0, ((i : Nat) : Int)), (0, ((s : Nat) : Int)), (0, ((u : Nat) : Int)), (0, (((p + 1) : Nat) : Int))]) dX0_fits_45 rfl (by omega) (by decide) rfl rfl ?_
          refine J_goto (tgt := 5) dX0_fits_48 rfl ?_
          exact ih _ _ (by rw [h1]; simp only [ftU]; rw [if_pos (by omega)]) (by omega) (by omega)
        ·
          refine J_iload_n dX0_fits_35 rfl ?_
          refine J_aload_n dX0_fits_36 rfl ?_
          refine J_getR dX0_fits_37 flX0_15 rfl rfl ?_
          refine J_iload dX0_fits_40 rfl ?_
          refine J_iald dX0_fits_42 rfl (by decide) (by omega) (J_top (v := (((hvg n F p) : Nat) : Int)) (KR.gH hR (by omega)) ?_)
          refine J_iand dX0_fits_43 (J_top (v := (((u &&& (hvg n F p)) : Nat) : Int)) (j_andN rfl rfl (by rw [h1]; exact ftU31 (p12 hn12 hs) p) (hvg31 (KR.hn hR) F _)) ?_)
          refine J_istore_n (L' := [(14, 0), (0, ((i : Nat) : Int)), (0, ((s : Nat) : Int)), (0, (((u &&& (hvg n F p)) : Nat) : Int)), (0, ((p : Nat) : Int))]) dX0_fits_44 (by decide) rfl rfl ?_
          refine J_iinc (v := (((p + 1) : Nat) : Int)) (L' := [(14, 0), (0, ((i : Nat) : Int)), (0, ((s : Nat) : Int)), (0, (((u &&& (hvg n F p)) : Nat) : Int)), (0, (((p + 1) : Nat) : Int))]) dX0_fits_45 rfl (by omega) (by decide) rfl rfl ?_
          refine J_goto (tgt := 5) dX0_fits_48 rfl ?_
          exact ih _ _ (by rw [h1]; simp only [ftU]; rw [if_neg (by omega)]) (by omega) (by omega)
set_option maxRecDepth 100000 in
set_option maxHeartbeats 4000000 in
theorem ev_X0_fits (P D n : Nat) (F O : Nat → Nat) (M : jM) (hR : KR P D n F O M) (i s : Nat) (hi : i < n) (hs : s < 2 ^ n) : Ev 0 mX0_fits [(14, 0), (0, ((i : Nat) : Int)), (0, ((s : Nat) : Int))] M (fun z M' => z = ((Bool.toNat (jnS F i s) : Nat) : Int) ∧ M' = M) := by
  refine Ev_of (by decide +kernel) (Nat.le_of_ble_eq_true rfl) (L := [(14, 0), (0, ((i : Nat) : Int)), (0, ((s : Nat) : Int)), (9, 0), (9, 0)]) rfl ?_
  have hn12 := KR.hn hR
  have hP7 := KR.hP hR
  have hD5 := KR.hD hR
  have h2P : 2 ^ P ≤ 128 := Nat.pow_le_pow_right (n := 2) (by decide) hP7
  have h2p := Nat.two_pow_pos P
  refine J_iload_n dX0_fits_0 rfl ?_
  refine J_istore_n (L' := [(14, 0), (0, ((i : Nat) : Int)), (0, ((s : Nat) : Int)), (0, ((s : Nat) : Int)), (9, 0)]) dX0_fits_1 (by decide) rfl rfl ?_
  refine J_iconst dX0_fits_2 ?_
  refine J_istore (L' := [(14, 0), (0, ((i : Nat) : Int)), (0, ((s : Nat) : Int)), (0, ((s : Nat) : Int)), (0, 0)]) dX0_fits_3 (by decide) rfl rfl ?_
  refine J_eq (L' := [(14, 0), (0, ((i : Nat) : Int)), (0, ((s : Nat) : Int)), (0, ((s : Nat) : Int)), (0, ((0 : Nat) : Int))]) rfl rfl rfl ?_
  exact ev_X0_fits_L5 P D n F O M hR i s hi hs  _ _ _ (by rfl) (by omega) (Nat.lt_succ_self _)
set_option maxRecDepth 100000 in
set_option maxHeartbeats 4000000 in
theorem ev_X0_loose_L4 (P D n : Nat) (F O : Nat → Nat) (M : jM) (hR : KR P D n F O M) (s : Nat) (hs : s < 2 ^ n)  : ∀ (fu : Nat) (b k : Nat) (h1 : b = mskN k (fun k => s.testBit k && jnS F k (ndf s (2 ^ k)))) (h2 : k ≤ n) (hfu : n - k < fu), J none 1 mX0_loose 4 [(14, 0), (0, ((s : Nat) : Int)), (0, ((b : Nat) : Int)), (0, ((k : Nat) : Int)), (9, 0)] [] M (j_ret mX0_loose (fun z M' => z = ((cgN n F s : Nat) : Int) ∧ M' = M)) := by
  intro fu
  induction fu with
  | zero => intro b k h1 h2 hfu; exact absurd hfu (Nat.not_lt_zero _)
  | succ fu ih =>
    intro b k h1 h2 hfu
    have hn12 := KR.hn hR
    have hP7 := KR.hP hR
    have hD5 := KR.hD hR
    have h2P : 2 ^ P ≤ 128 := Nat.pow_le_pow_right (n := 2) (by decide) hP7
    have h2p := Nat.two_pow_pos P
    refine J_iload_n dX0_loose_4 rfl ?_
    refine J_aload_n dX0_loose_5 rfl ?_
    refine J_getI dX0_loose_6 flX0_41 rfl rfl (J_top (v := ((n : Nat) : Int)) (KR.gn hR) ?_)
    refine J_icmp_ge (tgt := 49) dX0_loose_9 rfl (j_R (by omega)) (j_R (by omega)) (fun h9 => ?_) (fun h9 => ?_)
    ·
      refine J_iload_n dX0_loose_49 rfl ?_
      refine J_ireturn dX0_loose_50 rfl ?_
      have : k = n := by omega
      subst this
      exact ⟨by rw [h1]; rfl, rfl⟩
    ·
      refine J_iconst dX0_loose_12 ?_
      refine J_iload_n dX0_loose_13 rfl ?_
      refine J_ishl dX0_loose_14 (J_top (v := (((2 ^ k) : Nat) : Int)) (j_shl1 rfl rfl (by omega)) ?_)
      refine J_istore (L' := [(14, 0), (0, ((s : Nat) : Int)), (0, ((b : Nat) : Int)), (0, ((k : Nat) : Int)), (0, (((2 ^ k) : Nat) : Int))]) dX0_loose_15 (by decide) rfl rfl ?_
      refine J_iload_n dX0_loose_17 rfl ?_
      refine J_iload dX0_loose_18 rfl ?_
      refine J_iand dX0_loose_20 (J_top (v := (((s &&& (2 ^ k)) : Nat) : Int)) (j_andN rfl rfl (p12 hn12 hs) (nb_p2 (by omega))) ?_)
      refine J_if_eq (tgt := 43) dX0_loose_21 rfl (j_R (nb_and (p12 hn12 hs))) (fun h21 => ?_) (fun h21 => ?_)
      ·
        refine J_iinc (v := (((k + 1) : Nat) : Int)) (L' := [(14, 0), (0, ((s : Nat) : Int)), (0, ((b : Nat) : Int)), (0, (((k + 1) : Nat) : Int)), (0, (((2 ^ k) : Nat) : Int))]) dX0_loose_43 rfl (by omega) (by decide) rfl rfl ?_
        refine J_goto (tgt := 4) dX0_loose_46 rfl ?_
        refine J_unset 4 (L' := [(14, 0), (0, ((s : Nat) : Int)), (0, ((b : Nat) : Int)), (0, (((k + 1) : Nat) : Int)), (9, 0)]) rfl ?_
        exact ih _ _ (by have a1 := and_p2z h21; rw [mskN_f (by simp [a1]), h1]) (by omega) (by omega)
      ·
        refine J_aload_n dX0_loose_24 rfl ?_
        refine J_iload_n dX0_loose_25 rfl ?_
        refine J_iload_n dX0_loose_26 rfl ?_
        refine J_iload dX0_loose_27 rfl ?_
        refine J_iconst dX0_loose_29 ?_
        refine J_ixor dX0_loose_30 (J_top (v := (-(((2 ^ k) : Nat) : Int) - 1)) (j_notN rfl (nb_p2 (by omega))) ?_)
        refine J_iand dX0_loose_31 (J_top (v := (((ndf s (2 ^ k)) : Nat) : Int)) (j_ndfN rfl rfl (p12 hn12 hs)) ?_)
        refine J_callViQ (cl := mX0_fits) [(0, ((k : Nat) : Int)), (0, (((ndf s (2 ^ k)) : Nat) : Int))] [] dX0_loose_32 mlX0_78 cvX0_fits rfl rfl rfl rfl rfl (by decide) (Nat.le_of_ble_eq_true rfl) rfl (ev_X0_fits P D n F O M hR k (ndf s (2 ^ k)) (by omega) (nb_ndf hs)) ?_
        refine J_ifb_eq (tgt := 43) dX0_loose_35 rfl (fun h35 => ?_) (fun h35 => ?_)
        ·
          refine J_iinc (v := (((k + 1) : Nat) : Int)) (L' := [(14, 0), (0, ((s : Nat) : Int)), (0, ((b : Nat) : Int)), (0, (((k + 1) : Nat) : Int)), (0, (((2 ^ k) : Nat) : Int))]) dX0_loose_43 rfl (by omega) (by decide) rfl rfl ?_
          refine J_goto (tgt := 4) dX0_loose_46 rfl ?_
          refine J_unset 4 (L' := [(14, 0), (0, ((s : Nat) : Int)), (0, ((b : Nat) : Int)), (0, (((k + 1) : Nat) : Int)), (9, 0)]) rfl ?_
          exact ih _ _ (by rw [mskN_f (by simp [h35]), h1]) (by omega) (by omega)
        ·
          refine J_iload_n dX0_loose_38 rfl ?_
          refine J_iload dX0_loose_39 rfl ?_
          refine J_ior dX0_loose_41 (J_top (v := (((b ||| (2 ^ k)) : Nat) : Int)) (j_orN rfl rfl (by rw [h1]; exact mskN_31 (by omega)) (nb_p2 (by omega))) ?_)
          refine J_istore_n (L' := [(14, 0), (0, ((s : Nat) : Int)), (0, (((b ||| (2 ^ k)) : Nat) : Int)), (0, ((k : Nat) : Int)), (0, (((2 ^ k) : Nat) : Int))]) dX0_loose_42 (by decide) rfl rfl ?_
          refine J_iinc (v := (((k + 1) : Nat) : Int)) (L' := [(14, 0), (0, ((s : Nat) : Int)), (0, (((b ||| (2 ^ k)) : Nat) : Int)), (0, (((k + 1) : Nat) : Int)), (0, (((2 ^ k) : Nat) : Int))]) dX0_loose_43 rfl (by omega) (by decide) rfl rfl ?_
          refine J_goto (tgt := 4) dX0_loose_46 rfl ?_
          refine J_unset 4 (L' := [(14, 0), (0, ((s : Nat) : Int)), (0, (((b ||| (2 ^ k)) : Nat) : Int)), (0, (((k + 1) : Nat) : Int)), (9, 0)]) rfl ?_
          exact ih _ _ (by have a1 := and_p2n h21; rw [mskN_t (by simp [a1, h35]), h1]) (by omega) (by omega)
set_option maxRecDepth 100000 in
set_option maxHeartbeats 4000000 in
theorem ev_X0_loose (P D n : Nat) (F O : Nat → Nat) (M : jM) (hR : KR P D n F O M) (s : Nat) (hs : s < 2 ^ n) : Ev 1 mX0_loose [(14, 0), (0, ((s : Nat) : Int))] M (fun z M' => z = ((cgN n F s : Nat) : Int) ∧ M' = M) := by
  refine Ev_of (by decide +kernel) (Nat.le_of_ble_eq_true rfl) (L := [(14, 0), (0, ((s : Nat) : Int)), (9, 0), (9, 0), (9, 0)]) rfl ?_
  have hn12 := KR.hn hR
  have hP7 := KR.hP hR
  have hD5 := KR.hD hR
  have h2P : 2 ^ P ≤ 128 := Nat.pow_le_pow_right (n := 2) (by decide) hP7
  have h2p := Nat.two_pow_pos P
  refine J_iconst dX0_loose_0 ?_
  refine J_istore_n (L' := [(14, 0), (0, ((s : Nat) : Int)), (0, 0), (9, 0), (9, 0)]) dX0_loose_1 (by decide) rfl rfl ?_
  refine J_iconst dX0_loose_2 ?_
  refine J_istore_n (L' := [(14, 0), (0, ((s : Nat) : Int)), (0, 0), (0, 0), (9, 0)]) dX0_loose_3 (by decide) rfl rfl ?_
  refine J_eq (L' := [(14, 0), (0, ((s : Nat) : Int)), (0, ((0 : Nat) : Int)), (0, ((0 : Nat) : Int)), (9, 0)]) rfl rfl rfl ?_
  exact ev_X0_loose_L4 P D n F O M hR s hs  _ _ _ (by rfl) (by omega) (Nat.lt_succ_self _)
set_option maxRecDepth 100000 in
set_option maxHeartbeats 4000000 in
theorem ev_X0_nthBit_L4 (x k : Nat) (hx : x < 2147483648) (hk : k < popc x) (M : jM)  : ∀ (fu : Nat) (y j : Nat) (h1 : dlB y (k - j) = dlB x k) (h2 : j ≤ k) (h3 : y < 2147483648) (h4 : k - j < popc y) (hfu : k - j < fu), J none 0 mX0_nthBit 4 [(0, ((x : Nat) : Int)), (0, ((k : Nat) : Int)), (0, ((y : Nat) : Int)), (0, ((j : Nat) : Int))] [] M (j_ret mX0_nthBit (fun z M' => z = ((lwb (dlB x k) : Nat) : Int) ∧ M' = M)) := by
  intro fu
  induction fu with
  | zero => intro y j h1 h2 h3 h4 hfu; exact absurd hfu (Nat.not_lt_zero _)
  | succ fu ih =>
    intro y j h1 h2 h3 h4 hfu
    refine J_iload_n dX0_nthBit_4 rfl ?_
    refine J_iload_n dX0_nthBit_5 rfl ?_
    refine J_icmp_ge (tgt := 21) dX0_nthBit_6 rfl (j_R (by have := popc_lt hx; omega)) (j_R (by have := popc_lt hx; omega)) (fun h6 => ?_) (fun h6 => ?_)
    ·
      refine J_iload_n dX0_nthBit_21 rfl ?_
      refine J_iload_n dX0_nthBit_22 rfl ?_
      refine J_ineg dX0_nthBit_23 ?_
      refine J_iand dX0_nthBit_24 (J_top (v := (((lwb y) : Nat) : Int)) (j_lwbI rfl rfl h3) ?_)
      refine J_ireturn dX0_nthBit_25 rfl ?_
      have : k - j = 0 := by omega
      rw [this] at h1
      exact ⟨by rw [← h1]; rfl, rfl⟩
    ·
      refine J_iload_n dX0_nthBit_9 rfl ?_
      refine J_iload_n dX0_nthBit_10 rfl ?_
      refine J_iconst dX0_nthBit_11 ?_
      refine J_isub dX0_nthBit_12 (J_top (v := (((y - 1) : Nat) : Int)) (by have h0 : y ≠ 0 := (by intro e; rw [e, popc_zero] at h4; omega); omega) ?_)
      refine J_iand dX0_nthBit_13 (J_top (v := (((y &&& (y - 1)) : Nat) : Int)) (j_andN rfl rfl h3 (by omega)) ?_)
      refine J_istore_n (L' := [(0, ((x : Nat) : Int)), (0, ((k : Nat) : Int)), (0, (((y &&& (y - 1)) : Nat) : Int)), (0, ((j : Nat) : Int))]) dX0_nthBit_14 (by decide) rfl rfl ?_
      refine J_iinc (v := (((j + 1) : Nat) : Int)) (L' := [(0, ((x : Nat) : Int)), (0, ((k : Nat) : Int)), (0, (((y &&& (y - 1)) : Nat) : Int)), (0, (((j + 1) : Nat) : Int))]) dX0_nthBit_15 rfl (by omega) (by decide) rfl rfl ?_
      refine J_goto (tgt := 4) dX0_nthBit_18 rfl ?_
      exact ih _ _ (by rw [← h1, show k - j = (k - (j + 1)) + 1 by omega]; rfl) (by omega) (by exact nb_and h3) (by have := popc_pred (n := y) (by intro e; rw [e, popc_zero] at h4; omega); omega) (by omega)
set_option maxRecDepth 100000 in
set_option maxHeartbeats 4000000 in
theorem ev_X0_nthBit (x k : Nat) (hx : x < 2147483648) (hk : k < popc x) (M : jM) : Ev 0 mX0_nthBit [(0, ((x : Nat) : Int)), (0, ((k : Nat) : Int))] M (fun z M' => z = ((lwb (dlB x k) : Nat) : Int) ∧ M' = M) := by
  refine Ev_of (by decide +kernel) (Nat.le_of_ble_eq_true rfl) (L := [(0, ((x : Nat) : Int)), (0, ((k : Nat) : Int)), (9, 0), (9, 0)]) rfl ?_
  refine J_iload_n dX0_nthBit_0 rfl ?_
  refine J_istore_n (L' := [(0, ((x : Nat) : Int)), (0, ((k : Nat) : Int)), (0, ((x : Nat) : Int)), (9, 0)]) dX0_nthBit_1 (by decide) rfl rfl ?_
  refine J_iconst dX0_nthBit_2 ?_
  refine J_istore_n (L' := [(0, ((x : Nat) : Int)), (0, ((k : Nat) : Int)), (0, ((x : Nat) : Int)), (0, 0)]) dX0_nthBit_3 (by decide) rfl rfl ?_
  refine J_eq (L' := [(0, ((x : Nat) : Int)), (0, ((k : Nat) : Int)), (0, ((x : Nat) : Int)), (0, ((0 : Nat) : Int))]) rfl rfl rfl ?_
  exact ev_X0_nthBit_L4 x k hx hk M  _ _ _ (by rfl) (by omega) (by exact hx) (by simpa using hk) (Nat.lt_succ_self _)
set_option maxRecDepth 100000 in
set_option maxHeartbeats 4000000 in
theorem ev_X0_peelByDraws_L10 (P D n : Nat) (F O : Nat → Nat) (M : jM) (hR : KR P D n F O M) (w : Nat) (hw : w < 65537)  : ∀ (fu : Nat) (lf nw0 t : Nat) (f1 : pdN n F 12 (2 ^ n - 1) w = pdN n F (12 - t) lf nw0) (f2 : lf < 2 ^ n) (f3 : popc lf ≤ 12 - t) (f4 : nw0 < 65537) (f5 : t ≤ 12) (hfu : 12 - t < fu), J none 2 mX0_peelByDraws 10 [(14, 0), (0, ((w : Nat) : Int)), (0, ((lf : Nat) : Int)), (0, ((nw0 : Nat) : Int)), (0, ((t : Nat) : Int)), (9, 0), (9, 0)] [] M (j_ret mX0_peelByDraws (fun z M' => z = ((pdN n F 12 (2 ^ n - 1) w : Nat) : Int) ∧ M' = M)) := by
  intro fu
  induction fu with
  | zero => intro lf nw0 t f1 f2 f3 f4 f5 hfu; exact absurd hfu (Nat.not_lt_zero _)
  | succ fu ih =>
    intro lf nw0 t f1 f2 f3 f4 f5 hfu
    have hn12 := KR.hn hR
    have hP7 := KR.hP hR
    have hD5 := KR.hD hR
    have h2P : 2 ^ P ≤ 128 := Nat.pow_le_pow_right (n := 2) (by decide) hP7
    have h2p := Nat.two_pow_pos P
    refine J_iload dX0_peelByDraws_10 rfl ?_
    refine J_bipush dX0_peelByDraws_12 (by decide) ?_
    refine J_icmp_ge (tgt := 80) dX0_peelByDraws_14 rfl (j_R (by omega)) (by decide) (fun h14 => ?_) (fun h14 => ?_)
    ·
      refine J_iload_n dX0_peelByDraws_80 rfl ?_
      refine J_callSiQ (cl := mJ6_bitCount_0f7a4) [(0, ((lf : Nat) : Int))] [] dX0_peelByDraws_81 mlX0_43 csJ6_bitCount_0f7a4 rfl rfl (by decide) (Nat.le_of_ble_eq_true rfl) rfl (ev_bitCount lf (by have := p4096 hn12; omega) M) ?_
      refine J_ireturn dX0_peelByDraws_84 rfl ?_
      exact ⟨by rw [f1, show 12 - t = 0 by omega]; rfl, rfl⟩
    ·
      refine J_iload_n dX0_peelByDraws_17 rfl ?_
      refine J_callSiQ (cl := mJ6_bitCount_0f7a4) [(0, ((lf : Nat) : Int))] [] dX0_peelByDraws_18 mlX0_43 csJ6_bitCount_0f7a4 rfl rfl (by decide) (Nat.le_of_ble_eq_true rfl) rfl (ev_bitCount lf (by have := p4096 hn12; omega) M) ?_
      refine J_iconst dX0_peelByDraws_21 ?_
      refine J_icmp_le (tgt := 80) dX0_peelByDraws_22 rfl (j_R (popc_lt (p12 hn12 f2))) (by decide) (fun h22 => ?_) (fun h22 => ?_)
      ·
        refine J_iload_n dX0_peelByDraws_80 rfl ?_
        refine J_callSiQ (cl := mJ6_bitCount_0f7a4) [(0, ((lf : Nat) : Int))] [] dX0_peelByDraws_81 mlX0_43 csJ6_bitCount_0f7a4 rfl rfl (by decide) (Nat.le_of_ble_eq_true rfl) rfl (ev_bitCount lf (by have := p4096 hn12; omega) M) ?_
        refine J_ireturn dX0_peelByDraws_84 rfl ?_
        exact ⟨by rw [f1, pd_stop (by omega)], rfl⟩
      ·
        refine J_aload_n dX0_peelByDraws_25 rfl ?_
        refine J_iload_n dX0_peelByDraws_26 rfl ?_
        refine J_callViQ (cl := mX0_loose) [(0, ((lf : Nat) : Int))] [] dX0_peelByDraws_27 mlX0_82 cvX0_loose rfl rfl rfl rfl rfl (by decide) (Nat.le_of_ble_eq_true rfl) rfl (ev_X0_loose P D n F O M hR lf f2) ?_
        refine J_istore (L' := [(14, 0), (0, ((w : Nat) : Int)), (0, ((lf : Nat) : Int)), (0, ((nw0 : Nat) : Int)), (0, ((t : Nat) : Int)), (0, (((cgN n F lf) : Nat) : Int)), (9, 0)]) dX0_peelByDraws_30 (by decide) rfl rfl ?_
        refine J_iload dX0_peelByDraws_32 rfl ?_
        refine J_callSiQ (cl := mJ6_bitCount_0f7a4) [(0, (((cgN n F lf) : Nat) : Int))] [] dX0_peelByDraws_34 mlX0_43 csJ6_bitCount_0f7a4 rfl rfl (by decide) (Nat.le_of_ble_eq_true rfl) rfl (ev_bitCount (cgN n F lf) (by have := p4096 hn12; have : cgN n F lf < 2 ^ n := mskN_lt _ _; omega) M) ?_
        refine J_istore (L' := [(14, 0), (0, ((w : Nat) : Int)), (0, ((lf : Nat) : Int)), (0, ((nw0 : Nat) : Int)), (0, ((t : Nat) : Int)), (0, (((cgN n F lf) : Nat) : Int)), (0, (((popc (cgN n F lf)) : Nat) : Int))]) dX0_peelByDraws_37 (by decide) rfl rfl ?_
        refine J_iload dX0_peelByDraws_39 rfl ?_
        refine J_if_ne (tgt := 49) dX0_peelByDraws_41 rfl (j_R (popc_lt (mskN_31 (by omega)))) (fun h41 => ?_) (fun h41 => ?_)
        ·
          have hne : ¬ cgN n F lf = 0 := by intro e; rw [e, popc_zero] at h41; exact h41 rfl
          refine J_bipush dX0_peelByDraws_49 (by decide) ?_
          refine J_iload_n dX0_peelByDraws_51 rfl ?_
          refine J_imul dX0_peelByDraws_52 (J_top (v := (((75 * nw0) : Nat) : Int)) (Int.natCast_mul _ _).symm ?_)
          refine J_bipush dX0_peelByDraws_53 (by decide) ?_
          refine J_iadd dX0_peelByDraws_55 (J_top (v := ((((75 * nw0) + 74) : Nat) : Int)) (by omega) ?_)
          refine J_ldc (n := 65537) dX0_peelByDraws_56 kcX0_85 ?_
          refine J_irem dX0_peelByDraws_58 (by decide) (by decide) (J_top (v := (((drw nw0) : Nat) : Int)) ((j_remN (x := 75 * nw0 + 74) (y := 65537) rfl rfl (by omega) (by decide)).trans rfl) ?_)
          refine J_istore_n (L' := [(14, 0), (0, ((w : Nat) : Int)), (0, ((lf : Nat) : Int)), (0, (((drw nw0) : Nat) : Int)), (0, ((t : Nat) : Int)), (0, (((cgN n F lf) : Nat) : Int)), (0, (((popc (cgN n F lf)) : Nat) : Int))]) dX0_peelByDraws_59 (by decide) rfl rfl ?_
          refine J_iload_n dX0_peelByDraws_60 rfl ?_
          refine J_iload dX0_peelByDraws_61 rfl ?_
          refine J_iload_n dX0_peelByDraws_63 rfl ?_
          refine J_iload dX0_peelByDraws_64 rfl ?_
          refine J_irem dX0_peelByDraws_66 (j_R (popc_lt (mskN_31 (by omega)))) (by have := popc_pos hne; omega) (J_top (v := ((((drw nw0) % (popc (cgN n F lf))) : Nat) : Int)) (j_remN rfl rfl (by have := Nat.mod_lt (75 * nw0 + 74) (show 0 < 65537 by decide); unfold drw; omega) (popc_lt (mskN_31 (by omega)))) ?_)
          refine J_callSiQ (cl := mX0_nthBit) [(0, (((cgN n F lf) : Nat) : Int)), (0, ((((drw nw0) % (popc (cgN n F lf))) : Nat) : Int))] [(0, ((lf : Nat) : Int))] dX0_peelByDraws_67 mlX0_86 csX0_nthBit rfl rfl (by decide) (Nat.le_of_ble_eq_true rfl) rfl (ev_X0_nthBit (cgN n F lf) ((drw nw0) % (popc (cgN n F lf))) (mskN_31 (by omega)) (Nat.mod_lt _ (popc_pos hne)) M) ?_
          refine J_iconst dX0_peelByDraws_70 ?_
          refine J_ixor dX0_peelByDraws_71 (J_top (v := (-(((lwb (dlB (cgN n F lf) ((drw nw0) % (popc (cgN n F lf))))) : Nat) : Int) - 1)) (j_notN rfl (nb_ndf (dl31 hne (by omega)))) ?_)
          refine J_iand dX0_peelByDraws_72 (J_top (v := (((ndf lf (lwb (dlB (cgN n F lf) ((drw nw0) % (popc (cgN n F lf)))))) : Nat) : Int)) (j_ndfN rfl rfl (p12 hn12 f2)) ?_)
          refine J_istore_n (L' := [(14, 0), (0, ((w : Nat) : Int)), (0, (((ndf lf (lwb (dlB (cgN n F lf) ((drw nw0) % (popc (cgN n F lf)))))) : Nat) : Int)), (0, (((drw nw0) : Nat) : Int)), (0, ((t : Nat) : Int)), (0, (((cgN n F lf) : Nat) : Int)), (0, (((popc (cgN n F lf)) : Nat) : Int))]) dX0_peelByDraws_73 (by decide) rfl rfl ?_
          refine J_iinc (v := (((t + 1) : Nat) : Int)) (L' := [(14, 0), (0, ((w : Nat) : Int)), (0, (((ndf lf (lwb (dlB (cgN n F lf) ((drw nw0) % (popc (cgN n F lf)))))) : Nat) : Int)), (0, (((drw nw0) : Nat) : Int)), (0, (((t + 1) : Nat) : Int)), (0, (((cgN n F lf) : Nat) : Int)), (0, (((popc (cgN n F lf)) : Nat) : Int))]) dX0_peelByDraws_74 rfl (by omega) (by decide) rfl rfl ?_
          refine J_goto (tgt := 10) dX0_peelByDraws_77 rfl ?_
          refine J_unset 5 (L' := [(14, 0), (0, ((w : Nat) : Int)), (0, (((ndf lf (lwb (dlB (cgN n F lf) ((drw nw0) % (popc (cgN n F lf)))))) : Nat) : Int)), (0, (((drw nw0) : Nat) : Int)), (0, (((t + 1) : Nat) : Int)), (9, 0), (0, (((popc (cgN n F lf)) : Nat) : Int))]) rfl ?_
          refine J_unset 6 (L' := [(14, 0), (0, ((w : Nat) : Int)), (0, (((ndf lf (lwb (dlB (cgN n F lf) ((drw nw0) % (popc (cgN n F lf)))))) : Nat) : Int)), (0, (((drw nw0) : Nat) : Int)), (0, (((t + 1) : Nat) : Int)), (9, 0), (9, 0)]) rfl ?_
          exact ih _ _ _ (by rw [f1, pd_step (by omega) hne f3]; rfl) (by exact nb_ndf f2) (by have h9 := pd_sub (now := nw0) hne; unfold pdX at h9; omega) (by exact Nat.mod_lt _ (by decide)) (by omega) (by omega)
        ·
          refine J_iload_n dX0_peelByDraws_44 rfl ?_
          refine J_callSiQ (cl := mJ6_bitCount_0f7a4) [(0, ((lf : Nat) : Int))] [] dX0_peelByDraws_45 mlX0_43 csJ6_bitCount_0f7a4 rfl rfl (by decide) (Nat.le_of_ble_eq_true rfl) rfl (ev_bitCount lf (by have := p4096 hn12; omega) M) ?_
          refine J_ireturn dX0_peelByDraws_48 rfl ?_
          exact ⟨by rw [f1, pd_stop (fun e => e.2 (popc_z.mp (by omega)))], rfl⟩
set_option maxRecDepth 100000 in
set_option maxHeartbeats 4000000 in
theorem ev_X0_peelByDraws (P D n : Nat) (F O : Nat → Nat) (M : jM) (hR : KR P D n F O M) (w : Nat) (hw : w < 65537) : Ev 2 mX0_peelByDraws [(14, 0), (0, ((w : Nat) : Int))] M (fun z M' => z = ((pdN n F 12 (2 ^ n - 1) w : Nat) : Int) ∧ M' = M) := by
  refine Ev_of (by decide +kernel) (Nat.le_of_ble_eq_true rfl) (L := [(14, 0), (0, ((w : Nat) : Int)), (9, 0), (9, 0), (9, 0), (9, 0), (9, 0)]) rfl ?_
  have hn12 := KR.hn hR
  have hP7 := KR.hP hR
  have hD5 := KR.hD hR
  have h2P : 2 ^ P ≤ 128 := Nat.pow_le_pow_right (n := 2) (by decide) hP7
  have h2p := Nat.two_pow_pos P
  refine J_aload_n dX0_peelByDraws_0 rfl ?_
  refine J_callViQ (cl := mX0_everyFacet) [] [] dX0_peelByDraws_1 mlX0_58 cvX0_everyFacet rfl rfl rfl rfl rfl (by decide) (Nat.le_of_ble_eq_true rfl) rfl (ev_X0_everyFacet n (KR.hn hR) M (KR.gn hR)) ?_
  refine J_istore_n (L' := [(14, 0), (0, ((w : Nat) : Int)), (0, (((2 ^ n - 1) : Nat) : Int)), (9, 0), (9, 0), (9, 0), (9, 0)]) dX0_peelByDraws_4 (by decide) rfl rfl ?_
  refine J_iload_n dX0_peelByDraws_5 rfl ?_
  refine J_istore_n (L' := [(14, 0), (0, ((w : Nat) : Int)), (0, (((2 ^ n - 1) : Nat) : Int)), (0, ((w : Nat) : Int)), (9, 0), (9, 0), (9, 0)]) dX0_peelByDraws_6 (by decide) rfl rfl ?_
  refine J_iconst dX0_peelByDraws_7 ?_
  refine J_istore (L' := [(14, 0), (0, ((w : Nat) : Int)), (0, (((2 ^ n - 1) : Nat) : Int)), (0, ((w : Nat) : Int)), (0, 0), (9, 0), (9, 0)]) dX0_peelByDraws_8 (by decide) rfl rfl ?_
  refine J_eq (L' := [(14, 0), (0, ((w : Nat) : Int)), (0, (((2 ^ n - 1) : Nat) : Int)), (0, ((w : Nat) : Int)), (0, ((0 : Nat) : Int)), (9, 0), (9, 0)]) rfl rfl rfl ?_
  exact ev_X0_peelByDraws_L10 P D n F O M hR w hw  _ _ _ _ (by rfl) (by have := Nat.two_pow_pos n; omega) (by have := popc_all n; omega) (by omega) (by omega) (Nat.lt_succ_self _)
set_option maxRecDepth 100000 in
set_option maxHeartbeats 4000000 in
theorem ev_X0_canLose_L35 (P D n : Nat) (F O : Nat → Nat) (M : jM) (hR : KR P D n F O M) (s p : Nat) (hs : s < 2147483648) (hp : p < 7) (g1 : ¬ (s &&& hvg n F p) = 0) (g2 : ¬ (ndf s (hvg n F p)) = 0) : ∀ (fu : Nat) (i : Nat) (h1 : allN i (fun i => !(s &&& hvg n F p).testBit i || decide (¬ acr n F i p &&& (ndf s (hvg n F p)) = 0)) = true) (h2 : i ≤ n) (hfu : n - i < fu), J none 0 mX0_canLose 35 [(14, 0), (0, ((s : Nat) : Int)), (0, ((p : Nat) : Int)), (0, (((s &&& hvg n F p) : Nat) : Int)), (0, (((ndf s (hvg n F p)) : Nat) : Int)), (0, ((i : Nat) : Int))] [] M (j_ret mX0_canLose (fun z M' => z = ((Bool.toNat (clB n F s p) : Nat) : Int) ∧ M' = M)) := by
  intro fu
  induction fu with
  | zero => intro i h1 h2 hfu; exact absurd hfu (Nat.not_lt_zero _)
  | succ fu ih =>
    intro i h1 h2 hfu
    have hn12 := KR.hn hR
    have hP7 := KR.hP hR
    have hD5 := KR.hD hR
    have h2P : 2 ^ P ≤ 128 := Nat.pow_le_pow_right (n := 2) (by decide) hP7
    have h2p := Nat.two_pow_pos P
    refine J_iload dX0_canLose_35 rfl ?_
    refine J_aload_n dX0_canLose_37 rfl ?_
    refine J_getI dX0_canLose_38 flX0_41 rfl rfl (J_top (v := ((n : Nat) : Int)) (KR.gn hR) ?_)
    refine J_icmp_ge (tgt := 80) dX0_canLose_41 rfl (j_R (by omega)) (j_R (by omega)) (fun h41 => ?_) (fun h41 => ?_)
    ·
      refine J_iconst dX0_canLose_80 ?_
      refine J_zreturn dX0_canLose_81 rfl (Or.inr rfl) ?_
      have : i = n := by omega
      subst this
      exact ⟨bt (by unfold clB; rw [h1, decide_eq_true g1, decide_eq_true g2]; rfl), rfl⟩
    ·
      refine J_iload_n dX0_canLose_44 rfl ?_
      refine J_iload dX0_canLose_45 rfl ?_
      refine J_ishr dX0_canLose_47 (J_top (v := ((((s &&& hvg n F p) >>> i) : Nat) : Int)) (j_shrN rfl rfl (nb_and hs) (by omega)) ?_)
      refine J_iconst dX0_canLose_48 ?_
      refine J_iand dX0_canLose_49 (J_top (v := ((Bool.toNat (Nat.testBit (s &&& hvg n F p) i) : Nat) : Int)) ((j_andN rfl rfl (nb_shr (nb_and hs)) (by decide)).trans (congrArg Nat.cast (bit_one _ _))) ?_)
      refine J_iconst dX0_canLose_50 ?_
      refine J_icmp_ne (tgt := 74) dX0_canLose_51 rfl (j_R (nb_bool _)) (by decide) (fun h51 => ?_) (fun h51 => ?_)
      ·
        refine J_iinc (v := (((i + 1) : Nat) : Int)) (L' := [(14, 0), (0, ((s : Nat) : Int)), (0, ((p : Nat) : Int)), (0, (((s &&& hvg n F p) : Nat) : Int)), (0, (((ndf s (hvg n F p)) : Nat) : Int)), (0, (((i + 1) : Nat) : Int))]) dX0_canLose_74 rfl (by omega) (by decide) rfl rfl ?_
        refine J_goto (tgt := 35) dX0_canLose_77 rfl ?_
        exact ih _ (by have a1 := bf' h51; rw [allN_t (by simp only [a1, Bool.not_false, Bool.true_or]), h1]) (by omega) (by omega)
      ·
        refine J_aload_n dX0_canLose_54 rfl ?_
        refine J_getR dX0_canLose_55 flX0_21 rfl rfl ?_
        refine J_iload dX0_canLose_58 rfl ?_
        refine J_bipush dX0_canLose_60 (by decide) ?_
        refine J_imul dX0_canLose_62 (J_top (v := (((i * 7) : Nat) : Int)) (Int.natCast_mul _ _).symm ?_)
        refine J_iload_n dX0_canLose_63 rfl ?_
        refine J_iadd dX0_canLose_64 (J_top (v := ((((i * 7) + p) : Nat) : Int)) (by omega) ?_)
        refine J_iald dX0_canLose_65 rfl (by decide) (KR.iA hR (by omega) (by omega)) (J_top (v := (((acr n F i p) : Nat) : Int)) (KR.gA hR (by omega) (by omega)) ?_)
        refine J_iload dX0_canLose_66 rfl ?_
        refine J_iand dX0_canLose_68 (J_top (v := ((((acr n F i p) &&& (ndf s (hvg n F p))) : Nat) : Int)) (j_andN rfl rfl (acr31 (KR.hn hR) F _ _) (nb_ndf hs)) ?_)
        refine J_if_ne (tgt := 74) dX0_canLose_69 rfl (j_R (nb_and (acr31 (KR.hn hR) F _ _))) (fun h69 => ?_) (fun h69 => ?_)
        ·
          refine J_iinc (v := (((i + 1) : Nat) : Int)) (L' := [(14, 0), (0, ((s : Nat) : Int)), (0, ((p : Nat) : Int)), (0, (((s &&& hvg n F p) : Nat) : Int)), (0, (((ndf s (hvg n F p)) : Nat) : Int)), (0, (((i + 1) : Nat) : Int))]) dX0_canLose_74 rfl (by omega) (by decide) rfl rfl ?_
          refine J_goto (tgt := 35) dX0_canLose_77 rfl ?_
          exact ih _ (by have a2 : ¬ acr n F i p &&& (ndf s (hvg n F p)) = 0 := (by omega); rw [allN_t (by simp only [decide_eq_true a2, Bool.or_true]), h1]) (by omega) (by omega)
        ·
          refine J_iconst dX0_canLose_72 ?_
          refine J_zreturn dX0_canLose_73 rfl (Or.inl rfl) ?_
          exact ⟨bf (by have a1 := bt' h51; have a2 : acr n F i p &&& (ndf s (hvg n F p)) = 0 := (by omega); have := allN_no (n := n) (p := (fun i => !(s &&& hvg n F p).testBit i || decide (¬ acr n F i p &&& (ndf s (hvg n F p)) = 0))) (k := i) (by simp only [a1, decide_eq_false (fun e : ¬ acr n F i p &&& (ndf s (hvg n F p)) = 0 => e a2)]; rfl) (by omega); unfold clB; rw [this, Bool.and_false]), rfl⟩
set_option maxRecDepth 100000 in
set_option maxHeartbeats 4000000 in
theorem ev_X0_canLose (P D n : Nat) (F O : Nat → Nat) (M : jM) (hR : KR P D n F O M) (s p : Nat) (hs : s < 2147483648) (hp : p < 7) : Ev 0 mX0_canLose [(14, 0), (0, ((s : Nat) : Int)), (0, ((p : Nat) : Int))] M (fun z M' => z = ((Bool.toNat (clB n F s p) : Nat) : Int) ∧ M' = M) := by
  refine Ev_of (by decide +kernel) (Nat.le_of_ble_eq_true rfl) (L := [(14, 0), (0, ((s : Nat) : Int)), (0, ((p : Nat) : Int)), (9, 0), (9, 0), (9, 0)]) rfl ?_
  have hn12 := KR.hn hR
  have hP7 := KR.hP hR
  have hD5 := KR.hD hR
  have h2P : 2 ^ P ≤ 128 := Nat.pow_le_pow_right (n := 2) (by decide) hP7
  have h2p := Nat.two_pow_pos P
  refine J_iload_n dX0_canLose_0 rfl ?_
  refine J_aload_n dX0_canLose_1 rfl ?_
  refine J_getR dX0_canLose_2 flX0_15 rfl rfl ?_
  refine J_iload_n dX0_canLose_5 rfl ?_
  refine J_iald dX0_canLose_6 rfl (by decide) (by omega) (J_top (v := (((hvg n F p) : Nat) : Int)) (KR.gH hR (by omega)) ?_)
  refine J_iand dX0_canLose_7 (J_top (v := (((s &&& (hvg n F p)) : Nat) : Int)) (j_andN rfl rfl hs (hvg31 (KR.hn hR) F _)) ?_)
  refine J_istore_n (L' := [(14, 0), (0, ((s : Nat) : Int)), (0, ((p : Nat) : Int)), (0, (((s &&& (hvg n F p)) : Nat) : Int)), (9, 0), (9, 0)]) dX0_canLose_8 (by decide) rfl rfl ?_
  refine J_iload_n dX0_canLose_9 rfl ?_
  refine J_aload_n dX0_canLose_10 rfl ?_
  refine J_getR dX0_canLose_11 flX0_15 rfl rfl ?_
  refine J_iload_n dX0_canLose_14 rfl ?_
  refine J_iald dX0_canLose_15 rfl (by decide) (by omega) (J_top (v := (((hvg n F p) : Nat) : Int)) (KR.gH hR (by omega)) ?_)
  refine J_iconst dX0_canLose_16 ?_
  refine J_ixor dX0_canLose_17 (J_top (v := (-(((hvg n F p) : Nat) : Int) - 1)) (j_notN rfl (hvg31 (KR.hn hR) F _)) ?_)
  refine J_iand dX0_canLose_18 (J_top (v := (((ndf s (hvg n F p)) : Nat) : Int)) (j_ndfN rfl rfl hs) ?_)
  refine J_istore (L' := [(14, 0), (0, ((s : Nat) : Int)), (0, ((p : Nat) : Int)), (0, (((s &&& (hvg n F p)) : Nat) : Int)), (0, (((ndf s (hvg n F p)) : Nat) : Int)), (9, 0)]) dX0_canLose_19 (by decide) rfl rfl ?_
  refine J_iload_n dX0_canLose_21 rfl ?_
  refine J_if_eq (tgt := 30) dX0_canLose_22 rfl (j_R (nb_and hs)) (fun h22 => ?_) (fun h22 => ?_)
  ·
    refine J_iconst dX0_canLose_30 ?_
    refine J_zreturn dX0_canLose_31 rfl (Or.inl rfl) ?_
    exact ⟨bf (by unfold clB; have a1 : (s &&& hvg n F p) = 0 := (by omega); rw [decide_eq_false (fun e => e a1)]; rfl), rfl⟩
  ·
    refine J_iload dX0_canLose_25 rfl ?_
    refine J_if_ne (tgt := 32) dX0_canLose_27 rfl (j_R (nb_ndf hs)) (fun h27 => ?_) (fun h27 => ?_)
    ·
      refine J_iconst dX0_canLose_32 ?_
      refine J_istore (L' := [(14, 0), (0, ((s : Nat) : Int)), (0, ((p : Nat) : Int)), (0, (((s &&& (hvg n F p)) : Nat) : Int)), (0, (((ndf s (hvg n F p)) : Nat) : Int)), (0, 0)]) dX0_canLose_33 (by decide) rfl rfl ?_
      refine J_eq (L' := [(14, 0), (0, ((s : Nat) : Int)), (0, ((p : Nat) : Int)), (0, (((s &&& (hvg n F p)) : Nat) : Int)), (0, (((ndf s (hvg n F p)) : Nat) : Int)), (0, ((0 : Nat) : Int))]) rfl rfl rfl ?_
      exact ev_X0_canLose_L35 P D n F O M hR s p hs hp (by omega) (by omega) _ _ (by rfl) (by omega) (Nat.lt_succ_self _)
    ·
      refine J_iconst dX0_canLose_30 ?_
      refine J_zreturn dX0_canLose_31 rfl (Or.inl rfl) ?_
      exact ⟨bf (by unfold clB; have a1 : (ndf s (hvg n F p)) = 0 := (by omega); rw [decide_eq_false (p := ¬ (ndf s (hvg n F p)) = 0) (fun e => e a1), Bool.and_false]; rfl), rfl⟩
