theorem nthN_spec {n : Nat} {p : Nat → Bool} {i : Nat} (h : i < cntN n p) : ∃ k : Nat, k < n ∧ nthN n p (i : Int) = (k : Int) ∧ p k = true ∧ cntN k p = i := by
  induction n with
  | zero => simp [cntN] at h
  | succ n ih =>
    by_cases h1 : i < cntN n p
    · obtain ⟨k, a, b, c, e⟩ := ih h1
      refine ⟨k, by omega, ?_, c, e⟩
      simp only [nthN]
      rw [b, if_neg (by omega)]
    · have hp : p n = true := by
        cases q : p n
        · rw [cntN_f q] at h; exact absurd h h1
        · rfl
      rw [cntN_t hp] at h
      refine ⟨n, by omega, ?_, hp, by omega⟩
      simp only [nthN]
      rw [if_pos (nthN_none (by omega)), if_pos ⟨hp, by omega⟩]
theorem ahd_bit (O : Nat → Nat) (k j : Nat) : (ahd O k).testBit j = anyN k (fun i => O i == j) := by
  induction k with
  | zero => simp [ahd, anyN]
  | succ k ih =>
    simp only [ahd, anyN]
    rw [Nat.testBit_or, ih, Nat.testBit_two_pow]
    rfl
theorem ahd_popc {O : Nat → Nat} {n : Nat} (inj : ∀ i j, i < n → j < n → O i = O j → i = j) : ∀ k, k ≤ n → popc (ahd O k) = k := by
  intro k
  induction k with
  | zero => intro _; exact popc_zero
  | succ k ih =>
    intro hk
    simp only [ahd]
    rw [popc_add, ih (by omega)]
    rw [ahd_bit, anyN_false]
    intro i hi
    rw [beq_eq_false_iff_ne]
    intro q
    have := inj i k (by omega) (by omega) q
    omega
/-- into itself and one to one: each is met -/
theorem inj_surj {O : Nat → Nat} {n : Nat} (hb : ∀ i, i < n → O i < n) (inj : ∀ i j, i < n → j < n → O i = O j → i = j) {j : Nat} (hj : j < n) : ∃ i, i < n ∧ O i = j := by
  cases q : anyN n (fun i => O i == j)
  · exfalso
    have h1 := ahd_popc inj n (Nat.le_refl n)
    have h2 := popc_sub_lt (a := ahd O n) (b := 2 ^ n - 1) (j := j) (fun i hi => by rw [all_bit]; simpa using bit_lt (ahd_lt hb) hi) (by rw [ahd_bit]; exact q) (by rw [all_bit]; simpa using hj)
    rw [popc_all] at h2
    omega
  · obtain ⟨i, h1, h2⟩ := anyN_iff.mp q
    exact ⟨i, h1, by simpa using h2⟩
theorem cntN_compl (n : Nat) (p : Nat → Bool) : cntN n p + cntN n (fun k => !p k) = n := by
  induction n with
  | zero => rfl
  | succ n ih =>
    simp only [cntN]
    cases p n <;> simp <;> omega
def drQ (O : Nat → Nat) (i : Nat) : Nat → Bool := fun k => !(O k == i)
def drF (F : Nat → Nat) (i : Nat) : Nat → Nat := fun j => if j < i then F j else F (j + 1)
def drV (O : Nat → Nat) (i v : Nat) : Nat := if O v > i then O v - 1 else O v
def drO (n : Nat) (O : Nat → Nat) (i : Nat) : Nat → Nat := fun j => drV O i (nthN n (drQ O i) (j : Int)).toNat
theorem drQ_cnt {O : Nat → Nat} {n i : Nat} (hb : ∀ i, i < n → O i < n) (inj : ∀ i j, i < n → j < n → O i = O j → i = j) (hi : i < n) : cntN n (drQ O i) + 1 = n := by
  obtain ⟨k, h1, h2⟩ := inj_surj hb inj hi
  have hz : cntN n (fun k => O k == i) = 1 := by
    have h3 := cntN_rem (n := n) (k := k) (p := fun k => decide (k < n) && (O k == i)) (q := fun _ => false) h1 (by simp [h1, h2]) rfl (by
      intro j hj
      symm
      by_cases hjn : j < n
      · have : ¬ O j = i := fun q => hj (inj j k hjn h1 (q.trans h2.symm))
        simp [this]
      · simp [hjn])
    have h4 : cntN n (fun _ => false) = 0 := by
      have := cntN_beyond (p := fun _ => false) (m := 0) (n := n) (Nat.zero_le _) (fun _ _ _ => rfl)
      rw [this]; rfl
    rw [h4] at h3
    rw [cntN_congr (q := fun k => decide (k < n) && (O k == i)) (fun j hj => by simp [hj])]
    omega
  have := cntN_compl n (fun k => O k == i)
  rw [hz] at this
  unfold drQ
  omega
theorem dr_wf {P D n : Nat} {F O : Nat → Nat} (h : WF P D n F O) {i : Nat} (hi : i < n) (hn : 2 ≤ n) : WF P D (n - 1) (drF F i) (drO n O i) := by
  obtain ⟨h1, h2, h3, h4, h5, h6, h7, h8, h9, h10⟩ := h
  have hc := drQ_cnt h7 h8 hi
  have sp : ∀ j, j < n - 1 → ∃ k : Nat, k < n ∧ nthN n (drQ O i) (j : Int) = (k : Int) ∧ ¬ O k = i ∧ cntN k (drQ O i) = j := by
    intro j hj
    obtain ⟨k, a, b, c, e⟩ := nthN_spec (n := n) (p := drQ O i) (i := j) (by omega)
    exact ⟨k, a, b, by simpa [drQ] using c, e⟩
  refine ⟨h1, h2, by omega, h4, ?_, ?_, ?_, ?_, fun _ => h9 (by omega), fun q => by omega⟩
  · intro j hj
    unfold drF
    split
    · exact h5 j (by omega)
    · exact h5 (j + 1) (by omega)
  · intro j k hj hk e
    unfold drF at e
    split at e <;> split at e
    · exact h6 _ _ (by omega) (by omega) e
    · have := h6 _ _ (by omega) (by omega) e; omega
    · have := h6 _ _ (by omega) (by omega) e; omega
    · have := h6 _ _ (by omega) (by omega) e; omega
  · intro j hj
    obtain ⟨k, a, b, c, -⟩ := sp j hj
    unfold drO drV
    rw [b, Int.toNat_natCast]
    have := h7 k a
    split <;> omega
  · intro j j' hj hj' e
    obtain ⟨k, a, b, c, e1⟩ := sp j hj
    obtain ⟨k', a', b', c', e2⟩ := sp j' hj'
    unfold drO drV at e
    rw [b, b', Int.toNat_natCast, Int.toNat_natCast] at e
    have : O k = O k' := by split at e <;> split at e <;> omega
    have := h8 k k' a a' this
    subst this
    omega
/-! how the reference finds a cycle -/
def slR (D n : Nat) (F : Nat → Nat) : Nat := cntN 128 (alQ (isF n F) D)
def slL (D n : Nat) (F : Nat → Nat) (one free : Nat) : Nat → Nat := fun j => lyg n F (nthN 128 (alQ (isF n F) D) (j : Int)).toNat &&& (free ||| 2 ^ one)
def slP (free k : Nat) (T : Nat → Nat) : Nat → Bool := fun r => free.testBit k && ((T r).testBit k && ((T r &&& free &&& (2 ^ k - 1)) == 0))
def slB (rows free k : Nat) (T : Nat → Nat) : Int := fstN rows (slP free k T) (-1)
def slE (rows free k : Nat) (T : Nat → Nat) : Nat → Nat := fun r => if slB rows free k T = -1 then T r else if ¬ r = (slB rows free k T).toNat ∧ (T r).testBit k = true then T r ^^^ T (slB rows free k T).toNat else T r
def slT (rows free : Nat) (T : Nat → Nat) : Nat → Nat → Nat
  | 0 => T
  | k + 1 => slE rows free k (slT rows free T k)
def slO (rows one free k : Nat) (T : Nat → Nat) : Nat → Bool := fun r => (free.testBit k && ((T r &&& free) == 2 ^ k)) && (T r).testBit one
def slS (rows one free : Nat) (T : Nat → Nat) : Nat → Nat
  | 0 => 2 ^ one
  | k + 1 => slS rows one free T k ||| (if anyN rows (slO rows one free k T) = true then 2 ^ k else 0)
def slN (D n : Nat) (F : Nat → Nat) (one free : Nat) : Nat := slS (slR D n F) one free (slT (slR D n F) free (slL D n F one free) n) n
theorem slT31 {rows free : Nat} {T : Nat → Nat} (hT : ∀ q, q < rows → T q < 2147483648) : ∀ k q, q < rows → slT rows free T k q < 2147483648 := by
  intro k
  induction k with
  | zero => exact hT
  | succ k ih =>
    intro q hq
    simp only [slT, slE]
    split
    · exact ih q hq
    · split
      · refine nb_xor (ih q hq) (ih _ ?_)
        rename_i h1 h2
        rcases fstN_rng (n := rows) (p := slP free k (slT rows free T k)) (z := -1) with e | e
        · exact absurd e h1
        · unfold slB
          omega
      · exact ih q hq
theorem slS31 {rows one free n : Nat} {T : Nat → Nat} (h1 : one < 31) (hn : n ≤ 31) : ∀ k, k ≤ n → slS rows one free T k < 2147483648 := by
  intro k
  induction k with
  | zero => intro _; exact nb_p2 h1
  | succ k ih =>
    intro hk
    simp only [slS]
    refine nb_or (ih (by omega)) ?_
    split
    · exact nb_p2 (by omega)
    · decide
def TabI (M : jM) (rows : Nat) (T : Nat → Nat) : Prop := ∀ q : Nat, q < rows → M 32 (q : Int) = (T q : Int)
theorem slR_le (D n : Nat) (F : Nat → Nat) : slR D n F ≤ 128 := cntN_le _ _
theorem slL31 {P D n : Nat} {F O : Nat → Nat} {M : jM} (h : MR P D n F O M) (one free : Nat) : ∀ q, q < slR D n F → slL D n F one free q < 2147483648 := fun q _ => nb_and (ly31 h _)
theorem slBR (rows free k : Nat) (T : Nat → Nat) (hr : rows ≤ 128) : -2147483648 ≤ slB rows free k T ∧ slB rows free k T < 2147483648 := by
  rcases fstN_rng (n := rows) (p := slP free k T) (z := -1) with e | e
  · unfold slB; omega
  · unfold slB; omega
theorem slB_nn {rows free k : Nat} {T : Nat → Nat} (h : ¬ slB rows free k T = -1) : 0 ≤ slB rows free k T ∧ slB rows free k T < (rows : Int) := by
  rcases fstN_rng (n := rows) (p := slP free k T) (z := -1) with e | e
  · exact absurd e h
  · exact e
theorem slB_lt {rows free k : Nat} {T : Nat → Nat} (h : ¬ slB rows free k T = -1) : (slB rows free k T).toNat < rows := by
  have := slB_nn h
  omega
section SLE
variable {rows free k r : Nat} {T : Nat → Nat} {b : Int}
theorem sl_eq1 (h : (b = -1 ∧ anyN r (slP free k T) = false) ∨ ∃ c : Nat, b = (c : Int) ∧ c < r ∧ slP free k T c = true ∧ anyN c (slP free k T) = false) (hr : r = rows) : b = slB rows free k T := by
  subst hr
  unfold slB
  rcases h with ⟨h1, h2⟩ | ⟨c, h1, h2, h3, h4⟩
  · rw [h1, fstN_none h2]
  · rw [h1, fstN_hit h4 h3 h2]
theorem sl_eq2 (h : (b = -1 ∧ anyN r (slP free k T) = false) ∨ ∃ c : Nat, b = (c : Int) ∧ c < r ∧ slP free k T c = true ∧ anyN c (slP free k T) = false) (hf : free.testBit k = false) : b = slB rows free k T := by
  have hz : ∀ j, slP free k T j = false := by intro j; unfold slP; rw [hf]; rfl
  unfold slB
  rw [fstN_none (anyN_false.mpr (fun j _ => hz j))]
  rcases h with ⟨h1, h2⟩ | ⟨c, h1, h2, h3, h4⟩
  · exact h1
  · rw [hz c] at h3; exact absurd h3 (by decide)
theorem sl_eq3 (h : (b = -1 ∧ anyN r (slP free k T) = false) ∨ ∃ c : Nat, b = (c : Int) ∧ c < r ∧ slP free k T c = true ∧ anyN c (slP free k T) = false) (hb : ¬ b = -1) (hr : r ≤ rows) : b = slB rows free k T := by
  unfold slB
  rcases h with ⟨h1, h2⟩ | ⟨c, h1, h2, h3, h4⟩
  · exact absurd h1 hb
  · rw [h1, fstN_hit h4 h3 (by omega)]
end SLE
set_option maxRecDepth 100000 in
set_option maxHeartbeats 4000000 in
theorem ev_X7_goes_L76 (P D n : Nat) (F O : Nat → Nat) (M : jM) (hR : MR P D n F O M) (i : Nat) (hi : i < n) (hn2 : 2 ≤ n)  : ∀ (fu : Nat) (M3 : jM) (k : Nat) (g1 : Fz [8] [25, 26] M M3) (g2 : M3 23 8 = ((n - 1 : Nat) : Int)) (g3 : ∀ j : Nat, j < n → M3 25 (j : Int) = (((if j < k then drF F i j else F j) : Nat) : Int)) (g4 : ∀ j : Nat, j < cntN n (drQ O i) → M3 26 (j : Int) = ((drV O i (nthN n (drQ O i) (j : Int)).toNat : Nat) : Int)) (g5 : i ≤ k) (g6 : k ≤ n - 1) (hfu : n - k < fu), J none 0 mX7_goes 76 [(33, 0), (0, ((i : Nat) : Int)), (9, 0), (0, ((k : Nat) : Int))] [] M3 (j_ret mX7_goes (fun z M' => MR P D (n - 1) (drF F i) (drO n O i) M' ∧ Fz [8] [25, 26] M M')) := by
  intro fu
  induction fu with
  | zero => intro M3 k g1 g2 g3 g4 g5 g6 hfu; exact absurd hfu (Nat.not_lt_zero _)
  | succ fu ih =>
    intro M3 k g1 g2 g3 g4 g5 g6 hfu
    have hn12 := MR.hn hR
    have hP7 := MR.hP hR
    have hD5 := MR.hD hR
    refine J_iload_n dX7_goes_76 rfl ?_
    refine J_aload_n dX7_goes_77 rfl ?_
    refine J_getI dX7_goes_78 flX7_176 rfl rfl (J_top (v := (((n - 1) : Nat) : Int)) g2 ?_)
    refine J_icmp_ge (tgt := 104) dX7_goes_81 rfl (j_R (by omega)) (j_R (by omega)) (fun h81 => ?_) (fun h81 => ?_)
    ·
      refine J_return dX7_goes_104 rfl ?_
      have hk : k = n - 1 := by omega
      subst hk
      have hcn := drQ_cnt (O := O) (fun j hj => MR.ob hR hj) hR.wf.2.2.2.2.2.2.2.1 hi
      refine ⟨⟨dr_wf hR.wf hi hn2, ?_, ?_, g2, ?_, ?_, ?_⟩, g1⟩
      · rw [g1.2 6 (by decide)]; exact hR.gP
      · rw [g1.2 7 (by decide)]; exact hR.gD
      · rw [g1.2 11 (by decide), hR.gt, decide_eq_true (by omega : 0 < n), decide_eq_true (by omega : 0 < n - 1)]
      · intro j hj; rw [g3 j (by omega), if_pos hj]
      · intro j hj; exact g4 j (by omega)
    ·
      refine J_aload_n dX7_goes_84 rfl ?_
      refine J_getR dX7_goes_85 flX7_17 rfl rfl ?_
      refine J_iload_n dX7_goes_88 rfl ?_
      refine J_aload_n dX7_goes_89 rfl ?_
      refine J_getR dX7_goes_90 flX7_17 rfl rfl ?_
      refine J_iload_n dX7_goes_93 rfl ?_
      refine J_iconst dX7_goes_94 ?_
      refine J_iadd dX7_goes_95 (J_top (v := (((k + 1) : Nat) : Int)) (by omega) ?_)
      refine J_iald dX7_goes_96 rfl (by decide) (by omega) (J_top (v := (((F (k + 1)) : Nat) : Int)) (by rw [g3 (k + 1) (by omega), if_neg (by omega)]) ?_)
      refine J_iast dX7_goes_97 rfl (by decide) (by omega) ?_
      refine J_iinc (v := (((k + 1) : Nat) : Int)) (L' := [(33, 0), (0, ((i : Nat) : Int)), (9, 0), (0, (((k + 1) : Nat) : Int))]) dX7_goes_98 rfl (by omega) (by decide) rfl rfl ?_
      refine J_goto (tgt := 76) dX7_goes_101 rfl ?_
      exact ih _ _ (by exact Fz_upk (by decide) (by decide) g1) (by rw [j_up_ne (by decide)]; exact g2) (by intro j hj; by_cases e : j = k; rw [e, j_up_eq, if_pos (by omega)]; unfold drF; rw [if_neg (by omega)]; rw [j_up_nz (by omega), g3 j hj]; by_cases e2 : j < k; rw [if_pos e2, if_pos (by omega)]; rw [if_neg e2, if_neg (by omega)]) (by intro j hj; rw [j_up_ne (by decide)]; exact g4 j hj) (by omega) (by omega) (by omega)
set_option maxRecDepth 100000 in
set_option maxHeartbeats 4000000 in
theorem ev_X7_goes_L4 (P D n : Nat) (F O : Nat → Nat) (M : jM) (hR : MR P D n F O M) (i : Nat) (hi : i < n) (hn2 : 2 ≤ n)  : ∀ (fu : Nat) (M1 : jM) (k : Nat) (f1 : Ch [26] M M1) (f2 : ∀ j : Nat, j < cntN k (drQ O i) → M1 26 (j : Int) = ((drV O i (nthN k (drQ O i) (j : Int)).toNat : Nat) : Int)) (f3 : ∀ j : Nat, k ≤ j → j < n → M1 26 (j : Int) = ((O j : Nat) : Int)) (f4 : k ≤ n) (hfu : n - k < fu), J none 0 mX7_goes 4 [(33, 0), (0, ((i : Nat) : Int)), (0, (((cntN k (drQ O i)) : Nat) : Int)), (0, ((k : Nat) : Int))] [] M1 (j_ret mX7_goes (fun z M' => MR P D (n - 1) (drF F i) (drO n O i) M' ∧ Fz [8] [25, 26] M M')) := by
  intro fu
  induction fu with
  | zero => intro M1 k f1 f2 f3 f4 hfu; exact absurd hfu (Nat.not_lt_zero _)
  | succ fu ih =>
    intro M1 k f1 f2 f3 f4 hfu
    have hn12 := MR.hn hR
    have hP7 := MR.hP hR
    have hD5 := MR.hD hR
    refine J_iload_n dX7_goes_4 rfl ?_
    refine J_aload_n dX7_goes_5 rfl ?_
    refine J_getI dX7_goes_6 flX7_176 rfl rfl (J_top (v := ((n : Nat) : Int)) (by rw [f1 23 (by decide)]; exact MR.gn hR) ?_)
    refine J_icmp_ge (tgt := 64) dX7_goes_9 rfl (j_R (by omega)) (j_R (by omega)) (fun h9 => ?_) (fun h9 => ?_)
    ·
      refine J_aload_n dX7_goes_64 rfl ?_
      refine J_dup dX7_goes_65 rfl ?_
      refine J_getI dX7_goes_66 flX7_176 rfl rfl (J_top (v := ((n : Nat) : Int)) (by rw [f1 23 (by decide)]; exact MR.gn hR) ?_)
      refine J_iconst dX7_goes_69 ?_
      refine J_isub dX7_goes_70 (J_top (v := (((n - 1) : Nat) : Int)) (by omega) ?_)
      refine J_putI dX7_goes_71 flX7_176 rfl rfl (Or.inl rfl) ?_
      refine J_iload_n dX7_goes_74 rfl ?_
      refine J_istore_n (L' := [(33, 0), (0, ((i : Nat) : Int)), (0, (((cntN k (drQ O i)) : Nat) : Int)), (0, ((i : Nat) : Int))]) dX7_goes_75 (by decide) rfl rfl ?_
      refine J_unset 2 (L' := [(33, 0), (0, ((i : Nat) : Int)), (9, 0), (0, ((i : Nat) : Int))]) rfl ?_
      exact ev_X7_goes_L76 P D n F O M hR i hi hn2  _ _ _ (by exact Fz_upz (by decide) (Fz_ch (Ch_mo f1 (by decide)) (by decide))) (by rw [j_up_eq]) (by intro j hj; rw [j_up_ne (by decide), f1 25 (by decide), MR.gF hR hj]; split; rename_i q; unfold drF; rw [if_pos q]; rfl) (by rw [show k = n by omega] at f2; intro j hj; rw [j_up_ne (by decide)]; exact f2 j hj) (by omega) (by omega) (Nat.lt_succ_self _)
    ·
      refine J_aload_n dX7_goes_12 rfl ?_
      refine J_getR dX7_goes_13 flX7_20 rfl rfl ?_
      refine J_iload_n dX7_goes_16 rfl ?_
      refine J_iald dX7_goes_17 rfl (by decide) (by omega) (J_top (v := (((O k) : Nat) : Int)) (f3 k (Nat.le_refl _) (by omega)) ?_)
      refine J_iload_n dX7_goes_18 rfl ?_
      refine J_icmp_eq (tgt := 58) dX7_goes_19 rfl (j_R (by have := MR.ob hR (i := k) (by omega); omega)) (j_R (by omega)) (fun h19 => ?_) (fun h19 => ?_)
      ·
        refine J_eq (L' := [(33, 0), (0, ((i : Nat) : Int)), (0, (((cntN (k + 1) (drQ O i)) : Nat) : Int)), (0, ((k : Nat) : Int))]) (by rw [cntN_f (k := k) (by simp [drQ]; omega)]) rfl rfl ?_
        refine J_iinc (v := (((k + 1) : Nat) : Int)) (L' := [(33, 0), (0, ((i : Nat) : Int)), (0, (((cntN (k + 1) (drQ O i)) : Nat) : Int)), (0, (((k + 1) : Nat) : Int))]) dX7_goes_58 rfl (by omega) (by decide) rfl rfl ?_
        refine J_goto (tgt := 4) dX7_goes_61 rfl ?_
        exact ih _ _ (by exact f1) (by intro j hj; rw [cntN_f (k := k) (by simp [drQ]; omega)] at hj; rw [f2 j hj, nthN_stay (m := k) (n := k + 1) (by have := nthN_ge hj; omega) (by omega)]) (by intro j h1 h2; exact f3 j (by omega) h2) (by omega) (by omega)
      ·
        refine J_aload_n dX7_goes_22 rfl ?_
        refine J_getR dX7_goes_23 flX7_20 rfl rfl ?_
        refine J_iload_n dX7_goes_26 rfl ?_
        refine J_aload_n dX7_goes_27 rfl ?_
        refine J_getR dX7_goes_28 flX7_20 rfl rfl ?_
        refine J_iload_n dX7_goes_31 rfl ?_
        refine J_iald dX7_goes_32 rfl (by decide) (by omega) (J_top (v := (((O k) : Nat) : Int)) (f3 k (Nat.le_refl _) (by omega)) ?_)
        refine J_iload_n dX7_goes_33 rfl ?_
        refine J_icmp_le (tgt := 48) dX7_goes_34 rfl (j_R (by have := MR.ob hR (i := k) (by omega); omega)) (j_R (by omega)) (fun h34 => ?_) (fun h34 => ?_)
        ·
          refine J_aload_n dX7_goes_48 rfl ?_
          refine J_getR dX7_goes_49 flX7_20 rfl rfl ?_
          refine J_iload_n dX7_goes_52 rfl ?_
          refine J_iald dX7_goes_53 rfl (by decide) (by omega) (J_top (v := (((O k) : Nat) : Int)) (f3 k (Nat.le_refl _) (by omega)) ?_)
          refine J_iast dX7_goes_54 rfl (by decide) (by have := cntN_le k (drQ O i); omega) ?_
          refine J_iinc (v := (((cntN (k + 1) (drQ O i)) : Nat) : Int)) (L' := [(33, 0), (0, ((i : Nat) : Int)), (0, (((cntN (k + 1) (drQ O i)) : Nat) : Int)), (0, ((k : Nat) : Int))]) dX7_goes_55 rfl (by rw [cntN_t (k := k) (by simp [drQ]; omega)]; omega) (by decide) rfl rfl ?_
          refine J_iinc (v := (((k + 1) : Nat) : Int)) (L' := [(33, 0), (0, ((i : Nat) : Int)), (0, (((cntN (k + 1) (drQ O i)) : Nat) : Int)), (0, (((k + 1) : Nat) : Int))]) dX7_goes_58 rfl (by omega) (by decide) rfl rfl ?_
          refine J_goto (tgt := 4) dX7_goes_61 rfl ?_
          exact ih _ _ (by exact Ch_up (by decide) f1) (by have hq : drQ O i k = true := (by simp [drQ]; omega); intro j hj; rw [cntN_t hq] at hj; have hle := cntN_le k (drQ O i); by_cases e : j = cntN k (drQ O i); rw [e, j_up_eq, nthN_hit hq rfl (by omega), Int.toNat_natCast]; unfold drV; rw [if_neg (by omega)]; rw [j_up_nz (by omega), f2 j (by omega), nthN_stay (m := k) (n := k + 1) (by have := nthN_ge (p := drQ O i) (n := k) (i := j) (by omega); omega) (by omega)]) (by intro j h1 h2; have hle := cntN_le k (drQ O i); rw [j_up_nz (by omega)]; exact f3 j (by omega) h2) (by omega) (by omega)
        ·
          refine J_aload_n dX7_goes_37 rfl ?_
          refine J_getR dX7_goes_38 flX7_20 rfl rfl ?_
          refine J_iload_n dX7_goes_41 rfl ?_
          refine J_iald dX7_goes_42 rfl (by decide) (by omega) (J_top (v := (((O k) : Nat) : Int)) (f3 k (Nat.le_refl _) (by omega)) ?_)
          refine J_iconst dX7_goes_43 ?_
          refine J_isub dX7_goes_44 (J_top (v := (((O k - 1) : Nat) : Int)) (by omega) ?_)
          refine J_goto (tgt := 54) dX7_goes_45 rfl ?_
          refine J_iast dX7_goes_54 rfl (by decide) (by have := cntN_le k (drQ O i); omega) ?_
          refine J_iinc (v := (((cntN (k + 1) (drQ O i)) : Nat) : Int)) (L' := [(33, 0), (0, ((i : Nat) : Int)), (0, (((cntN (k + 1) (drQ O i)) : Nat) : Int)), (0, ((k : Nat) : Int))]) dX7_goes_55 rfl (by rw [cntN_t (k := k) (by simp [drQ]; omega)]; omega) (by decide) rfl rfl ?_
          refine J_iinc (v := (((k + 1) : Nat) : Int)) (L' := [(33, 0), (0, ((i : Nat) : Int)), (0, (((cntN (k + 1) (drQ O i)) : Nat) : Int)), (0, (((k + 1) : Nat) : Int))]) dX7_goes_58 rfl (by omega) (by decide) rfl rfl ?_
          refine J_goto (tgt := 4) dX7_goes_61 rfl ?_
          exact ih _ _ (by exact Ch_up (by decide) f1) (by have hq : drQ O i k = true := (by simp [drQ]; omega); intro j hj; rw [cntN_t hq] at hj; have hle := cntN_le k (drQ O i); by_cases e : j = cntN k (drQ O i); rw [e, j_up_eq, nthN_hit hq rfl (by omega), Int.toNat_natCast]; unfold drV; rw [if_pos (by omega)]; rw [j_up_nz (by omega), f2 j (by omega), nthN_stay (m := k) (n := k + 1) (by have := nthN_ge (p := drQ O i) (n := k) (i := j) (by omega); omega) (by omega)]) (by intro j h1 h2; have hle := cntN_le k (drQ O i); rw [j_up_nz (by omega)]; exact f3 j (by omega) h2) (by omega) (by omega)
set_option maxRecDepth 100000 in
set_option maxHeartbeats 4000000 in
theorem ev_X7_goes (P D n : Nat) (F O : Nat → Nat) (M : jM) (hR : MR P D n F O M) (i : Nat) (hi : i < n) (hn2 : 2 ≤ n) : Ev 0 mX7_goes [(33, 0), (0, ((i : Nat) : Int))] M (fun z M' => MR P D (n - 1) (drF F i) (drO n O i) M' ∧ Fz [8] [25, 26] M M') := by
  refine Ev_of (by decide +kernel) (Nat.le_of_ble_eq_true rfl) (L := [(33, 0), (0, ((i : Nat) : Int)), (9, 0), (9, 0)]) rfl ?_
  have hn12 := MR.hn hR
  have hP7 := MR.hP hR
  have hD5 := MR.hD hR
  refine J_iconst dX7_goes_0 ?_
  refine J_istore_n (L' := [(33, 0), (0, ((i : Nat) : Int)), (0, 0), (9, 0)]) dX7_goes_1 (by decide) rfl rfl ?_
  refine J_iconst dX7_goes_2 ?_
  refine J_istore_n (L' := [(33, 0), (0, ((i : Nat) : Int)), (0, 0), (0, 0)]) dX7_goes_3 (by decide) rfl rfl ?_
  refine J_eq (L' := [(33, 0), (0, ((i : Nat) : Int)), (0, ((0 : Nat) : Int)), (0, ((0 : Nat) : Int))]) rfl rfl rfl ?_
  exact ev_X7_goes_L4 P D n F O M hR i hi hn2  _ _ _ (by exact Ch_rf) (by intro j hj; simp [cntN] at hj) (by intro j _ hj; exact MR.gO hR hj) (by omega) (Nat.lt_succ_self _)
set_option maxRecDepth 100000 in
set_option maxHeartbeats 4000000 in
theorem ev_X7_solves_L246 (P D n : Nat) (F O : Nat → Nat) (M : jM) (hR : MR P D n F O M) (one free : Nat) (h1n : one < n) (hfr : free < 2 ^ n) (M2 : jM) (f1 : Ch [28, 32] M M2) (e1 : TabI M2 (slR D n F) (slT (slR D n F) free (slL D n F one free) n)) (k : Nat) (hk : k < n) (K0 : J none 3 mX7_solves 322 [(33, 0), (0, ((one : Nat) : Int)), (0, ((free : Nat) : Int)), (0, (((slR D n F) : Nat) : Int)), (0, (((slS (slR D n F) one free (slT (slR D n F) free (slL D n F one free) n) (k + 1)) : Nat) : Int)), (0, ((k : Nat) : Int)), (9, 0), (9, 0)] [] M2 (j_ret mX7_solves (fun z M' => z = ((slN D n F one free : Nat) : Int) ∧ Ch [28, 32] M M'))) : ∀ (fu : Nat) (y r : Nat) (w1 : y = slS (slR D n F) one free (slT (slR D n F) free (slL D n F one free) n) k ||| (if anyN r (slO (slR D n F) one free k (slT (slR D n F) free (slL D n F one free) n)) = true then 2 ^ k else 0)) (w2 : r ≤ (slR D n F)) (hfu : (slR D n F) - r < fu), J none 3 mX7_solves 246 [(33, 0), (0, ((one : Nat) : Int)), (0, ((free : Nat) : Int)), (0, (((slR D n F) : Nat) : Int)), (0, ((y : Nat) : Int)), (0, ((k : Nat) : Int)), (0, ((r : Nat) : Int)), (9, 0)] [] M2 (j_ret mX7_solves (fun z M' => z = ((slN D n F one free : Nat) : Int) ∧ Ch [28, 32] M M')) := by
  intro fu
  induction fu with
  | zero => intro y r w1 w2 hfu; exact absurd hfu (Nat.not_lt_zero _)
  | succ fu ih =>
    intro y r w1 w2 hfu
    have hn12 := MR.hn hR
    have hP7 := MR.hP hR
    have hD5 := MR.hD hR
    have hrl := slR_le D n F
    refine J_iload dX7_solves_246 rfl ?_
    refine J_iload_n dX7_solves_248 rfl ?_
    refine J_icmp_ge (tgt := 322) dX7_solves_249 rfl (j_R (by omega)) (j_R (by have := slR_le D n F; omega)) (fun h249 => ?_) (fun h249 => ?_)
    ·
      refine J_eq (L' := [(33, 0), (0, ((one : Nat) : Int)), (0, ((free : Nat) : Int)), (0, (((slR D n F) : Nat) : Int)), (0, (((slS (slR D n F) one free (slT (slR D n F) free (slL D n F one free) n) (k + 1)) : Nat) : Int)), (0, ((k : Nat) : Int)), (0, ((r : Nat) : Int)), (9, 0)]) (by rw [w1, show r = (slR D n F) by omega]; rfl) rfl rfl ?_
      refine J_unset 6 (L' := [(33, 0), (0, ((one : Nat) : Int)), (0, ((free : Nat) : Int)), (0, (((slR D n F) : Nat) : Int)), (0, (((slS (slR D n F) one free (slT (slR D n F) free (slL D n F one free) n) (k + 1)) : Nat) : Int)), (0, ((k : Nat) : Int)), (9, 0), (9, 0)]) rfl ?_
      exact K0  
    ·
      refine J_iload_n dX7_solves_252 rfl ?_
      refine J_iload dX7_solves_253 rfl ?_
      refine J_callSiQ (cl := mX7_has) [(0, ((free : Nat) : Int)), (0, ((k : Nat) : Int))] [] dX7_solves_255 mlX7_132 csX7_has rfl rfl (by decide) (Nat.le_of_ble_eq_true rfl) rfl (ev_X7_has free k (p12 hn12 hfr) (by omega) M2) ?_
      refine J_ifb_eq (tgt := 281) dX7_solves_258 rfl (fun h258 => ?_) (fun h258 => ?_)
      ·
        refine J_iconst dX7_solves_281 ?_
        refine J_istore (L' := [(33, 0), (0, ((one : Nat) : Int)), (0, ((free : Nat) : Int)), (0, (((slR D n F) : Nat) : Int)), (0, ((y : Nat) : Int)), (0, ((k : Nat) : Int)), (0, ((r : Nat) : Int)), (0, 0)]) dX7_solves_282 (by decide) rfl rfl ?_
        refine J_iload dX7_solves_284 rfl ?_
        refine J_iload dX7_solves_286 rfl ?_
        refine J_if_eq (tgt := 312) dX7_solves_288 rfl (by decide) (fun h288 => ?_) (fun h288 => ?_)
        ·
          refine J_iconst dX7_solves_312 ?_
          refine J_ior dX7_solves_313 (J_top (v := ((y : Nat) : Int)) (j_or0 rfl (by rw [w1]; exact nb_or (slS31 (n := n) (by omega) (by omega) k (by omega)) (by split; exact nb_p2 (by omega); decide))) ?_)
          refine J_istore (L' := [(33, 0), (0, ((one : Nat) : Int)), (0, ((free : Nat) : Int)), (0, (((slR D n F) : Nat) : Int)), (0, ((y : Nat) : Int)), (0, ((k : Nat) : Int)), (0, ((r : Nat) : Int)), (0, 0)]) dX7_solves_314 (by decide) rfl rfl ?_
          refine J_iinc (v := (((r + 1) : Nat) : Int)) (L' := [(33, 0), (0, ((one : Nat) : Int)), (0, ((free : Nat) : Int)), (0, (((slR D n F) : Nat) : Int)), (0, ((y : Nat) : Int)), (0, ((k : Nat) : Int)), (0, (((r + 1) : Nat) : Int)), (0, 0)]) dX7_solves_316 rfl (by omega) (by decide) rfl rfl ?_
          refine J_goto (tgt := 246) dX7_solves_319 rfl ?_
          refine J_unset 7 (L' := [(33, 0), (0, ((one : Nat) : Int)), (0, ((free : Nat) : Int)), (0, (((slR D n F) : Nat) : Int)), (0, ((y : Nat) : Int)), (0, ((k : Nat) : Int)), (0, (((r + 1) : Nat) : Int)), (9, 0)]) rfl ?_
          exact ih _ _ (by rw [w1, anyN_f (by unfold slO; rw [h258]; simp)]) (by omega) (by omega)
        · exact absurd h288 (by decide)
      ·
        refine J_aload_n dX7_solves_261 rfl ?_
        refine J_getR dX7_solves_262 flX7_40 rfl rfl ?_
        refine J_iload dX7_solves_265 rfl ?_
        refine J_iald dX7_solves_267 rfl (by decide) (by omega) (J_top (v := ((((slT (slR D n F) free (slL D n F one free) n) r) : Nat) : Int)) (e1 r (by omega)) ?_)
        refine J_iload_n dX7_solves_268 rfl ?_
        refine J_iand dX7_solves_269 (J_top (v := (((((slT (slR D n F) free (slL D n F one free) n) r) &&& free) : Nat) : Int)) (j_andN rfl rfl (slT31 (slL31 hR one free) n r (by omega)) (p12 hn12 hfr)) ?_)
        refine J_iconst dX7_solves_270 ?_
        refine J_iload dX7_solves_271 rfl ?_
        refine J_ishl dX7_solves_273 (J_top (v := (((2 ^ k) : Nat) : Int)) (j_shl1 rfl rfl (by omega)) ?_)
        refine J_icmp_ne (tgt := 281) dX7_solves_274 rfl (j_R (nb_and (slT31 (slL31 hR one free) n r (by omega)))) (j_R (nb_p2 (by omega))) (fun h274 => ?_) (fun h274 => ?_)
        ·
          refine J_iconst dX7_solves_281 ?_
          refine J_istore (L' := [(33, 0), (0, ((one : Nat) : Int)), (0, ((free : Nat) : Int)), (0, (((slR D n F) : Nat) : Int)), (0, ((y : Nat) : Int)), (0, ((k : Nat) : Int)), (0, ((r : Nat) : Int)), (0, 0)]) dX7_solves_282 (by decide) rfl rfl ?_
          refine J_iload dX7_solves_284 rfl ?_
          refine J_iload dX7_solves_286 rfl ?_
          refine J_if_eq (tgt := 312) dX7_solves_288 rfl (by decide) (fun h288 => ?_) (fun h288 => ?_)
          ·
            refine J_iconst dX7_solves_312 ?_
            refine J_ior dX7_solves_313 (J_top (v := ((y : Nat) : Int)) (j_or0 rfl (by rw [w1]; exact nb_or (slS31 (n := n) (by omega) (by omega) k (by omega)) (by split; exact nb_p2 (by omega); decide))) ?_)
            refine J_istore (L' := [(33, 0), (0, ((one : Nat) : Int)), (0, ((free : Nat) : Int)), (0, (((slR D n F) : Nat) : Int)), (0, ((y : Nat) : Int)), (0, ((k : Nat) : Int)), (0, ((r : Nat) : Int)), (0, 0)]) dX7_solves_314 (by decide) rfl rfl ?_
            refine J_iinc (v := (((r + 1) : Nat) : Int)) (L' := [(33, 0), (0, ((one : Nat) : Int)), (0, ((free : Nat) : Int)), (0, (((slR D n F) : Nat) : Int)), (0, ((y : Nat) : Int)), (0, ((k : Nat) : Int)), (0, (((r + 1) : Nat) : Int)), (0, 0)]) dX7_solves_316 rfl (by omega) (by decide) rfl rfl ?_
            refine J_goto (tgt := 246) dX7_solves_319 rfl ?_
            refine J_unset 7 (L' := [(33, 0), (0, ((one : Nat) : Int)), (0, ((free : Nat) : Int)), (0, (((slR D n F) : Nat) : Int)), (0, ((y : Nat) : Int)), (0, ((k : Nat) : Int)), (0, (((r + 1) : Nat) : Int)), (9, 0)]) rfl ?_
            exact ih _ _ (by rw [w1, anyN_f (by unfold slO; rw [beq_eq_false_iff_ne.mpr (by omega)]; simp)]) (by omega) (by omega)
          · exact absurd h288 (by decide)
        ·
          refine J_iconst dX7_solves_277 ?_
          refine J_goto (tgt := 282) dX7_solves_278 rfl ?_
          refine J_istore (L' := [(33, 0), (0, ((one : Nat) : Int)), (0, ((free : Nat) : Int)), (0, (((slR D n F) : Nat) : Int)), (0, ((y : Nat) : Int)), (0, ((k : Nat) : Int)), (0, ((r : Nat) : Int)), (0, 1)]) dX7_solves_282 (by decide) rfl rfl ?_
          refine J_iload dX7_solves_284 rfl ?_
          refine J_iload dX7_solves_286 rfl ?_
          refine J_if_eq (tgt := 312) dX7_solves_288 rfl (by decide) (fun h288 => ?_) (fun h288 => ?_)
          · exact absurd h288 (by decide)
          ·
            refine J_aload_n dX7_solves_291 rfl ?_
            refine J_getR dX7_solves_292 flX7_40 rfl rfl ?_
            refine J_iload dX7_solves_295 rfl ?_
            refine J_iald dX7_solves_297 rfl (by decide) (by omega) (J_top (v := ((((slT (slR D n F) free (slL D n F one free) n) r) : Nat) : Int)) (e1 r (by omega)) ?_)
            refine J_iload_n dX7_solves_298 rfl ?_
            refine J_callSiQ (cl := mX7_has) [(0, ((((slT (slR D n F) free (slL D n F one free) n) r) : Nat) : Int)), (0, ((one : Nat) : Int))] [(0, ((y : Nat) : Int))] dX7_solves_299 mlX7_132 csX7_has rfl rfl (by decide) (Nat.le_of_ble_eq_true rfl) rfl (ev_X7_has ((slT (slR D n F) free (slL D n F one free) n) r) one (slT31 (slL31 hR one free) n r (by omega)) (by omega) M2) ?_
            refine J_ifb_eq (tgt := 312) dX7_solves_302 rfl (fun h302 => ?_) (fun h302 => ?_)
            ·
              refine J_iconst dX7_solves_312 ?_
              refine J_ior dX7_solves_313 (J_top (v := ((y : Nat) : Int)) (j_or0 rfl (by rw [w1]; exact nb_or (slS31 (n := n) (by omega) (by omega) k (by omega)) (by split; exact nb_p2 (by omega); decide))) ?_)
              refine J_istore (L' := [(33, 0), (0, ((one : Nat) : Int)), (0, ((free : Nat) : Int)), (0, (((slR D n F) : Nat) : Int)), (0, ((y : Nat) : Int)), (0, ((k : Nat) : Int)), (0, ((r : Nat) : Int)), (0, 1)]) dX7_solves_314 (by decide) rfl rfl ?_
              refine J_iinc (v := (((r + 1) : Nat) : Int)) (L' := [(33, 0), (0, ((one : Nat) : Int)), (0, ((free : Nat) : Int)), (0, (((slR D n F) : Nat) : Int)), (0, ((y : Nat) : Int)), (0, ((k : Nat) : Int)), (0, (((r + 1) : Nat) : Int)), (0, 1)]) dX7_solves_316 rfl (by omega) (by decide) rfl rfl ?_
              refine J_goto (tgt := 246) dX7_solves_319 rfl ?_
              refine J_unset 7 (L' := [(33, 0), (0, ((one : Nat) : Int)), (0, ((free : Nat) : Int)), (0, (((slR D n F) : Nat) : Int)), (0, ((y : Nat) : Int)), (0, ((k : Nat) : Int)), (0, (((r + 1) : Nat) : Int)), (9, 0)]) rfl ?_
              exact ih _ _ (by rw [w1, anyN_f (by unfold slO; rw [h302]; simp)]) (by omega) (by omega)
            ·
              refine J_iconst dX7_solves_305 ?_
              refine J_iload dX7_solves_306 rfl ?_
              refine J_ishl dX7_solves_308 (J_top (v := (((2 ^ k) : Nat) : Int)) (j_shl1 rfl rfl (by omega)) ?_)
              refine J_goto (tgt := 313) dX7_solves_309 rfl ?_
              refine J_ior dX7_solves_313 (J_top (v := (((y ||| (2 ^ k)) : Nat) : Int)) (j_orN rfl rfl (by rw [w1]; exact nb_or (slS31 (n := n) (by omega) (by omega) k (by omega)) (by split; exact nb_p2 (by omega); decide)) (nb_p2 (by omega))) ?_)
              refine J_istore (L' := [(33, 0), (0, ((one : Nat) : Int)), (0, ((free : Nat) : Int)), (0, (((slR D n F) : Nat) : Int)), (0, (((y ||| (2 ^ k)) : Nat) : Int)), (0, ((k : Nat) : Int)), (0, ((r : Nat) : Int)), (0, 1)]) dX7_solves_314 (by decide) rfl rfl ?_
              refine J_iinc (v := (((r + 1) : Nat) : Int)) (L' := [(33, 0), (0, ((one : Nat) : Int)), (0, ((free : Nat) : Int)), (0, (((slR D n F) : Nat) : Int)), (0, (((y ||| (2 ^ k)) : Nat) : Int)), (0, ((k : Nat) : Int)), (0, (((r + 1) : Nat) : Int)), (0, 1)]) dX7_solves_316 rfl (by omega) (by decide) rfl rfl ?_
              refine J_goto (tgt := 246) dX7_solves_319 rfl ?_
              refine J_unset 7 (L' := [(33, 0), (0, ((one : Nat) : Int)), (0, ((free : Nat) : Int)), (0, (((slR D n F) : Nat) : Int)), (0, (((y ||| (2 ^ k)) : Nat) : Int)), (0, ((k : Nat) : Int)), (0, (((r + 1) : Nat) : Int)), (9, 0)]) rfl ?_
              exact ih _ _ (by rw [w1, anyN_t (by unfold slO; rw [h258, h302, beq_iff_eq.mpr (by omega)]; rfl)]; have := or_if (slS (slR D n F) one free (slT (slR D n F) free (slL D n F one free) n) k) k (anyN r (slO (slR D n F) one free k (slT (slR D n F) free (slL D n F one free) n))) true; simpa using this) (by omega) (by omega)
set_option maxRecDepth 100000 in
set_option maxHeartbeats 4000000 in
theorem ev_X7_solves_L164 (P D n : Nat) (F O : Nat → Nat) (M : jM) (hR : MR P D n F O M) (one free : Nat) (h1n : one < n) (hfr : free < 2 ^ n) (k : Nat) (hk : k < n) (K0 : ∀ (M4 : jM) (u1 : Ch [28, 32] M M4) (u2 : TabI M4 (slR D n F) (slT (slR D n F) free (slL D n F one free) (k + 1))), J none 3 mX7_solves 225 [(33, 0), (0, ((one : Nat) : Int)), (0, ((free : Nat) : Int)), (0, (((slR D n F) : Nat) : Int)), (0, (((2 ^ one) : Nat) : Int)), (0, ((k : Nat) : Int)), (9, 0), (9, 0)] [] M4 (j_ret mX7_solves (fun z M' => z = ((slN D n F one free : Nat) : Int) ∧ Ch [28, 32] M M'))) : ∀ (fu : Nat) (M3 : jM) (r : Nat) (q1 : Ch [28, 32] M M3) (q2 : ∀ j : Nat, j < (slR D n F) → M3 32 (j : Int) = (((if j < r then slE (slR D n F) free k (slT (slR D n F) free (slL D n F one free) k) j else (slT (slR D n F) free (slL D n F one free) k) j) : Nat) : Int)) (q3 : r ≤ (slR D n F)) (hfu : (slR D n F) - r < fu), J none 3 mX7_solves 164 [(33, 0), (0, ((one : Nat) : Int)), (0, ((free : Nat) : Int)), (0, (((slR D n F) : Nat) : Int)), (0, (((2 ^ one) : Nat) : Int)), (0, ((k : Nat) : Int)), (0, (slB (slR D n F) free k (slT (slR D n F) free (slL D n F one free) k))), (0, ((r : Nat) : Int))] [] M3 (j_ret mX7_solves (fun z M' => z = ((slN D n F one free : Nat) : Int) ∧ Ch [28, 32] M M')) := by
  intro fu
  induction fu with
  | zero => intro M3 r q1 q2 q3 hfu; exact absurd hfu (Nat.not_lt_zero _)
  | succ fu ih =>
    intro M3 r q1 q2 q3 hfu
    have hn12 := MR.hn hR
    have hP7 := MR.hP hR
    have hD5 := MR.hD hR
    have hrl := slR_le D n F
    refine J_iload dX7_solves_164 rfl ?_
    refine J_iload_n dX7_solves_166 rfl ?_
    refine J_icmp_ge (tgt := 225) dX7_solves_167 rfl (j_R (by omega)) (j_R (by have := slR_le D n F; omega)) (fun h167 => ?_) (fun h167 => ?_)
    ·
      refine J_unset 6 (L' := [(33, 0), (0, ((one : Nat) : Int)), (0, ((free : Nat) : Int)), (0, (((slR D n F) : Nat) : Int)), (0, (((2 ^ one) : Nat) : Int)), (0, ((k : Nat) : Int)), (9, 0), (0, ((r : Nat) : Int))]) rfl ?_
      refine J_unset 7 (L' := [(33, 0), (0, ((one : Nat) : Int)), (0, ((free : Nat) : Int)), (0, (((slR D n F) : Nat) : Int)), (0, (((2 ^ one) : Nat) : Int)), (0, ((k : Nat) : Int)), (9, 0), (9, 0)]) rfl ?_
      exact K0 _ (by exact q1) (by intro j hj; rw [q2 j hj]; rw [if_pos (by omega)]; rfl)
    ·
      refine J_iload dX7_solves_170 rfl ?_
      refine J_iconst dX7_solves_172 ?_
      refine J_icmp_eq (tgt := 225) dX7_solves_173 rfl (slBR _ _ _ _ (slR_le D n F)) (by decide) (fun h173 => ?_) (fun h173 => ?_)
      ·
        refine J_unset 6 (L' := [(33, 0), (0, ((one : Nat) : Int)), (0, ((free : Nat) : Int)), (0, (((slR D n F) : Nat) : Int)), (0, (((2 ^ one) : Nat) : Int)), (0, ((k : Nat) : Int)), (9, 0), (0, ((r : Nat) : Int))]) rfl ?_
        refine J_unset 7 (L' := [(33, 0), (0, ((one : Nat) : Int)), (0, ((free : Nat) : Int)), (0, (((slR D n F) : Nat) : Int)), (0, (((2 ^ one) : Nat) : Int)), (0, ((k : Nat) : Int)), (9, 0), (9, 0)]) rfl ?_
        exact K0 _ (by exact q1) (by intro j hj; rw [q2 j hj]; simp only [slT]; unfold slE; rw [if_pos h173]; split <;> rfl)
      ·
        refine J_aload_n dX7_solves_176 rfl ?_
        refine J_getR dX7_solves_177 flX7_40 rfl rfl ?_
        refine J_iload dX7_solves_180 rfl ?_
        refine J_dup2 dX7_solves_182 rfl rfl ?_
        refine J_iald dX7_solves_183 rfl (by decide) (by omega) (J_top (v := ((((slT (slR D n F) free (slL D n F one free) k) r) : Nat) : Int)) (by rw [q2 r (by omega), if_neg (by omega)]) ?_)
        refine J_iload dX7_solves_184 rfl ?_
        refine J_iload dX7_solves_186 rfl ?_
        refine J_icmp_eq (tgt := 216) dX7_solves_188 rfl (j_R (by omega)) (slBR _ _ _ _ (slR_le D n F)) (fun h188 => ?_) (fun h188 => ?_)
        ·
          refine J_iconst dX7_solves_216 ?_
          refine J_ixor dX7_solves_217 (J_top (v := ((((slT (slR D n F) free (slL D n F one free) k) r) : Nat) : Int)) (j_xor0 rfl (slT31 (slL31 hR one free) k r (by omega))) ?_)
          refine J_iast dX7_solves_218 rfl (by decide) (by omega) ?_
          refine J_iinc (v := (((r + 1) : Nat) : Int)) (L' := [(33, 0), (0, ((one : Nat) : Int)), (0, ((free : Nat) : Int)), (0, (((slR D n F) : Nat) : Int)), (0, (((2 ^ one) : Nat) : Int)), (0, ((k : Nat) : Int)), (0, (slB (slR D n F) free k (slT (slR D n F) free (slL D n F one free) k))), (0, (((r + 1) : Nat) : Int))]) dX7_solves_219 rfl (by omega) (by decide) rfl rfl ?_
          refine J_goto (tgt := 164) dX7_solves_222 rfl ?_
          exact ih _ _ (by exact Ch_up (by decide) q1) (by intro j hj; by_cases e : j = r; rw [e, j_up_eq, if_pos (by omega)]; unfold slE; rw [if_neg h173]; rw [if_neg (fun w => w.1 (by have := slB_nn h173; omega))]; rw [j_up_nz (by omega), q2 j hj]; by_cases e2 : j < r; rw [if_pos e2, if_pos (by omega)]; rw [if_neg e2, if_neg (by omega)]) (by omega) (by omega)
        ·
          refine J_aload_n dX7_solves_191 rfl ?_
          refine J_getR dX7_solves_192 flX7_40 rfl rfl ?_
          refine J_iload dX7_solves_195 rfl ?_
          refine J_iald dX7_solves_197 rfl (by decide) (by omega) (J_top (v := ((((slT (slR D n F) free (slL D n F one free) k) r) : Nat) : Int)) (by rw [q2 r (by omega), if_neg (by omega)]) ?_)
          refine J_iload dX7_solves_198 rfl ?_
          refine J_callSiQ (cl := mX7_has) [(0, ((((slT (slR D n F) free (slL D n F one free) k) r) : Nat) : Int)), (0, ((k : Nat) : Int))] [(0, ((((slT (slR D n F) free (slL D n F one free) k) r) : Nat) : Int)), (0, ((r : Nat) : Int)), (42, 0)] dX7_solves_200 mlX7_132 csX7_has rfl rfl (by decide) (Nat.le_of_ble_eq_true rfl) rfl (ev_X7_has ((slT (slR D n F) free (slL D n F one free) k) r) k (slT31 (slL31 hR one free) k r (by omega)) (by omega) M3) ?_
          refine J_ifb_eq (tgt := 216) dX7_solves_203 rfl (fun h203 => ?_) (fun h203 => ?_)
          ·
            refine J_iconst dX7_solves_216 ?_
            refine J_ixor dX7_solves_217 (J_top (v := ((((slT (slR D n F) free (slL D n F one free) k) r) : Nat) : Int)) (j_xor0 rfl (slT31 (slL31 hR one free) k r (by omega))) ?_)
            refine J_iast dX7_solves_218 rfl (by decide) (by omega) ?_
            refine J_iinc (v := (((r + 1) : Nat) : Int)) (L' := [(33, 0), (0, ((one : Nat) : Int)), (0, ((free : Nat) : Int)), (0, (((slR D n F) : Nat) : Int)), (0, (((2 ^ one) : Nat) : Int)), (0, ((k : Nat) : Int)), (0, (slB (slR D n F) free k (slT (slR D n F) free (slL D n F one free) k))), (0, (((r + 1) : Nat) : Int))]) dX7_solves_219 rfl (by omega) (by decide) rfl rfl ?_
            refine J_goto (tgt := 164) dX7_solves_222 rfl ?_
            exact ih _ _ (by exact Ch_up (by decide) q1) (by intro j hj; by_cases e : j = r; rw [e, j_up_eq, if_pos (by omega)]; unfold slE; rw [if_neg h173]; rw [if_neg (fun w => absurd w.2 (by rw [h203]; decide))]; rw [j_up_nz (by omega), q2 j hj]; by_cases e2 : j < r; rw [if_pos e2, if_pos (by omega)]; rw [if_neg e2, if_neg (by omega)]) (by omega) (by omega)
          ·
            refine J_aload_n dX7_solves_206 rfl ?_
            refine J_getR dX7_solves_207 flX7_40 rfl rfl ?_
            refine J_iload dX7_solves_210 rfl (J_top (v := (((slB (slR D n F) free k (slT (slR D n F) free (slL D n F one free) k)).toNat : Nat) : Int)) (by have := slB_nn h173; omega) ?_)
            refine J_iald dX7_solves_212 rfl (by decide) (by have := slB_lt h173; have := slR_le D n F; omega) (J_top (v := ((((slT (slR D n F) free (slL D n F one free) k) (slB (slR D n F) free k (slT (slR D n F) free (slL D n F one free) k)).toNat) : Nat) : Int)) (by rw [q2 _ (slB_lt h173)]; split; unfold slE; rw [if_neg h173, if_neg (by omega)]; rfl) ?_)
            refine J_goto (tgt := 217) dX7_solves_213 rfl ?_
            refine J_ixor dX7_solves_217 (J_top (v := (((((slT (slR D n F) free (slL D n F one free) k) r) ^^^ ((slT (slR D n F) free (slL D n F one free) k) (slB (slR D n F) free k (slT (slR D n F) free (slL D n F one free) k)).toNat)) : Nat) : Int)) (j_xorN rfl rfl (slT31 (slL31 hR one free) k r (by omega)) (slT31 (slL31 hR one free) k _ (slB_lt h173))) ?_)
            refine J_iast dX7_solves_218 rfl (by decide) (by omega) ?_
            refine J_iinc (v := (((r + 1) : Nat) : Int)) (L' := [(33, 0), (0, ((one : Nat) : Int)), (0, ((free : Nat) : Int)), (0, (((slR D n F) : Nat) : Int)), (0, (((2 ^ one) : Nat) : Int)), (0, ((k : Nat) : Int)), (0, (slB (slR D n F) free k (slT (slR D n F) free (slL D n F one free) k))), (0, (((r + 1) : Nat) : Int))]) dX7_solves_219 rfl (by omega) (by decide) rfl rfl ?_
            refine J_goto (tgt := 164) dX7_solves_222 rfl ?_
            exact ih _ _ (by exact Ch_up (by decide) q1) (by intro j hj; by_cases e : j = r; rw [e, j_up_eq, if_pos (by omega)]; unfold slE; rw [if_neg h173]; rw [if_pos ⟨by have := slB_nn h173; omega, h203⟩]; rw [j_up_nz (by omega), q2 j hj]; by_cases e2 : j < r; rw [if_pos e2, if_pos (by omega)]; rw [if_neg e2, if_neg (by omega)]) (by omega) (by omega)
set_option maxRecDepth 100000 in
set_option maxHeartbeats 4000000 in
theorem ev_X7_solves_L91 (P D n : Nat) (F O : Nat → Nat) (M : jM) (hR : MR P D n F O M) (one free : Nat) (h1n : one < n) (hfr : free < 2 ^ n) (M2 : jM) (f1 : Ch [28, 32] M M2) (k : Nat) (hk : k < n) (g1 : TabI M2 (slR D n F) (slT (slR D n F) free (slL D n F one free) k)) (K0 : J none 3 mX7_solves 161 [(33, 0), (0, ((one : Nat) : Int)), (0, ((free : Nat) : Int)), (0, (((slR D n F) : Nat) : Int)), (0, (((2 ^ one) : Nat) : Int)), (0, ((k : Nat) : Int)), (0, (slB (slR D n F) free k (slT (slR D n F) free (slL D n F one free) k))), (9, 0)] [] M2 (j_ret mX7_solves (fun z M' => z = ((slN D n F one free : Nat) : Int) ∧ Ch [28, 32] M M'))) : ∀ (fu : Nat) (b : Int) (r : Nat) (g2 : (b = -1 ∧ anyN r (slP free k (slT (slR D n F) free (slL D n F one free) k)) = false) ∨ ∃ c : Nat, b = (c : Int) ∧ c < r ∧ slP free k (slT (slR D n F) free (slL D n F one free) k) c = true ∧ anyN c (slP free k (slT (slR D n F) free (slL D n F one free) k)) = false) (g4 : r ≤ (slR D n F)) (hfu : (slR D n F) - r < fu), J none 3 mX7_solves 91 [(33, 0), (0, ((one : Nat) : Int)), (0, ((free : Nat) : Int)), (0, (((slR D n F) : Nat) : Int)), (0, (((2 ^ one) : Nat) : Int)), (0, ((k : Nat) : Int)), (0, b), (0, ((r : Nat) : Int))] [] M2 (j_ret mX7_solves (fun z M' => z = ((slN D n F one free : Nat) : Int) ∧ Ch [28, 32] M M')) := by
  intro fu
  induction fu with
  | zero => intro b r g2 g4 hfu; exact absurd hfu (Nat.not_lt_zero _)
  | succ fu ih =>
    intro b r g2 g4 hfu
    have hn12 := MR.hn hR
    have hP7 := MR.hP hR
    have hD5 := MR.hD hR
    have hrl := slR_le D n F
    refine J_iload dX7_solves_91 rfl ?_
    refine J_iload_n dX7_solves_93 rfl ?_
    refine J_icmp_ge (tgt := 161) dX7_solves_94 rfl (j_R (by omega)) (j_R (by have := slR_le D n F; omega)) (fun h94 => ?_) (fun h94 => ?_)
    ·
      refine J_eq (L' := [(33, 0), (0, ((one : Nat) : Int)), (0, ((free : Nat) : Int)), (0, (((slR D n F) : Nat) : Int)), (0, (((2 ^ one) : Nat) : Int)), (0, ((k : Nat) : Int)), (0, (slB (slR D n F) free k (slT (slR D n F) free (slL D n F one free) k))), (0, ((r : Nat) : Int))]) (by rw [show b = slB (slR D n F) free k (slT (slR D n F) free (slL D n F one free) k) from sl_eq1 g2 (by omega)]) rfl rfl ?_
      refine J_unset 7 (L' := [(33, 0), (0, ((one : Nat) : Int)), (0, ((free : Nat) : Int)), (0, (((slR D n F) : Nat) : Int)), (0, (((2 ^ one) : Nat) : Int)), (0, ((k : Nat) : Int)), (0, (slB (slR D n F) free k (slT (slR D n F) free (slL D n F one free) k))), (9, 0)]) rfl ?_
      exact K0  
    ·
      refine J_iload_n dX7_solves_97 rfl ?_
      refine J_iload dX7_solves_98 rfl ?_
      refine J_callSiQ (cl := mX7_has) [(0, ((free : Nat) : Int)), (0, ((k : Nat) : Int))] [] dX7_solves_100 mlX7_132 csX7_has rfl rfl (by decide) (Nat.le_of_ble_eq_true rfl) rfl (ev_X7_has free k (p12 hn12 hfr) (by omega) M2) ?_
      refine J_ifb_eq (tgt := 161) dX7_solves_103 rfl (fun h103 => ?_) (fun h103 => ?_)
      ·
        refine J_eq (L' := [(33, 0), (0, ((one : Nat) : Int)), (0, ((free : Nat) : Int)), (0, (((slR D n F) : Nat) : Int)), (0, (((2 ^ one) : Nat) : Int)), (0, ((k : Nat) : Int)), (0, (slB (slR D n F) free k (slT (slR D n F) free (slL D n F one free) k))), (0, ((r : Nat) : Int))]) (by rw [show b = slB (slR D n F) free k (slT (slR D n F) free (slL D n F one free) k) from sl_eq2 g2 h103]) rfl rfl ?_
        refine J_unset 7 (L' := [(33, 0), (0, ((one : Nat) : Int)), (0, ((free : Nat) : Int)), (0, (((slR D n F) : Nat) : Int)), (0, (((2 ^ one) : Nat) : Int)), (0, ((k : Nat) : Int)), (0, (slB (slR D n F) free k (slT (slR D n F) free (slL D n F one free) k))), (9, 0)]) rfl ?_
        exact K0  
      ·
        refine J_iload dX7_solves_106 rfl ?_
        refine J_iconst dX7_solves_108 ?_
        refine J_icmp_ne (tgt := 161) dX7_solves_109 rfl (by rcases g2 with ⟨w1, w2⟩ | ⟨c, w1, w2, w3⟩ <;> omega) (by decide) (fun h109 => ?_) (fun h109 => ?_)
        ·
          refine J_eq (L' := [(33, 0), (0, ((one : Nat) : Int)), (0, ((free : Nat) : Int)), (0, (((slR D n F) : Nat) : Int)), (0, (((2 ^ one) : Nat) : Int)), (0, ((k : Nat) : Int)), (0, (slB (slR D n F) free k (slT (slR D n F) free (slL D n F one free) k))), (0, ((r : Nat) : Int))]) (by rw [show b = slB (slR D n F) free k (slT (slR D n F) free (slL D n F one free) k) from sl_eq3 g2 (by omega) g4]) rfl rfl ?_
          refine J_unset 7 (L' := [(33, 0), (0, ((one : Nat) : Int)), (0, ((free : Nat) : Int)), (0, (((slR D n F) : Nat) : Int)), (0, (((2 ^ one) : Nat) : Int)), (0, ((k : Nat) : Int)), (0, (slB (slR D n F) free k (slT (slR D n F) free (slL D n F one free) k))), (9, 0)]) rfl ?_
          exact K0  
        ·
          refine J_aload_n dX7_solves_112 rfl ?_
          refine J_getR dX7_solves_113 flX7_40 rfl rfl ?_
          refine J_iload dX7_solves_116 rfl ?_
          refine J_iald dX7_solves_118 rfl (by decide) (by omega) (J_top (v := ((((slT (slR D n F) free (slL D n F one free) k) r) : Nat) : Int)) (g1 r (by omega)) ?_)
          refine J_iload dX7_solves_119 rfl ?_
          refine J_callSiQ (cl := mX7_has) [(0, ((((slT (slR D n F) free (slL D n F one free) k) r) : Nat) : Int)), (0, ((k : Nat) : Int))] [] dX7_solves_121 mlX7_132 csX7_has rfl rfl (by decide) (Nat.le_of_ble_eq_true rfl) rfl (ev_X7_has ((slT (slR D n F) free (slL D n F one free) k) r) k (slT31 (slL31 hR one free) k r (by omega)) (by omega) M2) ?_
          refine J_ifb_eq (tgt := 151) dX7_solves_124 rfl (fun h124 => ?_) (fun h124 => ?_)
          ·
            refine J_iload dX7_solves_151 rfl ?_
            refine J_istore (L' := [(33, 0), (0, ((one : Nat) : Int)), (0, ((free : Nat) : Int)), (0, (((slR D n F) : Nat) : Int)), (0, (((2 ^ one) : Nat) : Int)), (0, ((k : Nat) : Int)), (0, b), (0, ((r : Nat) : Int))]) dX7_solves_153 (by decide) rfl rfl ?_
            refine J_iinc (v := (((r + 1) : Nat) : Int)) (L' := [(33, 0), (0, ((one : Nat) : Int)), (0, ((free : Nat) : Int)), (0, (((slR D n F) : Nat) : Int)), (0, (((2 ^ one) : Nat) : Int)), (0, ((k : Nat) : Int)), (0, b), (0, (((r + 1) : Nat) : Int))]) dX7_solves_155 rfl (by omega) (by decide) rfl rfl ?_
            refine J_goto (tgt := 91) dX7_solves_158 rfl ?_
            exact ih _ _ (by have hb : anyN r (slP free k (slT (slR D n F) free (slL D n F one free) k)) = false := (by rcases g2 with ⟨w1, w2⟩ | ⟨c, w1, w2, w3⟩; exact w2; omega); exact Or.inl ⟨by omega, by rw [anyN_f (by unfold slP; rw [h124]; simp), hb]⟩) (by omega) (by omega)
          ·
            refine J_aload_n dX7_solves_127 rfl ?_
            refine J_getR dX7_solves_128 flX7_40 rfl rfl ?_
            refine J_iload dX7_solves_131 rfl ?_
            refine J_iald dX7_solves_133 rfl (by decide) (by omega) (J_top (v := ((((slT (slR D n F) free (slL D n F one free) k) r) : Nat) : Int)) (g1 r (by omega)) ?_)
            refine J_iload_n dX7_solves_134 rfl ?_
            refine J_iand dX7_solves_135 (J_top (v := (((((slT (slR D n F) free (slL D n F one free) k) r) &&& free) : Nat) : Int)) (j_andN rfl rfl (slT31 (slL31 hR one free) k r (by omega)) (p12 hn12 hfr)) ?_)
            refine J_iconst dX7_solves_136 ?_
            refine J_iload dX7_solves_137 rfl ?_
            refine J_ishl dX7_solves_139 (J_top (v := (((2 ^ k) : Nat) : Int)) (j_shl1 rfl rfl (by omega)) ?_)
            refine J_iconst dX7_solves_140 ?_
            refine J_isub dX7_solves_141 (J_top (v := (((2 ^ k - 1) : Nat) : Int)) (by have := Nat.two_pow_pos k; omega) ?_)
            refine J_iand dX7_solves_142 (J_top (v := ((((((slT (slR D n F) free (slL D n F one free) k) r) &&& free) &&& (2 ^ k - 1)) : Nat) : Int)) (j_andN rfl rfl (nb_and (slT31 (slL31 hR one free) k r (by omega))) (by have := nb_p2 (p := k) (by omega); omega)) ?_)
            refine J_if_ne (tgt := 151) dX7_solves_143 rfl (j_R (nb_and (nb_and (slT31 (slL31 hR one free) k r (by omega))))) (fun h143 => ?_) (fun h143 => ?_)
            ·
              refine J_iload dX7_solves_151 rfl ?_
              refine J_istore (L' := [(33, 0), (0, ((one : Nat) : Int)), (0, ((free : Nat) : Int)), (0, (((slR D n F) : Nat) : Int)), (0, (((2 ^ one) : Nat) : Int)), (0, ((k : Nat) : Int)), (0, b), (0, ((r : Nat) : Int))]) dX7_solves_153 (by decide) rfl rfl ?_
              refine J_iinc (v := (((r + 1) : Nat) : Int)) (L' := [(33, 0), (0, ((one : Nat) : Int)), (0, ((free : Nat) : Int)), (0, (((slR D n F) : Nat) : Int)), (0, (((2 ^ one) : Nat) : Int)), (0, ((k : Nat) : Int)), (0, b), (0, (((r + 1) : Nat) : Int))]) dX7_solves_155 rfl (by omega) (by decide) rfl rfl ?_
              refine J_goto (tgt := 91) dX7_solves_158 rfl ?_
              exact ih _ _ (by have hb : anyN r (slP free k (slT (slR D n F) free (slL D n F one free) k)) = false := (by rcases g2 with ⟨w1, w2⟩ | ⟨c, w1, w2, w3⟩; exact w2; omega); exact Or.inl ⟨by omega, by rw [anyN_f (by unfold slP; rw [beq_eq_false_iff_ne.mpr (by omega)]; simp), hb]⟩) (by omega) (by omega)
            ·
              refine J_iload dX7_solves_146 rfl ?_
              refine J_goto (tgt := 153) dX7_solves_148 rfl ?_
              refine J_istore (L' := [(33, 0), (0, ((one : Nat) : Int)), (0, ((free : Nat) : Int)), (0, (((slR D n F) : Nat) : Int)), (0, (((2 ^ one) : Nat) : Int)), (0, ((k : Nat) : Int)), (0, ((r : Nat) : Int)), (0, ((r : Nat) : Int))]) dX7_solves_153 (by decide) rfl rfl ?_
              refine J_iinc (v := (((r + 1) : Nat) : Int)) (L' := [(33, 0), (0, ((one : Nat) : Int)), (0, ((free : Nat) : Int)), (0, (((slR D n F) : Nat) : Int)), (0, (((2 ^ one) : Nat) : Int)), (0, ((k : Nat) : Int)), (0, ((r : Nat) : Int)), (0, (((r + 1) : Nat) : Int))]) dX7_solves_155 rfl (by omega) (by decide) rfl rfl ?_
              refine J_goto (tgt := 91) dX7_solves_158 rfl ?_
              exact ih _ _ (by have hb : anyN r (slP free k (slT (slR D n F) free (slL D n F one free) k)) = false := (by rcases g2 with ⟨w1, w2⟩ | ⟨c, w1, w2, w3⟩; exact w2; omega); exact Or.inr ⟨r, rfl, by omega, by unfold slP; rw [h103, h124, beq_iff_eq.mpr (by omega)]; rfl, hb⟩) (by omega) (by omega)
set_option maxRecDepth 100000 in
set_option maxHeartbeats 4000000 in
theorem ev_X7_solves_L234 (P D n : Nat) (F O : Nat → Nat) (M : jM) (hR : MR P D n F O M) (one free : Nat) (h1n : one < n) (hfr : free < 2 ^ n) (M2 : jM) (f1 : Ch [28, 32] M M2) (e1 : TabI M2 (slR D n F) (slT (slR D n F) free (slL D n F one free) n)) : ∀ (fu : Nat) (k : Nat) (e2 : k ≤ n) (hfu : n - k < fu), J none 3 mX7_solves 234 [(33, 0), (0, ((one : Nat) : Int)), (0, ((free : Nat) : Int)), (0, (((slR D n F) : Nat) : Int)), (0, (((slS (slR D n F) one free (slT (slR D n F) free (slL D n F one free) n) k) : Nat) : Int)), (0, ((k : Nat) : Int)), (9, 0), (9, 0)] [] M2 (j_ret mX7_solves (fun z M' => z = ((slN D n F one free : Nat) : Int) ∧ Ch [28, 32] M M')) := by
  intro fu
  induction fu with
  | zero => intro k e2 hfu; exact absurd hfu (Nat.not_lt_zero _)
  | succ fu ih =>
    intro k e2 hfu
    have hn12 := MR.hn hR
    have hP7 := MR.hP hR
    have hD5 := MR.hD hR
    have hrl := slR_le D n F
    refine J_iload dX7_solves_234 rfl ?_
    refine J_aload_n dX7_solves_236 rfl ?_
    refine J_getI dX7_solves_237 flX7_176 rfl rfl (J_top (v := ((n : Nat) : Int)) (MR.gn (mr_ch f1 (by decide) (by decide) (by decide) hR)) ?_)
    refine J_icmp_ge (tgt := 328) dX7_solves_240 rfl (j_R (by omega)) (j_R (by omega)) (fun h240 => ?_) (fun h240 => ?_)
    ·
      refine J_iload dX7_solves_328 rfl ?_
      refine J_ireturn dX7_solves_330 rfl ?_
      exact ⟨by rw [show k = n by omega]; rfl, f1⟩
    ·
      refine J_iconst dX7_solves_243 ?_
      refine J_istore (L' := [(33, 0), (0, ((one : Nat) : Int)), (0, ((free : Nat) : Int)), (0, (((slR D n F) : Nat) : Int)), (0, (((slS (slR D n F) one free (slT (slR D n F) free (slL D n F one free) n) k) : Nat) : Int)), (0, ((k : Nat) : Int)), (0, 0), (9, 0)]) dX7_solves_244 (by decide) rfl rfl ?_
      refine J_eq (L' := [(33, 0), (0, ((one : Nat) : Int)), (0, ((free : Nat) : Int)), (0, (((slR D n F) : Nat) : Int)), (0, (((slS (slR D n F) one free (slT (slR D n F) free (slL D n F one free) n) k) : Nat) : Int)), (0, ((k : Nat) : Int)), (0, ((0 : Nat) : Int)), (9, 0)]) rfl rfl rfl ?_
      refine ev_X7_solves_L246 P D n F O M hR one free h1n hfr M2 f1 e1 k (by omega) ?_ _ _ _ (by simp [anyN]) (by omega) (Nat.lt_succ_self _)
      ·
        refine J_iinc (v := (((k + 1) : Nat) : Int)) (L' := [(33, 0), (0, ((one : Nat) : Int)), (0, ((free : Nat) : Int)), (0, (((slR D n F) : Nat) : Int)), (0, (((slS (slR D n F) one free (slT (slR D n F) free (slL D n F one free) n) (k + 1)) : Nat) : Int)), (0, (((k + 1) : Nat) : Int)), (9, 0), (9, 0)]) dX7_solves_322 rfl (by omega) (by decide) rfl rfl ?_
        refine J_goto (tgt := 234) dX7_solves_325 rfl ?_
        exact ih _ (by omega) (by omega)
set_option maxRecDepth 100000 in
set_option maxHeartbeats 4000000 in
theorem ev_X7_solves_L76 (P D n : Nat) (F O : Nat → Nat) (M : jM) (hR : MR P D n F O M) (one free : Nat) (h1n : one < n) (hfr : free < 2 ^ n)  : ∀ (fu : Nat) (M2 : jM) (k : Nat) (f1 : Ch [28, 32] M M2) (g1 : TabI M2 (slR D n F) (slT (slR D n F) free (slL D n F one free) k)) (g3 : k ≤ n) (hfu : n - k < fu), J none 3 mX7_solves 76 [(33, 0), (0, ((one : Nat) : Int)), (0, ((free : Nat) : Int)), (0, (((slR D n F) : Nat) : Int)), (0, (((2 ^ one) : Nat) : Int)), (0, ((k : Nat) : Int)), (9, 0), (9, 0)] [] M2 (j_ret mX7_solves (fun z M' => z = ((slN D n F one free : Nat) : Int) ∧ Ch [28, 32] M M')) := by
  intro fu
  induction fu with
  | zero => intro M2 k f1 g1 g3 hfu; exact absurd hfu (Nat.not_lt_zero _)
  | succ fu ih =>
    intro M2 k f1 g1 g3 hfu
    have hn12 := MR.hn hR
    have hP7 := MR.hP hR
    have hD5 := MR.hD hR
    have hrl := slR_le D n F
    refine J_iload dX7_solves_76 rfl ?_
    refine J_aload_n dX7_solves_78 rfl ?_
    refine J_getI dX7_solves_79 flX7_176 rfl rfl (J_top (v := ((n : Nat) : Int)) (MR.gn (mr_ch f1 (by decide) (by decide) (by decide) hR)) ?_)
    refine J_icmp_ge (tgt := 231) dX7_solves_82 rfl (j_R (by omega)) (j_R (by omega)) (fun h82 => ?_) (fun h82 => ?_)
    ·
      refine J_iconst dX7_solves_231 ?_
      refine J_istore (L' := [(33, 0), (0, ((one : Nat) : Int)), (0, ((free : Nat) : Int)), (0, (((slR D n F) : Nat) : Int)), (0, (((2 ^ one) : Nat) : Int)), (0, 0), (9, 0), (9, 0)]) dX7_solves_232 (by decide) rfl rfl ?_
      refine J_eq (L' := [(33, 0), (0, ((one : Nat) : Int)), (0, ((free : Nat) : Int)), (0, (((slR D n F) : Nat) : Int)), (0, (((2 ^ one) : Nat) : Int)), (0, ((0 : Nat) : Int)), (9, 0), (9, 0)]) rfl rfl rfl ?_
      exact ev_X7_solves_L234 P D n F O M hR one free h1n hfr M2 f1 (by rw [show k = n by omega] at g1; exact g1) _ _ (by omega) (Nat.lt_succ_self _)
    ·
      refine J_iconst dX7_solves_85 ?_
      refine J_istore (L' := [(33, 0), (0, ((one : Nat) : Int)), (0, ((free : Nat) : Int)), (0, (((slR D n F) : Nat) : Int)), (0, (((2 ^ one) : Nat) : Int)), (0, ((k : Nat) : Int)), (0, (-1)), (9, 0)]) dX7_solves_86 (by decide) rfl rfl ?_
      refine J_iconst dX7_solves_88 ?_
      refine J_istore (L' := [(33, 0), (0, ((one : Nat) : Int)), (0, ((free : Nat) : Int)), (0, (((slR D n F) : Nat) : Int)), (0, (((2 ^ one) : Nat) : Int)), (0, ((k : Nat) : Int)), (0, (-1)), (0, 0)]) dX7_solves_89 (by decide) rfl rfl ?_
      refine J_eq (L' := [(33, 0), (0, ((one : Nat) : Int)), (0, ((free : Nat) : Int)), (0, (((slR D n F) : Nat) : Int)), (0, (((2 ^ one) : Nat) : Int)), (0, ((k : Nat) : Int)), (0, (-1)), (0, ((0 : Nat) : Int))]) rfl rfl rfl ?_
      refine ev_X7_solves_L91 P D n F O M hR one free h1n hfr M2 f1 k (by omega) g1 ?_ _ _ _ (by exact Or.inl ⟨rfl, rfl⟩) (by omega) (Nat.lt_succ_self _)
      ·
        refine J_iconst dX7_solves_161 ?_
        refine J_istore (L' := [(33, 0), (0, ((one : Nat) : Int)), (0, ((free : Nat) : Int)), (0, (((slR D n F) : Nat) : Int)), (0, (((2 ^ one) : Nat) : Int)), (0, ((k : Nat) : Int)), (0, (slB (slR D n F) free k (slT (slR D n F) free (slL D n F one free) k))), (0, 0)]) dX7_solves_162 (by decide) rfl rfl ?_
        refine J_eq (L' := [(33, 0), (0, ((one : Nat) : Int)), (0, ((free : Nat) : Int)), (0, (((slR D n F) : Nat) : Int)), (0, (((2 ^ one) : Nat) : Int)), (0, ((k : Nat) : Int)), (0, (slB (slR D n F) free k (slT (slR D n F) free (slL D n F one free) k))), (0, ((0 : Nat) : Int))]) rfl rfl rfl ?_
        refine ev_X7_solves_L164 P D n F O M hR one free h1n hfr k (by omega) (fun M4 u1 u2 => ?_) _ _ _ (by exact f1) (by intro j hj; rw [if_neg (by omega)]; exact g1 j hj) (by omega) (Nat.lt_succ_self _)
        ·
          refine J_iinc (v := (((k + 1) : Nat) : Int)) (L' := [(33, 0), (0, ((one : Nat) : Int)), (0, ((free : Nat) : Int)), (0, (((slR D n F) : Nat) : Int)), (0, (((2 ^ one) : Nat) : Int)), (0, (((k + 1) : Nat) : Int)), (9, 0), (9, 0)]) dX7_solves_225 rfl (by omega) (by decide) rfl rfl ?_
          refine J_goto (tgt := 76) dX7_solves_228 rfl ?_
          exact ih _ _ (by exact u1) (by exact u2) (by omega) (by omega)
set_option maxRecDepth 100000 in
set_option maxHeartbeats 4000000 in
theorem ev_X7_solves_L9 (P D n : Nat) (F O : Nat → Nat) (M : jM) (hR : MR P D n F O M) (one free : Nat) (h1n : one < n) (hfr : free < 2 ^ n)  : ∀ (fu : Nat) (M2 : jM) (s : Nat) (f1 : Ch [28, 32] M M2) (f2 : IA M2 (isF n F)) (f3 : ∀ j : Nat, j < cntN s (alQ (isF n F) D) → M2 32 (j : Int) = ((lyg n F (nthN s (alQ (isF n F) D) (j : Int)).toNat &&& (free ||| 2 ^ one) : Nat) : Int)) (f4 : s ≤ 128) (hfu : 128 - s < fu), J none 3 mX7_solves 9 [(33, 0), (0, ((one : Nat) : Int)), (0, ((free : Nat) : Int)), (0, (((cntN s (alQ (isF n F) D)) : Nat) : Int)), (0, ((s : Nat) : Int)), (9, 0), (9, 0), (9, 0)] [] M2 (j_ret mX7_solves (fun z M' => z = ((slN D n F one free : Nat) : Int) ∧ Ch [28, 32] M M')) := by
  intro fu
  induction fu with
  | zero => intro M2 s f1 f2 f3 f4 hfu; exact absurd hfu (Nat.not_lt_zero _)
  | succ fu ih =>
    intro M2 s f1 f2 f3 f4 hfu
    have hn12 := MR.hn hR
    have hP7 := MR.hP hR
    have hD5 := MR.hD hR
    have hrl := slR_le D n F
    refine J_iload dX7_solves_9 rfl ?_
    refine J_sipush dX7_solves_11 (by decide) ?_
    refine J_icmp_ge (tgt := 68) dX7_solves_14 rfl (j_R (by omega)) (by decide) (fun h14 => ?_) (fun h14 => ?_)
    ·
      refine J_eq (L' := [(33, 0), (0, ((one : Nat) : Int)), (0, ((free : Nat) : Int)), (0, (((slR D n F) : Nat) : Int)), (0, ((s : Nat) : Int)), (9, 0), (9, 0), (9, 0)]) (by rw [show s = 128 by omega]; rfl) rfl rfl ?_
      refine J_iconst dX7_solves_68 ?_
      refine J_iload_n dX7_solves_69 rfl ?_
      refine J_ishl dX7_solves_70 (J_top (v := (((2 ^ one) : Nat) : Int)) (j_shl1 rfl rfl (by omega)) ?_)
      refine J_istore (L' := [(33, 0), (0, ((one : Nat) : Int)), (0, ((free : Nat) : Int)), (0, (((slR D n F) : Nat) : Int)), (0, (((2 ^ one) : Nat) : Int)), (9, 0), (9, 0), (9, 0)]) dX7_solves_71 (by decide) rfl rfl ?_
      refine J_iconst dX7_solves_73 ?_
      refine J_istore (L' := [(33, 0), (0, ((one : Nat) : Int)), (0, ((free : Nat) : Int)), (0, (((slR D n F) : Nat) : Int)), (0, (((2 ^ one) : Nat) : Int)), (0, 0), (9, 0), (9, 0)]) dX7_solves_74 (by decide) rfl rfl ?_
      refine J_eq (L' := [(33, 0), (0, ((one : Nat) : Int)), (0, ((free : Nat) : Int)), (0, (((slR D n F) : Nat) : Int)), (0, (((2 ^ one) : Nat) : Int)), (0, ((0 : Nat) : Int)), (9, 0), (9, 0)]) rfl rfl rfl ?_
      exact ev_X7_solves_L76 P D n F O M hR one free h1n hfr  _ _ _ (by exact f1) (by rw [show s = 128 by omega] at f3; exact f3) (by omega) (Nat.lt_succ_self _)
    ·
      refine J_aload_n dX7_solves_17 rfl ?_
      refine J_getR dX7_solves_18 flX7_26 rfl rfl ?_
      refine J_iload dX7_solves_21 rfl ?_
      refine J_bald dX7_solves_23 rfl (by decide) (by omega) (J_top (v := ((Bool.toNat (isF n F s) : Nat) : Int)) (f2 s (by omega)) ?_)
      refine J_ifb_eq (tgt := 62) dX7_solves_24 rfl (fun h24 => ?_) (fun h24 => ?_)
      ·
        refine J_eq (L' := [(33, 0), (0, ((one : Nat) : Int)), (0, ((free : Nat) : Int)), (0, (((cntN (s + 1) (alQ (isF n F) D)) : Nat) : Int)), (0, ((s : Nat) : Int)), (9, 0), (9, 0), (9, 0)]) (by rw [cntN_f (k := s) (by simp [alQ, h24])]) rfl rfl ?_
        refine J_iinc (v := (((s + 1) : Nat) : Int)) (L' := [(33, 0), (0, ((one : Nat) : Int)), (0, ((free : Nat) : Int)), (0, (((cntN (s + 1) (alQ (isF n F) D)) : Nat) : Int)), (0, (((s + 1) : Nat) : Int)), (9, 0), (9, 0), (9, 0)]) dX7_solves_62 rfl (by omega) (by decide) rfl rfl ?_
        refine J_goto (tgt := 9) dX7_solves_65 rfl ?_
        exact ih _ _ (by exact f1) (by exact f2) (by intro j hj; rw [cntN_f (k := s) (by simp [alQ, h24])] at hj; rw [f3 j hj, nthN_stay (m := s) (n := s + 1) (by have := nthN_ge hj; omega) (by omega)]) (by omega) (by omega)
      ·
        refine J_iload dX7_solves_27 rfl ?_
        refine J_callSiQ (cl := mX7_many) [(0, ((s : Nat) : Int))] [] dX7_solves_29 mlX7_136 csX7_many rfl rfl (by decide) (Nat.le_of_ble_eq_true rfl) rfl (ev_X7_many s (by omega) M2) ?_
        refine J_aload_n dX7_solves_32 rfl ?_
        refine J_getI dX7_solves_33 flX7_173 rfl rfl (J_top (v := ((D : Nat) : Int)) (MR.gD (mr_ch f1 (by decide) (by decide) (by decide) hR)) ?_)
        refine J_iconst dX7_solves_36 ?_
        refine J_isub dX7_solves_37 ?_
        refine J_icmp_ne (tgt := 62) dX7_solves_38 rfl (j_R (popc_lt (by omega))) (by omega) (fun h38 => ?_) (fun h38 => ?_)
        ·
          refine J_eq (L' := [(33, 0), (0, ((one : Nat) : Int)), (0, ((free : Nat) : Int)), (0, (((cntN (s + 1) (alQ (isF n F) D)) : Nat) : Int)), (0, ((s : Nat) : Int)), (9, 0), (9, 0), (9, 0)]) (by rw [cntN_f (k := s) (by simp [alQ]; intro _; omega)]) rfl rfl ?_
          refine J_iinc (v := (((s + 1) : Nat) : Int)) (L' := [(33, 0), (0, ((one : Nat) : Int)), (0, ((free : Nat) : Int)), (0, (((cntN (s + 1) (alQ (isF n F) D)) : Nat) : Int)), (0, (((s + 1) : Nat) : Int)), (9, 0), (9, 0), (9, 0)]) dX7_solves_62 rfl (by omega) (by decide) rfl rfl ?_
          refine J_goto (tgt := 9) dX7_solves_65 rfl ?_
          exact ih _ _ (by exact f1) (by exact f2) (by intro j hj; rw [cntN_f (k := s) (by simp [alQ]; intro _; omega)] at hj; rw [f3 j hj, nthN_stay (m := s) (n := s + 1) (by have := nthN_ge hj; omega) (by omega)]) (by omega) (by omega)
        ·
          refine J_aload_n dX7_solves_41 rfl ?_
          refine J_getR dX7_solves_42 flX7_40 rfl rfl ?_
          refine J_iload_n dX7_solves_45 rfl ?_
          refine J_aload_n dX7_solves_46 rfl ?_
          refine J_iload dX7_solves_47 rfl ?_
          refine J_callViQ (cl := mX7_withinOf) [(0, ((s : Nat) : Int))] [(0, (((cntN s (alQ (isF n F) D)) : Nat) : Int)), (42, 0)] dX7_solves_49 mlX7_237 cvX7_withinOf rfl rfl rfl rfl rfl (by decide) (Nat.le_of_ble_eq_true rfl) rfl (ev_X7_withinOf P D n F O M2 (mr_ch f1 (by decide) (by decide) (by decide) hR) s (by omega)) ?_
          refine J_iload_n dX7_solves_52 rfl ?_
          refine J_iconst dX7_solves_53 ?_
          refine J_iload_n dX7_solves_54 rfl ?_
          refine J_ishl dX7_solves_55 (J_top (v := (((2 ^ one) : Nat) : Int)) (j_shl1 rfl rfl (by omega)) ?_)
          refine J_ior dX7_solves_56 (J_top (v := (((free ||| (2 ^ one)) : Nat) : Int)) (j_orN rfl rfl (p12 hn12 hfr) (nb_p2 (by omega))) ?_)
          refine J_iand dX7_solves_57 (J_top (v := ((((lyg n F s) &&& (free ||| (2 ^ one))) : Nat) : Int)) (j_andN rfl rfl (ly31 (mr_ch f1 (by decide) (by decide) (by decide) hR) _) (nb_or (p12 hn12 hfr) (nb_p2 (by omega)))) ?_)
          refine J_iast dX7_solves_58 rfl (by decide) (by have := cntN_le s (alQ (isF n F) D); omega) ?_
          refine J_iinc (v := (((cntN (s + 1) (alQ (isF n F) D)) : Nat) : Int)) (L' := [(33, 0), (0, ((one : Nat) : Int)), (0, ((free : Nat) : Int)), (0, (((cntN (s + 1) (alQ (isF n F) D)) : Nat) : Int)), (0, ((s : Nat) : Int)), (9, 0), (9, 0), (9, 0)]) dX7_solves_59 rfl (by rw [cntN_t (k := s) (by simp [alQ, h24]; omega)]; omega) (by decide) rfl rfl ?_
          refine J_iinc (v := (((s + 1) : Nat) : Int)) (L' := [(33, 0), (0, ((one : Nat) : Int)), (0, ((free : Nat) : Int)), (0, (((cntN (s + 1) (alQ (isF n F) D)) : Nat) : Int)), (0, (((s + 1) : Nat) : Int)), (9, 0), (9, 0), (9, 0)]) dX7_solves_62 rfl (by omega) (by decide) rfl rfl ?_
          refine J_goto (tgt := 9) dX7_solves_65 rfl ?_
          exact ih _ _ (by exact Ch_up (by decide) f1) (by exact ia_upA (by decide) f2) (by have hq : (alQ (isF n F) D) s = true := (by simp [alQ, h24]; omega); intro j hj; rw [cntN_t hq] at hj; by_cases e : j = cntN s (alQ (isF n F) D); rw [e, j_up_eq, nthN_hit hq rfl (by omega), Int.toNat_natCast]; rw [j_up_nz (by omega), f3 j (by omega), nthN_stay (m := s) (n := s + 1) (by have := nthN_ge (p := (alQ (isF n F) D)) (n := s) (i := j) (by omega); omega) (by omega)]) (by omega) (by omega)
set_option maxRecDepth 100000 in
set_option maxHeartbeats 4000000 in
theorem ev_X7_solves (P D n : Nat) (F O : Nat → Nat) (M : jM) (hR : MR P D n F O M) (one free : Nat) (h1n : one < n) (hfr : free < 2 ^ n) : Ev 3 mX7_solves [(33, 0), (0, ((one : Nat) : Int)), (0, ((free : Nat) : Int))] M (fun z M' => z = ((slN D n F one free : Nat) : Int) ∧ Ch [28, 32] M M') := by
  refine Ev_of (by decide +kernel) (Nat.le_of_ble_eq_true rfl) (L := [(33, 0), (0, ((one : Nat) : Int)), (0, ((free : Nat) : Int)), (9, 0), (9, 0), (9, 0), (9, 0), (9, 0)]) rfl ?_
  have hn12 := MR.hn hR
  have hP7 := MR.hP hR
  have hD5 := MR.hD hR
  have hrl := slR_le D n F
  refine J_aload_n dX7_solves_0 rfl ?_
  refine J_callVv (cl := mX7_laysOwn) [] [] dX7_solves_1 mlX7_203 cvX7_laysOwn rfl rfl rfl rfl rfl (by decide) (Nat.le_of_ble_eq_true rfl) rfl (ev_X7_laysOwn P D n F O M hR) (fun M1 hq1 => ?_)
  obtain ⟨b1, b2⟩ := hq1
  refine J_iconst dX7_solves_4 ?_
  refine J_istore_n (L' := [(33, 0), (0, ((one : Nat) : Int)), (0, ((free : Nat) : Int)), (0, 0), (9, 0), (9, 0), (9, 0), (9, 0)]) dX7_solves_5 (by decide) rfl rfl ?_
  refine J_iconst dX7_solves_6 ?_
  refine J_istore (L' := [(33, 0), (0, ((one : Nat) : Int)), (0, ((free : Nat) : Int)), (0, 0), (0, 0), (9, 0), (9, 0), (9, 0)]) dX7_solves_7 (by decide) rfl rfl ?_
  refine J_eq (L' := [(33, 0), (0, ((one : Nat) : Int)), (0, ((free : Nat) : Int)), (0, ((0 : Nat) : Int)), (0, ((0 : Nat) : Int)), (9, 0), (9, 0), (9, 0)]) rfl rfl rfl ?_
  exact ev_X7_solves_L9 P D n F O M hR one free h1n hfr  _ _ _ (by exact Ch_mo b1 (by decide)) (by exact b2) (by intro j hj; simp [cntN] at hj) (by omega) (Nat.lt_succ_self _)
