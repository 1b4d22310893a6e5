theorem ndf_bit_lt {s k : Nat} (h : s.testBit k = true) : ndf s (2 ^ k) < s := by
  have h1 := ndf_le s (2 ^ k)
  rcases Nat.lt_or_eq_of_le h1 with q | q
  · exact q
  · have := ndf_bit s (2 ^ k) k
    rw [q, h, Nat.testBit_two_pow_self] at this
    exact absurd this (by decide)
def smN : Nat → (Nat → Nat) → Nat
  | 0, _ => 0
  | k + 1, f => smN k f + f k
theorem smN_congr {n : Nat} {f g : Nat → Nat} (h : ∀ k, k < n → f k = g k) : smN n f = smN n g := by
  induction n with
  | zero => rfl
  | succ n ih => simp only [smN]; rw [ih (fun k hk => h k (by omega)), h n (by omega)]
theorem smN_zero {n : Nat} {f : Nat → Nat} (h : ∀ k, k < n → f k = 0) : smN n f = 0 := by
  induction n with
  | zero => rfl
  | succ n ih => simp only [smN]; rw [ih (fun k hk => h k (by omega)), h n (by omega)]
theorem smN_le {n B : Nat} {f : Nat → Nat} {q : Nat → Bool} (h : ∀ k, k < n → f k ≤ if q k = true then B else 0) : smN n f ≤ cntN n q * B := by
  induction n with
  | zero => simp [smN]
  | succ n ih =>
    simp only [smN, cntN]
    have h1 := ih (fun k hk => h k (by omega))
    have h2 := h n (by omega)
    rw [Nat.add_mul]
    cases hq : q n
    · rw [hq] at h2; simp at h2 ⊢; omega
    · rw [hq] at h2; simp at h2 ⊢; omega
/-- in how many rows a set's members stand so that each joins those ahead -/
def wto (G : Nat → Nat) (n s : Nat) : Nat := if s = 0 then 1 else smN n (fun k => if h : s.testBit k = true then (if jnS G k (ndf s (2 ^ k)) = true then wto G n (ndf s (2 ^ k)) else 0) else 0)
termination_by s
decreasing_by exact ndf_bit_lt h
/-- .. and so that the rest r goes on behind all others -/
def wnR (G : Nat → Nat) (n r : Nat) : Nat := if r = 0 then 1 else smN n (fun k => if h : r.testBit k = true then (if jnS G k (ndf (2 ^ n - 1) r) = true then wnR G n (ndf r (2 ^ k)) else 0) else 0)
termination_by r
decreasing_by exact ndf_bit_lt h
def won (G : Nat → Nat) (n s : Nat) : Nat := wnR G n (ndf (2 ^ n - 1) s)
def wtF (G : Nat → Nat) (n s : Nat) : Nat → Nat := fun k => if s.testBit k = true ∧ jnS G k (ndf s (2 ^ k)) = true then wto G n (ndf s (2 ^ k)) else 0
def wnF (G : Nat → Nat) (n s : Nat) : Nat → Nat := fun k => if s.testBit k = false ∧ jnS G k s = true then won G n (s ||| 2 ^ k) else 0
theorem wto_eq (G : Nat → Nat) (n s : Nat) : wto G n s = (if s = 0 then 1 else 0) + smN n (wtF G n s) := by
  rw [wto]
  by_cases h : s = 0
  · subst h
    rw [if_pos rfl, if_pos rfl, smN_zero]
    intro k _
    simp [wtF]
  · rw [if_neg h, if_neg h, Nat.zero_add]
    apply smN_congr
    intro k _
    unfold wtF
    by_cases h1 : s.testBit k = true
    · by_cases h2 : jnS G k (ndf s (2 ^ k)) = true
      · simp [h1, h2]
      · simp [h1, h2]
    · simp [h1]
theorem all_bit (n k : Nat) : (2 ^ n - 1).testBit k = decide (k < n) := Nat.testBit_two_pow_sub_one n k
theorem all_ndf {n s : Nat} (hs : s < 2 ^ n) : ndf (2 ^ n - 1) (ndf (2 ^ n - 1) s) = s := by
  apply Nat.eq_of_testBit_eq
  intro i
  rw [ndf_bit, ndf_bit, all_bit]
  by_cases hi : i < n
  · simp [hi]
  · simp only [hi, decide_false, Bool.false_and]
    exact (Nat.testBit_lt_two_pow (Nat.lt_of_lt_of_le hs (Nat.pow_le_pow_right (by decide) (by omega)))).symm
theorem won_eq {G : Nat → Nat} {n s : Nat} (hs : s < 2 ^ n) : won G n s = (if s = 2 ^ n - 1 then 1 else 0) + smN n (wnF G n s) := by
  unfold won
  rw [wnR]
  by_cases h : s = 2 ^ n - 1
  · have hr : ndf (2 ^ n - 1) s = 0 := by rw [h]; unfold ndf; rw [Nat.and_self, Nat.xor_self]
    rw [if_pos hr, if_pos h, smN_zero]
    intro k hk
    unfold wnF
    rw [if_neg]
    rintro ⟨q, -⟩
    rw [h, all_bit] at q
    simp at q
    omega
  · have hr : ¬ ndf (2 ^ n - 1) s = 0 := by
      intro q
      apply h
      have := all_ndf hs
      rw [q] at this
      rw [← this]
      unfold ndf
      simp
    rw [if_neg hr, if_neg h, Nat.zero_add]
    apply smN_congr
    intro k hk
    unfold wnF
    rw [all_ndf hs]
    have hb : (ndf (2 ^ n - 1) s).testBit k = !s.testBit k := by rw [ndf_bit, all_bit]; simp [hk]
    have he : ndf (ndf (2 ^ n - 1) s) (2 ^ k) = ndf (2 ^ n - 1) (s ||| 2 ^ k) := by
      apply Nat.eq_of_testBit_eq
      intro i
      rw [ndf_bit, ndf_bit, ndf_bit, Nat.testBit_or]
      cases (2 ^ n - 1).testBit i <;> cases s.testBit i <;> cases (2 ^ k).testBit i <;> rfl
    cases hsk : s.testBit k
    · have h1 : (ndf (2 ^ n - 1) s).testBit k = true := by rw [hb, hsk]; rfl
      rw [dif_pos h1, he]
      by_cases h2 : jnS G k s = true
      · rw [if_pos h2, if_pos ⟨rfl, h2⟩]; rfl
      · rw [if_neg h2, if_neg (fun q => h2 q.2)]
    · have h1 : ¬ (ndf (2 ^ n - 1) s).testBit k = true := by rw [hb, hsk]; decide
      rw [dif_neg h1, if_neg (fun q => absurd q.1 (by decide))]
def fct : Nat → Nat
  | 0 => 1
  | n + 1 => (n + 1) * fct n
theorem fct_mono {a b : Nat} (h : a ≤ b) : fct a ≤ fct b := by
  induction b with
  | zero => rw [Nat.le_zero.mp h]; exact Nat.le_refl _
  | succ b ih =>
    by_cases e : a = b + 1
    · rw [e]; exact Nat.le_refl _
    · refine Nat.le_trans (ih (by omega)) ?_
      show fct b ≤ (b + 1) * fct b
      exact Nat.le_mul_of_pos_left _ (by omega)
theorem cnt_le_popc (n s : Nat) : cntN n (fun i => s.testBit i) ≤ popc s := by
  rw [popc_cnt (n + s) s (Nat.lt_of_lt_of_le (lt_two_pow_self' s) (Nat.pow_le_pow_right (by decide) (by omega)))]
  exact cntN_mono (by omega)
theorem popc_le_of_lt {n s : Nat} (h : s < 2 ^ n) : popc s ≤ n := by
  rw [popc_cnt n s h]
  exact cntN_le _ _
theorem popc_rem {s k : Nat} (h : s.testBit k = true) : popc (ndf s (2 ^ k)) + 1 ≤ popc s :=
  popc_sub_lt (j := k) (fun i hi => by rw [ndf_bit, Bool.and_eq_true] at hi; exact hi.1) (by rw [ndf_bit, Nat.testBit_two_pow_self]; simp) h
theorem wto_le (G : Nat → Nat) (n : Nat) : ∀ s, wto G n s ≤ fct (popc s) := by
  intro s
  induction s using Nat.strongRecOn with
  | _ s ih =>
    rw [wto_eq]
    by_cases h : s = 0
    · subst h
      rw [if_pos rfl, smN_zero (fun k _ => by simp [wtF]), popc_zero]
      decide
    · rw [if_neg h, Nat.zero_add]
      have hp := popc_pos h
      obtain ⟨c, hc⟩ : ∃ c, popc s = c + 1 := ⟨popc s - 1, by omega⟩
      have h1 : smN n (wtF G n s) ≤ cntN n (fun i => s.testBit i) * fct c := by
        apply smN_le
        intro k _
        unfold wtF
        cases hb : s.testBit k
        · simp
        · rw [if_pos rfl]
          split
          · have := popc_rem hb
            exact Nat.le_trans (ih _ (ndf_bit_lt hb)) (fct_mono (by omega))
          · exact Nat.zero_le _
      have h2 := cnt_le_popc n s
      rw [hc] at h2 ⊢
      exact Nat.le_trans h1 (Nat.mul_le_mul_right _ h2)
theorem wnR_le (G : Nat → Nat) (n : Nat) : ∀ r, wnR G n r ≤ fct (popc r) := by
  intro r
  induction r using Nat.strongRecOn with
  | _ r ih =>
    rw [wnR]
    by_cases h : r = 0
    · subst h
      rw [if_pos rfl, popc_zero]
      decide
    · rw [if_neg h]
      have hp := popc_pos h
      obtain ⟨c, hc⟩ : ∃ c, popc r = c + 1 := ⟨popc r - 1, by omega⟩
      refine Nat.le_trans (smN_le (q := fun i => r.testBit i) (B := fct c) ?_) ?_
      · intro k _
        cases hb : r.testBit k
        · simp
        · simp only [if_true, dite_true]
          split
          · have := popc_rem hb
            exact Nat.le_trans (ih _ (ndf_bit_lt hb)) (fct_mono (by omega))
          · exact Nat.zero_le _
      · have h2 := cnt_le_popc n r
        rw [hc] at h2 ⊢
        exact Nat.mul_le_mul_right _ h2
theorem wto31 (G : Nat → Nat) {n s : Nat} (hn : n ≤ 12) (hs : s < 2 ^ n) : wto G n s < 2147483648 := by
  have h1 := wto_le G n s
  have h2 := fct_mono (Nat.le_trans (popc_le_of_lt hs) hn)
  have h3 : fct 12 < 2147483648 := by decide
  omega
theorem won31 (G : Nat → Nat) {n : Nat} (hn : n ≤ 12) (s : Nat) : won G n s < 2147483648 := by
  have h1 := wnR_le G n (ndf (2 ^ n - 1) s)
  have hl : ndf (2 ^ n - 1) s < 2 ^ n := nb_ndf (by have := Nat.two_pow_pos n; omega)
  have h2 := fct_mono (Nat.le_trans (popc_le_of_lt hl) hn)
  have h3 : fct 12 < 2147483648 := by decide
  unfold won
  omega
theorem or_bit_gt {s k : Nat} (h : s.testBit k = false) : s < s ||| 2 ^ k := by
  have h1 : s ≤ s ||| 2 ^ k := Nat.left_le_or
  rcases Nat.lt_or_eq_of_le h1 with q | q
  · exact q
  · have := Nat.testBit_or s (2 ^ k) k
    rw [← q, h, Nat.testBit_two_pow_self] at this
    exact absurd this (by decide)
theorem or_bit_lt {s k m : Nat} (hs : s < 2 ^ m) (hk : k < m) : s ||| 2 ^ k < 2 ^ m := Nat.or_lt_two_pow hs (Nat.pow_lt_pow_right (by decide) hk)
theorem p4096 {m : Nat} (hm : m ≤ 12) : 2 ^ m ≤ 4096 := Nat.pow_le_pow_right (n := 2) (by decide) hm
set_option maxRecDepth 100000 in
set_option maxHeartbeats 4000000 in
theorem ev_X7_laysWays_25_L145 (m : Nat) (hm : m ≤ 12) (G : Nat → Nat) (M : jM) (hG : RowA 25 M m G) (s : Nat) (hs2 : s < 2 ^ m) (K0 : ∀ (M3 : jM) (c1 : Ch [33, 34] M M3) (c2 : ∀ u : Nat, u < 2 ^ m → M3 33 (u : Int) = ((wto G m u : Nat) : Int)) (c3 : ∀ u : Nat, s ≤ u → u < 2 ^ m → M3 34 (u : Int) = ((won G m u : Nat) : Int)), J none 2 mX7_laysWays 218 [(33, 0), (35, 0), (0, ((m : Nat) : Int)), (0, (((2 ^ m - 1) : Nat) : Int)), (0, ((s : Nat) : Int)), (9, 0), (9, 0)] [] M3 (j_ret mX7_laysWays (fun z M' => Ch [33, 34] M M' ∧ (∀ u : Nat, u < 2 ^ m → M' 33 (u : Int) = ((wto G m u : Nat) : Int)) ∧ ∀ u : Nat, u < 2 ^ m → M' 34 (u : Int) = ((won G m u : Nat) : Int)))) : ∀ (fu : Nat) (M2 : jM) (k : Nat) (g1 : Ch [33, 34] M M2) (g5 : ∀ u : Nat, u < 2 ^ m → M2 33 (u : Int) = ((wto G m u : Nat) : Int)) (g2 : ∀ u : Nat, s + 1 ≤ u → u < 2 ^ m → M2 34 (u : Int) = ((won G m u : Nat) : Int)) (g3 : M2 34 (s : Int) = (((if s = 2 ^ m - 1 then 1 else 0) + smN k (wnF G m s) : Nat) : Int)) (g4 : k ≤ m) (hfu : m - k < fu), J none 2 mX7_laysWays 145 [(33, 0), (35, 0), (0, ((m : Nat) : Int)), (0, (((2 ^ m - 1) : Nat) : Int)), (0, ((s : Nat) : Int)), (0, ((k : Nat) : Int)), (9, 0)] [] M2 (j_ret mX7_laysWays (fun z M' => Ch [33, 34] M M' ∧ (∀ u : Nat, u < 2 ^ m → M' 33 (u : Int) = ((wto G m u : Nat) : Int)) ∧ ∀ u : Nat, u < 2 ^ m → M' 34 (u : Int) = ((won G m u : Nat) : Int))) := by
  intro fu
  induction fu with
  | zero => intro M2 k g1 g5 g2 g3 g4 hfu; exact absurd hfu (Nat.not_lt_zero _)
  | succ fu ih =>
    intro M2 k g1 g5 g2 g3 g4 hfu
    have h2m := p4096 hm
    have h2p := Nat.two_pow_pos m
    refine J_iload dX7_laysWays_145 rfl ?_
    refine J_iload_n dX7_laysWays_147 rfl ?_
    refine J_icmp_ge (tgt := 218) dX7_laysWays_148 rfl (j_R (by omega)) (j_R (by omega)) (fun h148 => ?_) (fun h148 => ?_)
    ·
      refine J_unset 5 (L' := [(33, 0), (35, 0), (0, ((m : Nat) : Int)), (0, (((2 ^ m - 1) : Nat) : Int)), (0, ((s : Nat) : Int)), (9, 0), (9, 0)]) rfl ?_
      exact K0 _ (by exact g1) (by exact g5) (by intro u h1 h2; rcases Nat.lt_or_ge s u with q | q; exact g2 u q h2; rw [show u = s by omega, g3, show k = m by omega, ← won_eq hs2])
    ·
      refine J_iload dX7_laysWays_151 rfl ?_
      refine J_iconst dX7_laysWays_153 ?_
      refine J_iload dX7_laysWays_154 rfl ?_
      refine J_ishl dX7_laysWays_156 (J_top (v := (((2 ^ k) : Nat) : Int)) (j_shl1 rfl rfl (by omega)) ?_)
      refine J_ior dX7_laysWays_157 (J_top (v := (((s ||| (2 ^ k)) : Nat) : Int)) (j_orN rfl rfl (by omega) (nb_p2 (by omega))) ?_)
      refine J_istore (L' := [(33, 0), (35, 0), (0, ((m : Nat) : Int)), (0, (((2 ^ m - 1) : Nat) : Int)), (0, ((s : Nat) : Int)), (0, ((k : Nat) : Int)), (0, (((s ||| (2 ^ k)) : Nat) : Int))]) dX7_laysWays_158 (by decide) rfl rfl ?_
      refine J_aload_n dX7_laysWays_160 rfl ?_
      refine J_getR dX7_laysWays_161 flX7_46 rfl rfl ?_
      refine J_iload dX7_laysWays_164 rfl ?_
      refine J_dup2 dX7_laysWays_166 rfl rfl ?_
      refine J_iald dX7_laysWays_167 rfl (by decide) (by omega) (J_top (v := ((((if s = 2 ^ m - 1 then 1 else 0) + smN k (wnF G m s)) : Nat) : Int)) g3 ?_)
      refine J_iload dX7_laysWays_168 rfl ?_
      refine J_iload dX7_laysWays_170 rfl ?_
      refine J_callSiQ (cl := mX7_has) [(0, ((s : Nat) : Int)), (0, ((k : Nat) : Int))] [(0, ((((if s = 2 ^ m - 1 then 1 else 0) + smN k (wnF G m s)) : Nat) : Int)), (0, ((s : Nat) : Int)), (44, 0)] dX7_laysWays_172 mlX7_132 csX7_has rfl rfl (by decide) (Nat.le_of_ble_eq_true rfl) rfl (ev_X7_has s k (by omega) (by omega) M2) ?_
      refine J_ifb_ne (tgt := 209) dX7_laysWays_175 rfl (fun h175 => ?_) (fun h175 => ?_)
      ·
        refine J_iconst dX7_laysWays_209 ?_
        refine J_iadd dX7_laysWays_210 (J_top (v := ((((if s = 2 ^ m - 1 then 1 else 0) + smN k (wnF G m s)) : Nat) : Int)) (by omega) ?_)
        refine J_iast dX7_laysWays_211 rfl (by decide) (by omega) ?_
        refine J_iinc (v := (((k + 1) : Nat) : Int)) (L' := [(33, 0), (35, 0), (0, ((m : Nat) : Int)), (0, (((2 ^ m - 1) : Nat) : Int)), (0, ((s : Nat) : Int)), (0, (((k + 1) : Nat) : Int)), (0, (((s ||| (2 ^ k)) : Nat) : Int))]) dX7_laysWays_212 rfl (by omega) (by decide) rfl rfl ?_
        refine J_goto (tgt := 145) dX7_laysWays_215 rfl ?_
        refine J_unset 6 (L' := [(33, 0), (35, 0), (0, ((m : Nat) : Int)), (0, (((2 ^ m - 1) : Nat) : Int)), (0, ((s : Nat) : Int)), (0, (((k + 1) : Nat) : Int)), (9, 0)]) rfl ?_
        exact ih _ _ (by exact Ch_up (by decide) g1) (by intro u hu; rw [j_up_ne (by decide)]; exact g5 u hu) (by intro u h1 h2; rw [j_up_nz (by omega)]; exact g2 u h1 h2) (by rw [j_up_eq]; simp only [smN]; rw [show wnF G m s k = 0 from if_neg (fun q => absurd q.1 (by rw [h175]; decide))]; omega) (by omega) (by omega)
      ·
        refine J_aload_n dX7_laysWays_178 rfl ?_
        refine J_getR dX7_laysWays_179 flX7_46 rfl rfl ?_
        refine J_iload dX7_laysWays_182 rfl ?_
        refine J_iald dX7_laysWays_184 rfl (by decide) (by have := or_bit_lt (k := k) hs2 (by omega); omega) (J_top (v := (((won G m (s ||| 2 ^ k)) : Nat) : Int)) (g2 _ (or_bit_gt h175) (or_bit_lt hs2 (by omega))) ?_)
        refine J_if_le (tgt := 209) dX7_laysWays_185 rfl (j_R (won31 G hm _)) (fun h185 => ?_) (fun h185 => ?_)
        ·
          refine J_iconst dX7_laysWays_209 ?_
          refine J_iadd dX7_laysWays_210 (J_top (v := ((((if s = 2 ^ m - 1 then 1 else 0) + smN k (wnF G m s)) : Nat) : Int)) (by omega) ?_)
          refine J_iast dX7_laysWays_211 rfl (by decide) (by omega) ?_
          refine J_iinc (v := (((k + 1) : Nat) : Int)) (L' := [(33, 0), (35, 0), (0, ((m : Nat) : Int)), (0, (((2 ^ m - 1) : Nat) : Int)), (0, ((s : Nat) : Int)), (0, (((k + 1) : Nat) : Int)), (0, (((s ||| (2 ^ k)) : Nat) : Int))]) dX7_laysWays_212 rfl (by omega) (by decide) rfl rfl ?_
          refine J_goto (tgt := 145) dX7_laysWays_215 rfl ?_
          refine J_unset 6 (L' := [(33, 0), (35, 0), (0, ((m : Nat) : Int)), (0, (((2 ^ m - 1) : Nat) : Int)), (0, ((s : Nat) : Int)), (0, (((k + 1) : Nat) : Int)), (9, 0)]) rfl ?_
          exact ih _ _ (by exact Ch_up (by decide) g1) (by intro u hu; rw [j_up_ne (by decide)]; exact g5 u hu) (by intro u h1 h2; rw [j_up_nz (by omega)]; exact g2 u h1 h2) (by rw [j_up_eq]; simp only [smN]; rw [show wnF G m s k = 0 from (by unfold wnF; split; omega; rfl)]; omega) (by omega) (by omega)
        ·
          refine J_aload_n dX7_laysWays_188 rfl ?_
          refine J_iload dX7_laysWays_189 rfl ?_
          refine J_iload dX7_laysWays_191 rfl ?_
          refine J_callSiQ (cl := mX7_joinsSet) [(35, 0), (0, ((k : Nat) : Int)), (0, ((s : Nat) : Int))] [(0, ((((if s = 2 ^ m - 1 then 1 else 0) + smN k (wnF G m s)) : Nat) : Int)), (0, ((s : Nat) : Int)), (44, 0)] dX7_laysWays_193 mlX7_262 csX7_joinsSet rfl rfl (by decide) (Nat.le_of_ble_eq_true rfl) rfl (ev_X7_joinsSet_25 m hm G M2 (rowA_ch g1 (by decide) hG) k s (by omega) hs2) ?_
          refine J_ifb_eq (tgt := 209) dX7_laysWays_196 rfl (fun h196 => ?_) (fun h196 => ?_)
          ·
            refine J_iconst dX7_laysWays_209 ?_
            refine J_iadd dX7_laysWays_210 (J_top (v := ((((if s = 2 ^ m - 1 then 1 else 0) + smN k (wnF G m s)) : Nat) : Int)) (by omega) ?_)
            refine J_iast dX7_laysWays_211 rfl (by decide) (by omega) ?_
            refine J_iinc (v := (((k + 1) : Nat) : Int)) (L' := [(33, 0), (35, 0), (0, ((m : Nat) : Int)), (0, (((2 ^ m - 1) : Nat) : Int)), (0, ((s : Nat) : Int)), (0, (((k + 1) : Nat) : Int)), (0, (((s ||| (2 ^ k)) : Nat) : Int))]) dX7_laysWays_212 rfl (by omega) (by decide) rfl rfl ?_
            refine J_goto (tgt := 145) dX7_laysWays_215 rfl ?_
            refine J_unset 6 (L' := [(33, 0), (35, 0), (0, ((m : Nat) : Int)), (0, (((2 ^ m - 1) : Nat) : Int)), (0, ((s : Nat) : Int)), (0, (((k + 1) : Nat) : Int)), (9, 0)]) rfl ?_
            exact ih _ _ (by exact Ch_up (by decide) g1) (by intro u hu; rw [j_up_ne (by decide)]; exact g5 u hu) (by intro u h1 h2; rw [j_up_nz (by omega)]; exact g2 u h1 h2) (by rw [j_up_eq]; simp only [smN]; rw [show wnF G m s k = 0 from if_neg (fun q => absurd q.2 (by rw [h196]; decide))]; omega) (by omega) (by omega)
          ·
            refine J_aload_n dX7_laysWays_199 rfl ?_
            refine J_getR dX7_laysWays_200 flX7_46 rfl rfl ?_
            refine J_iload dX7_laysWays_203 rfl ?_
            refine J_iald dX7_laysWays_205 rfl (by decide) (by have := or_bit_lt (k := k) hs2 (by omega); omega) (J_top (v := (((won G m (s ||| 2 ^ k)) : Nat) : Int)) (g2 _ (or_bit_gt h175) (or_bit_lt hs2 (by omega))) ?_)
            refine J_goto (tgt := 210) dX7_laysWays_206 rfl ?_
            refine J_iadd dX7_laysWays_210 (J_top (v := (((((if s = 2 ^ m - 1 then 1 else 0) + smN k (wnF G m s)) + (won G m (s ||| 2 ^ k))) : Nat) : Int)) (by omega) ?_)
            refine J_iast dX7_laysWays_211 rfl (by decide) (by omega) ?_
            refine J_iinc (v := (((k + 1) : Nat) : Int)) (L' := [(33, 0), (35, 0), (0, ((m : Nat) : Int)), (0, (((2 ^ m - 1) : Nat) : Int)), (0, ((s : Nat) : Int)), (0, (((k + 1) : Nat) : Int)), (0, (((s ||| (2 ^ k)) : Nat) : Int))]) dX7_laysWays_212 rfl (by omega) (by decide) rfl rfl ?_
            refine J_goto (tgt := 145) dX7_laysWays_215 rfl ?_
            refine J_unset 6 (L' := [(33, 0), (35, 0), (0, ((m : Nat) : Int)), (0, (((2 ^ m - 1) : Nat) : Int)), (0, ((s : Nat) : Int)), (0, (((k + 1) : Nat) : Int)), (9, 0)]) rfl ?_
            exact ih _ _ (by exact Ch_up (by decide) g1) (by intro u hu; rw [j_up_ne (by decide)]; exact g5 u hu) (by intro u h1 h2; rw [j_up_nz (by omega)]; exact g2 u h1 h2) (by rw [j_up_eq]; simp only [smN]; rw [show wnF G m s k = won G m (s ||| 2 ^ k) from if_pos ⟨h175, h196⟩]; omega) (by omega) (by omega)
set_option maxRecDepth 100000 in
set_option maxHeartbeats 4000000 in
theorem ev_X7_laysWays_25_L35 (m : Nat) (hm : m ≤ 12) (G : Nat → Nat) (M : jM) (hG : RowA 25 M m G) (s : Nat) (hs2 : s < 2 ^ m) (K0 : ∀ (M3 : jM) (c1 : Ch [33, 34] M M3) (c2 : ∀ u : Nat, u < s + 1 → M3 33 (u : Int) = ((wto G m u : Nat) : Int)), J none 2 mX7_laysWays 110 [(33, 0), (35, 0), (0, ((m : Nat) : Int)), (0, (((2 ^ m - 1) : Nat) : Int)), (0, ((s : Nat) : Int)), (9, 0), (9, 0)] [] M3 (j_ret mX7_laysWays (fun z M' => Ch [33, 34] M M' ∧ (∀ u : Nat, u < 2 ^ m → M' 33 (u : Int) = ((wto G m u : Nat) : Int)) ∧ ∀ u : Nat, u < 2 ^ m → M' 34 (u : Int) = ((won G m u : Nat) : Int)))) : ∀ (fu : Nat) (M2 : jM) (k : Nat) (g1 : Ch [33, 34] M M2) (g2 : ∀ u : Nat, u < s → M2 33 (u : Int) = ((wto G m u : Nat) : Int)) (g3 : M2 33 (s : Int) = (((if s = 0 then 1 else 0) + smN k (wtF G m s) : Nat) : Int)) (g4 : k ≤ m) (hfu : m - k < fu), J none 2 mX7_laysWays 35 [(33, 0), (35, 0), (0, ((m : Nat) : Int)), (0, (((2 ^ m - 1) : Nat) : Int)), (0, ((s : Nat) : Int)), (0, ((k : Nat) : Int)), (9, 0)] [] M2 (j_ret mX7_laysWays (fun z M' => Ch [33, 34] M M' ∧ (∀ u : Nat, u < 2 ^ m → M' 33 (u : Int) = ((wto G m u : Nat) : Int)) ∧ ∀ u : Nat, u < 2 ^ m → M' 34 (u : Int) = ((won G m u : Nat) : Int))) := by
  intro fu
  induction fu with
  | zero => intro M2 k g1 g2 g3 g4 hfu; exact absurd hfu (Nat.not_lt_zero _)
  | succ fu ih =>
    intro M2 k g1 g2 g3 g4 hfu
    have h2m := p4096 hm
    have h2p := Nat.two_pow_pos m
    refine J_iload dX7_laysWays_35 rfl ?_
    refine J_iload_n dX7_laysWays_37 rfl ?_
    refine J_icmp_ge (tgt := 110) dX7_laysWays_38 rfl (j_R (by omega)) (j_R (by omega)) (fun h38 => ?_) (fun h38 => ?_)
    ·
      refine J_unset 5 (L' := [(33, 0), (35, 0), (0, ((m : Nat) : Int)), (0, (((2 ^ m - 1) : Nat) : Int)), (0, ((s : Nat) : Int)), (9, 0), (9, 0)]) rfl ?_
      exact K0 _ (by exact g1) (by intro u hu; rcases Nat.lt_or_ge u s with q | q; exact g2 u q; rw [show u = s by omega, g3, show k = m by omega, ← wto_eq])
    ·
      refine J_iload dX7_laysWays_41 rfl ?_
      refine J_iconst dX7_laysWays_43 ?_
      refine J_iload dX7_laysWays_44 rfl ?_
      refine J_ishl dX7_laysWays_46 (J_top (v := (((2 ^ k) : Nat) : Int)) (j_shl1 rfl rfl (by omega)) ?_)
      refine J_iconst dX7_laysWays_47 ?_
      refine J_ixor dX7_laysWays_48 (J_top (v := (-(((2 ^ k) : Nat) : Int) - 1)) (j_notN rfl (nb_p2 (by omega))) ?_)
      refine J_iand dX7_laysWays_49 (J_top (v := (((ndf s (2 ^ k)) : Nat) : Int)) (j_ndfN rfl rfl (by omega)) ?_)
      refine J_istore (L' := [(33, 0), (35, 0), (0, ((m : Nat) : Int)), (0, (((2 ^ m - 1) : Nat) : Int)), (0, ((s : Nat) : Int)), (0, ((k : Nat) : Int)), (0, (((ndf s (2 ^ k)) : Nat) : Int))]) dX7_laysWays_50 (by decide) rfl rfl ?_
      refine J_aload_n dX7_laysWays_52 rfl ?_
      refine J_getR dX7_laysWays_53 flX7_43 rfl rfl ?_
      refine J_iload dX7_laysWays_56 rfl ?_
      refine J_dup2 dX7_laysWays_58 rfl rfl ?_
      refine J_iald dX7_laysWays_59 rfl (by decide) (by omega) (J_top (v := ((((if s = 0 then 1 else 0) + smN k (wtF G m s)) : Nat) : Int)) g3 ?_)
      refine J_iload dX7_laysWays_60 rfl ?_
      refine J_iload dX7_laysWays_62 rfl ?_
      refine J_callSiQ (cl := mX7_has) [(0, ((s : Nat) : Int)), (0, ((k : Nat) : Int))] [(0, ((((if s = 0 then 1 else 0) + smN k (wtF G m s)) : Nat) : Int)), (0, ((s : Nat) : Int)), (43, 0)] dX7_laysWays_64 mlX7_132 csX7_has rfl rfl (by decide) (Nat.le_of_ble_eq_true rfl) rfl (ev_X7_has s k (by omega) (by omega) M2) ?_
      refine J_ifb_eq (tgt := 101) dX7_laysWays_67 rfl (fun h67 => ?_) (fun h67 => ?_)
      ·
        refine J_iconst dX7_laysWays_101 ?_
        refine J_iadd dX7_laysWays_102 (J_top (v := ((((if s = 0 then 1 else 0) + smN k (wtF G m s)) : Nat) : Int)) (by omega) ?_)
        refine J_iast dX7_laysWays_103 rfl (by decide) (by omega) ?_
        refine J_iinc (v := (((k + 1) : Nat) : Int)) (L' := [(33, 0), (35, 0), (0, ((m : Nat) : Int)), (0, (((2 ^ m - 1) : Nat) : Int)), (0, ((s : Nat) : Int)), (0, (((k + 1) : Nat) : Int)), (0, (((ndf s (2 ^ k)) : Nat) : Int))]) dX7_laysWays_104 rfl (by omega) (by decide) rfl rfl ?_
        refine J_goto (tgt := 35) dX7_laysWays_107 rfl ?_
        refine J_unset 6 (L' := [(33, 0), (35, 0), (0, ((m : Nat) : Int)), (0, (((2 ^ m - 1) : Nat) : Int)), (0, ((s : Nat) : Int)), (0, (((k + 1) : Nat) : Int)), (9, 0)]) rfl ?_
        exact ih _ _ (by exact Ch_up (by decide) g1) (by intro u hu; rw [j_up_nz (by omega)]; exact g2 u hu) (by rw [j_up_eq]; simp only [smN]; rw [show wtF G m s k = 0 from if_neg (fun q => absurd q.1 (by rw [h67]; decide))]; omega) (by omega) (by omega)
      ·
        refine J_aload_n dX7_laysWays_70 rfl ?_
        refine J_getR dX7_laysWays_71 flX7_43 rfl rfl ?_
        refine J_iload dX7_laysWays_74 rfl ?_
        refine J_iald dX7_laysWays_76 rfl (by decide) (by have := ndf_le s (2 ^ k); omega) (J_top (v := (((wto G m (ndf s (2 ^ k))) : Nat) : Int)) (g2 _ (ndf_bit_lt h67)) ?_)
        refine J_if_le (tgt := 101) dX7_laysWays_77 rfl (j_R (wto31 G hm (nb_ndf hs2))) (fun h77 => ?_) (fun h77 => ?_)
        ·
          refine J_iconst dX7_laysWays_101 ?_
          refine J_iadd dX7_laysWays_102 (J_top (v := ((((if s = 0 then 1 else 0) + smN k (wtF G m s)) : Nat) : Int)) (by omega) ?_)
          refine J_iast dX7_laysWays_103 rfl (by decide) (by omega) ?_
          refine J_iinc (v := (((k + 1) : Nat) : Int)) (L' := [(33, 0), (35, 0), (0, ((m : Nat) : Int)), (0, (((2 ^ m - 1) : Nat) : Int)), (0, ((s : Nat) : Int)), (0, (((k + 1) : Nat) : Int)), (0, (((ndf s (2 ^ k)) : Nat) : Int))]) dX7_laysWays_104 rfl (by omega) (by decide) rfl rfl ?_
          refine J_goto (tgt := 35) dX7_laysWays_107 rfl ?_
          refine J_unset 6 (L' := [(33, 0), (35, 0), (0, ((m : Nat) : Int)), (0, (((2 ^ m - 1) : Nat) : Int)), (0, ((s : Nat) : Int)), (0, (((k + 1) : Nat) : Int)), (9, 0)]) rfl ?_
          exact ih _ _ (by exact Ch_up (by decide) g1) (by intro u hu; rw [j_up_nz (by omega)]; exact g2 u hu) (by rw [j_up_eq]; simp only [smN]; rw [show wtF G m s k = 0 from (by unfold wtF; split; omega; rfl)]; omega) (by omega) (by omega)
        ·
          refine J_aload_n dX7_laysWays_80 rfl ?_
          refine J_iload dX7_laysWays_81 rfl ?_
          refine J_iload dX7_laysWays_83 rfl ?_
          refine J_callSiQ (cl := mX7_joinsSet) [(35, 0), (0, ((k : Nat) : Int)), (0, (((ndf s (2 ^ k)) : Nat) : Int))] [(0, ((((if s = 0 then 1 else 0) + smN k (wtF G m s)) : Nat) : Int)), (0, ((s : Nat) : Int)), (43, 0)] dX7_laysWays_85 mlX7_262 csX7_joinsSet rfl rfl (by decide) (Nat.le_of_ble_eq_true rfl) rfl (ev_X7_joinsSet_25 m hm G M2 (rowA_ch g1 (by decide) hG) k (ndf s (2 ^ k)) (by omega) (nb_ndf hs2)) ?_
          refine J_ifb_eq (tgt := 101) dX7_laysWays_88 rfl (fun h88 => ?_) (fun h88 => ?_)
          ·
            refine J_iconst dX7_laysWays_101 ?_
            refine J_iadd dX7_laysWays_102 (J_top (v := ((((if s = 0 then 1 else 0) + smN k (wtF G m s)) : Nat) : Int)) (by omega) ?_)
            refine J_iast dX7_laysWays_103 rfl (by decide) (by omega) ?_
            refine J_iinc (v := (((k + 1) : Nat) : Int)) (L' := [(33, 0), (35, 0), (0, ((m : Nat) : Int)), (0, (((2 ^ m - 1) : Nat) : Int)), (0, ((s : Nat) : Int)), (0, (((k + 1) : Nat) : Int)), (0, (((ndf s (2 ^ k)) : Nat) : Int))]) dX7_laysWays_104 rfl (by omega) (by decide) rfl rfl ?_
            refine J_goto (tgt := 35) dX7_laysWays_107 rfl ?_
            refine J_unset 6 (L' := [(33, 0), (35, 0), (0, ((m : Nat) : Int)), (0, (((2 ^ m - 1) : Nat) : Int)), (0, ((s : Nat) : Int)), (0, (((k + 1) : Nat) : Int)), (9, 0)]) rfl ?_
            exact ih _ _ (by exact Ch_up (by decide) g1) (by intro u hu; rw [j_up_nz (by omega)]; exact g2 u hu) (by rw [j_up_eq]; simp only [smN]; rw [show wtF G m s k = 0 from if_neg (fun q => absurd q.2 (by rw [h88]; decide))]; omega) (by omega) (by omega)
          ·
            refine J_aload_n dX7_laysWays_91 rfl ?_
            refine J_getR dX7_laysWays_92 flX7_43 rfl rfl ?_
            refine J_iload dX7_laysWays_95 rfl ?_
            refine J_iald dX7_laysWays_97 rfl (by decide) (by have := ndf_le s (2 ^ k); omega) (J_top (v := (((wto G m (ndf s (2 ^ k))) : Nat) : Int)) (g2 _ (ndf_bit_lt h67)) ?_)
            refine J_goto (tgt := 102) dX7_laysWays_98 rfl ?_
            refine J_iadd dX7_laysWays_102 (J_top (v := (((((if s = 0 then 1 else 0) + smN k (wtF G m s)) + (wto G m (ndf s (2 ^ k)))) : Nat) : Int)) (by omega) ?_)
            refine J_iast dX7_laysWays_103 rfl (by decide) (by omega) ?_
            refine J_iinc (v := (((k + 1) : Nat) : Int)) (L' := [(33, 0), (35, 0), (0, ((m : Nat) : Int)), (0, (((2 ^ m - 1) : Nat) : Int)), (0, ((s : Nat) : Int)), (0, (((k + 1) : Nat) : Int)), (0, (((ndf s (2 ^ k)) : Nat) : Int))]) dX7_laysWays_104 rfl (by omega) (by decide) rfl rfl ?_
            refine J_goto (tgt := 35) dX7_laysWays_107 rfl ?_
            refine J_unset 6 (L' := [(33, 0), (35, 0), (0, ((m : Nat) : Int)), (0, (((2 ^ m - 1) : Nat) : Int)), (0, ((s : Nat) : Int)), (0, (((k + 1) : Nat) : Int)), (9, 0)]) rfl ?_
            exact ih _ _ (by exact Ch_up (by decide) g1) (by intro u hu; rw [j_up_nz (by omega)]; exact g2 u hu) (by rw [j_up_eq]; simp only [smN]; rw [show wtF G m s k = wto G m (ndf s (2 ^ k)) from if_pos ⟨h67, h88⟩]; omega) (by omega) (by omega)
set_option maxRecDepth 100000 in
set_option maxHeartbeats 4000000 in
theorem ev_X7_laysWays_25_L119 (m : Nat) (hm : m ≤ 12) (G : Nat → Nat) (M : jM) (hG : RowA 25 M m G)  : ∀ (fu : Nat) (M1 : jM) (t : Nat) (f1 : Ch [33, 34] M M1) (f2 : ∀ u : Nat, u < 2 ^ m → M1 33 (u : Int) = ((wto G m u : Nat) : Int)) (f4 : ∀ u : Nat, t ≤ u → u < 2 ^ m → M1 34 (u : Int) = ((won G m u : Nat) : Int)) (f3 : t ≤ 2 ^ m) (hfu : t < fu), J none 2 mX7_laysWays 119 [(33, 0), (35, 0), (0, ((m : Nat) : Int)), (0, (((2 ^ m - 1) : Nat) : Int)), (0, (((t : Nat) : Int) - 1)), (9, 0), (9, 0)] [] M1 (j_ret mX7_laysWays (fun z M' => Ch [33, 34] M M' ∧ (∀ u : Nat, u < 2 ^ m → M' 33 (u : Int) = ((wto G m u : Nat) : Int)) ∧ ∀ u : Nat, u < 2 ^ m → M' 34 (u : Int) = ((won G m u : Nat) : Int))) := by
  intro fu
  induction fu with
  | zero => intro M1 t f1 f2 f4 f3 hfu; exact absurd hfu (Nat.not_lt_zero _)
  | succ fu ih =>
    intro M1 t f1 f2 f4 f3 hfu
    have h2m := p4096 hm
    have h2p := Nat.two_pow_pos m
    refine J_iload dX7_laysWays_119 rfl ?_
    refine J_if_lt (tgt := 224) dX7_laysWays_121 rfl (by omega) (fun h121 => ?_) (fun h121 => ?_)
    ·
      refine J_return dX7_laysWays_224 rfl ?_
      have : t = 0 := by omega
      subst this
      exact ⟨f1, f2, fun u hu => f4 u (Nat.zero_le _) hu⟩
    ·
      refine J_eq (L' := [(33, 0), (35, 0), (0, ((m : Nat) : Int)), (0, (((2 ^ m - 1) : Nat) : Int)), (0, (((t - 1) : Nat) : Int)), (9, 0), (9, 0)]) (by rw [show ((t : Nat) : Int) - 1 = ((t - 1 : Nat) : Int) by omega]) rfl rfl ?_
      refine J_aload_n dX7_laysWays_124 rfl ?_
      refine J_getR dX7_laysWays_125 flX7_46 rfl rfl ?_
      refine J_iload dX7_laysWays_128 rfl ?_
      refine J_iload dX7_laysWays_130 rfl ?_
      refine J_iload_n dX7_laysWays_132 rfl ?_
      refine J_icmp_ne (tgt := 140) dX7_laysWays_133 rfl (j_R (by omega)) (j_R (by omega)) (fun h133 => ?_) (fun h133 => ?_)
      ·
        refine J_iconst dX7_laysWays_140 ?_
        refine J_iast dX7_laysWays_141 rfl (by decide) (by omega) ?_
        refine J_iconst dX7_laysWays_142 ?_
        refine J_istore (L' := [(33, 0), (35, 0), (0, ((m : Nat) : Int)), (0, (((2 ^ m - 1) : Nat) : Int)), (0, (((t - 1) : Nat) : Int)), (0, 0), (9, 0)]) dX7_laysWays_143 (by decide) rfl rfl ?_
        refine J_eq (L' := [(33, 0), (35, 0), (0, ((m : Nat) : Int)), (0, (((2 ^ m - 1) : Nat) : Int)), (0, (((t - 1) : Nat) : Int)), (0, ((0 : Nat) : Int)), (9, 0)]) rfl rfl rfl ?_
        refine ev_X7_laysWays_25_L145 m hm G M hG (t - 1) (by omega) (fun M3 c1 c2 c3 => ?_) _ _ _ (by exact Ch_up (by decide) f1) (by intro u hu; rw [j_up_ne (by decide)]; exact f2 u hu) (by intro u h1 h2; rw [j_up_nz (by omega)]; exact f4 u (by omega) h2) (by rw [j_up_eq]; rw [if_neg (by omega)]; rfl) (by omega) (Nat.lt_succ_self _)
        ·
          refine J_iinc (v := ((((t - 1) : Nat) : Int) - 1)) (L' := [(33, 0), (35, 0), (0, ((m : Nat) : Int)), (0, (((2 ^ m - 1) : Nat) : Int)), (0, ((((t - 1) : Nat) : Int) - 1)), (9, 0), (9, 0)]) dX7_laysWays_218 rfl (by omega) (by decide) rfl rfl ?_
          refine J_goto (tgt := 119) dX7_laysWays_221 rfl ?_
          exact ih _ _ (by exact c1) (by exact c2) (by exact c3) (by omega) (by omega)
      ·
        refine J_iconst dX7_laysWays_136 ?_
        refine J_goto (tgt := 141) dX7_laysWays_137 rfl ?_
        refine J_iast dX7_laysWays_141 rfl (by decide) (by omega) ?_
        refine J_iconst dX7_laysWays_142 ?_
        refine J_istore (L' := [(33, 0), (35, 0), (0, ((m : Nat) : Int)), (0, (((2 ^ m - 1) : Nat) : Int)), (0, (((t - 1) : Nat) : Int)), (0, 0), (9, 0)]) dX7_laysWays_143 (by decide) rfl rfl ?_
        refine J_eq (L' := [(33, 0), (35, 0), (0, ((m : Nat) : Int)), (0, (((2 ^ m - 1) : Nat) : Int)), (0, (((t - 1) : Nat) : Int)), (0, ((0 : Nat) : Int)), (9, 0)]) rfl rfl rfl ?_
        refine ev_X7_laysWays_25_L145 m hm G M hG (t - 1) (by omega) (fun M3 c1 c2 c3 => ?_) _ _ _ (by exact Ch_up (by decide) f1) (by intro u hu; rw [j_up_ne (by decide)]; exact f2 u hu) (by intro u h1 h2; rw [j_up_nz (by omega)]; exact f4 u (by omega) h2) (by rw [j_up_eq]; rw [if_pos (by omega)]; rfl) (by omega) (Nat.lt_succ_self _)
        ·
          refine J_iinc (v := ((((t - 1) : Nat) : Int) - 1)) (L' := [(33, 0), (35, 0), (0, ((m : Nat) : Int)), (0, (((2 ^ m - 1) : Nat) : Int)), (0, ((((t - 1) : Nat) : Int) - 1)), (9, 0), (9, 0)]) dX7_laysWays_218 rfl (by omega) (by decide) rfl rfl ?_
          refine J_goto (tgt := 119) dX7_laysWays_221 rfl ?_
          exact ih _ _ (by exact c1) (by exact c2) (by exact c3) (by omega) (by omega)
set_option maxRecDepth 100000 in
set_option maxHeartbeats 4000000 in
theorem ev_X7_laysWays_25_L9 (m : Nat) (hm : m ≤ 12) (G : Nat → Nat) (M : jM) (hG : RowA 25 M m G)  : ∀ (fu : Nat) (M1 : jM) (s : Nat) (f1 : Ch [33, 34] M M1) (f2 : ∀ u : Nat, u < s → M1 33 (u : Int) = ((wto G m u : Nat) : Int)) (f3 : s ≤ 2 ^ m) (hfu : 2 ^ m - s < fu), J none 2 mX7_laysWays 9 [(33, 0), (35, 0), (0, ((m : Nat) : Int)), (0, (((2 ^ m - 1) : Nat) : Int)), (0, ((s : Nat) : Int)), (9, 0), (9, 0)] [] M1 (j_ret mX7_laysWays (fun z M' => Ch [33, 34] M M' ∧ (∀ u : Nat, u < 2 ^ m → M' 33 (u : Int) = ((wto G m u : Nat) : Int)) ∧ ∀ u : Nat, u < 2 ^ m → M' 34 (u : Int) = ((won G m u : Nat) : Int))) := by
  intro fu
  induction fu with
  | zero => intro M1 s f1 f2 f3 hfu; exact absurd hfu (Nat.not_lt_zero _)
  | succ fu ih =>
    intro M1 s f1 f2 f3 hfu
    have h2m := p4096 hm
    have h2p := Nat.two_pow_pos m
    refine J_iload dX7_laysWays_9 rfl ?_
    refine J_iload_n dX7_laysWays_11 rfl ?_
    refine J_icmp_gt (tgt := 116) dX7_laysWays_12 rfl (j_R (by omega)) (j_R (by omega)) (fun h12 => ?_) (fun h12 => ?_)
    ·
      refine J_iload_n dX7_laysWays_116 rfl (J_top (v := (((2 ^ m : Nat) : Int) - 1)) (by omega) ?_)
      refine J_istore (L' := [(33, 0), (35, 0), (0, ((m : Nat) : Int)), (0, (((2 ^ m - 1) : Nat) : Int)), (0, (((2 ^ m : Nat) : Int) - 1)), (9, 0), (9, 0)]) dX7_laysWays_117 (by decide) rfl rfl ?_
      exact ev_X7_laysWays_25_L119 m hm G M hG  _ _ _ (by exact f1) (by rw [show s = 2 ^ m by omega] at f2; exact f2) (by intro u h1 h2; omega) (by exact Nat.le_refl _) (Nat.lt_succ_self _)
    ·
      refine J_aload_n dX7_laysWays_15 rfl ?_
      refine J_getR dX7_laysWays_16 flX7_43 rfl rfl ?_
      refine J_iload dX7_laysWays_19 rfl ?_
      refine J_iload dX7_laysWays_21 rfl ?_
      refine J_if_ne (tgt := 30) dX7_laysWays_23 rfl (j_R (by omega)) (fun h23 => ?_) (fun h23 => ?_)
      ·
        refine J_iconst dX7_laysWays_30 ?_
        refine J_iast dX7_laysWays_31 rfl (by decide) (by omega) ?_
        refine J_iconst dX7_laysWays_32 ?_
        refine J_istore (L' := [(33, 0), (35, 0), (0, ((m : Nat) : Int)), (0, (((2 ^ m - 1) : Nat) : Int)), (0, ((s : Nat) : Int)), (0, 0), (9, 0)]) dX7_laysWays_33 (by decide) rfl rfl ?_
        refine J_eq (L' := [(33, 0), (35, 0), (0, ((m : Nat) : Int)), (0, (((2 ^ m - 1) : Nat) : Int)), (0, ((s : Nat) : Int)), (0, ((0 : Nat) : Int)), (9, 0)]) rfl rfl rfl ?_
        refine ev_X7_laysWays_25_L35 m hm G M hG s (by omega) (fun M3 c1 c2 => ?_) _ _ _ (by exact Ch_up (by decide) f1) (by intro u hu; rw [j_up_nz (by omega)]; exact f2 u hu) (by rw [j_up_eq]; rw [if_neg (by omega)]; rfl) (by omega) (Nat.lt_succ_self _)
        ·
          refine J_iinc (v := (((s + 1) : Nat) : Int)) (L' := [(33, 0), (35, 0), (0, ((m : Nat) : Int)), (0, (((2 ^ m - 1) : Nat) : Int)), (0, (((s + 1) : Nat) : Int)), (9, 0), (9, 0)]) dX7_laysWays_110 rfl (by omega) (by decide) rfl rfl ?_
          refine J_goto (tgt := 9) dX7_laysWays_113 rfl ?_
          exact ih _ _ (by exact c1) (by exact c2) (by omega) (by omega)
      ·
        refine J_iconst dX7_laysWays_26 ?_
        refine J_goto (tgt := 31) dX7_laysWays_27 rfl ?_
        refine J_iast dX7_laysWays_31 rfl (by decide) (by omega) ?_
        refine J_iconst dX7_laysWays_32 ?_
        refine J_istore (L' := [(33, 0), (35, 0), (0, ((m : Nat) : Int)), (0, (((2 ^ m - 1) : Nat) : Int)), (0, ((s : Nat) : Int)), (0, 0), (9, 0)]) dX7_laysWays_33 (by decide) rfl rfl ?_
        refine J_eq (L' := [(33, 0), (35, 0), (0, ((m : Nat) : Int)), (0, (((2 ^ m - 1) : Nat) : Int)), (0, ((s : Nat) : Int)), (0, ((0 : Nat) : Int)), (9, 0)]) rfl rfl rfl ?_
        refine ev_X7_laysWays_25_L35 m hm G M hG s (by omega) (fun M3 c1 c2 => ?_) _ _ _ (by exact Ch_up (by decide) f1) (by intro u hu; rw [j_up_nz (by omega)]; exact f2 u hu) (by rw [j_up_eq]; rw [if_pos (by omega)]; rfl) (by omega) (Nat.lt_succ_self _)
        ·
          refine J_iinc (v := (((s + 1) : Nat) : Int)) (L' := [(33, 0), (35, 0), (0, ((m : Nat) : Int)), (0, (((2 ^ m - 1) : Nat) : Int)), (0, (((s + 1) : Nat) : Int)), (9, 0), (9, 0)]) dX7_laysWays_110 rfl (by omega) (by decide) rfl rfl ?_
          refine J_goto (tgt := 9) dX7_laysWays_113 rfl ?_
          exact ih _ _ (by exact c1) (by exact c2) (by omega) (by omega)
set_option maxRecDepth 100000 in
set_option maxHeartbeats 4000000 in
theorem ev_X7_laysWays_25 (m : Nat) (hm : m ≤ 12) (G : Nat → Nat) (M : jM) (hG : RowA 25 M m G) : Ev 2 mX7_laysWays [(33, 0), (35, 0), (0, ((m : Nat) : Int))] M (fun z M' => Ch [33, 34] M M' ∧ (∀ u : Nat, u < 2 ^ m → M' 33 (u : Int) = ((wto G m u : Nat) : Int)) ∧ ∀ u : Nat, u < 2 ^ m → M' 34 (u : Int) = ((won G m u : Nat) : Int)) := by
  refine Ev_of (by decide +kernel) (Nat.le_of_ble_eq_true rfl) (L := [(33, 0), (35, 0), (0, ((m : Nat) : Int)), (9, 0), (9, 0), (9, 0), (9, 0)]) rfl ?_
  have h2m := p4096 hm
  have h2p := Nat.two_pow_pos m
  refine J_iconst dX7_laysWays_0 ?_
  refine J_iload_n dX7_laysWays_1 rfl ?_
  refine J_ishl dX7_laysWays_2 (J_top (v := (((2 ^ m) : Nat) : Int)) (j_shl1 rfl rfl (by omega)) ?_)
  refine J_iconst dX7_laysWays_3 ?_
  refine J_isub dX7_laysWays_4 (J_top (v := (((2 ^ m - 1) : Nat) : Int)) (by omega) ?_)
  refine J_istore_n (L' := [(33, 0), (35, 0), (0, ((m : Nat) : Int)), (0, (((2 ^ m - 1) : Nat) : Int)), (9, 0), (9, 0), (9, 0)]) dX7_laysWays_5 (by decide) rfl rfl ?_
  refine J_iconst dX7_laysWays_6 ?_
  refine J_istore (L' := [(33, 0), (35, 0), (0, ((m : Nat) : Int)), (0, (((2 ^ m - 1) : Nat) : Int)), (0, 0), (9, 0), (9, 0)]) dX7_laysWays_7 (by decide) rfl rfl ?_
  refine J_eq (L' := [(33, 0), (35, 0), (0, ((m : Nat) : Int)), (0, (((2 ^ m - 1) : Nat) : Int)), (0, ((0 : Nat) : Int)), (9, 0), (9, 0)]) rfl rfl rfl ?_
  exact ev_X7_laysWays_25_L9 m hm G M hG  _ _ _ (by exact Ch_rf) (by intro u hu; omega) (by omega) (Nat.lt_succ_self _)
set_option maxRecDepth 100000 in
set_option maxHeartbeats 4000000 in
theorem ev_X7_laysWays_36_L145 (m : Nat) (hm : m ≤ 12) (G : Nat → Nat) (M : jM) (hG : RowA 36 M m G) (s : Nat) (hs2 : s < 2 ^ m) (K0 : ∀ (M3 : jM) (c1 : Ch [33, 34] M M3) (c2 : ∀ u : Nat, u < 2 ^ m → M3 33 (u : Int) = ((wto G m u : Nat) : Int)) (c3 : ∀ u : Nat, s ≤ u → u < 2 ^ m → M3 34 (u : Int) = ((won G m u : Nat) : Int)), J none 2 mX7_laysWays 218 [(33, 0), (46, 0), (0, ((m : Nat) : Int)), (0, (((2 ^ m - 1) : Nat) : Int)), (0, ((s : Nat) : Int)), (9, 0), (9, 0)] [] M3 (j_ret mX7_laysWays (fun z M' => Ch [33, 34] M M' ∧ (∀ u : Nat, u < 2 ^ m → M' 33 (u : Int) = ((wto G m u : Nat) : Int)) ∧ ∀ u : Nat, u < 2 ^ m → M' 34 (u : Int) = ((won G m u : Nat) : Int)))) : ∀ (fu : Nat) (M2 : jM) (k : Nat) (g1 : Ch [33, 34] M M2) (g5 : ∀ u : Nat, u < 2 ^ m → M2 33 (u : Int) = ((wto G m u : Nat) : Int)) (g2 : ∀ u : Nat, s + 1 ≤ u → u < 2 ^ m → M2 34 (u : Int) = ((won G m u : Nat) : Int)) (g3 : M2 34 (s : Int) = (((if s = 2 ^ m - 1 then 1 else 0) + smN k (wnF G m s) : Nat) : Int)) (g4 : k ≤ m) (hfu : m - k < fu), J none 2 mX7_laysWays 145 [(33, 0), (46, 0), (0, ((m : Nat) : Int)), (0, (((2 ^ m - 1) : Nat) : Int)), (0, ((s : Nat) : Int)), (0, ((k : Nat) : Int)), (9, 0)] [] M2 (j_ret mX7_laysWays (fun z M' => Ch [33, 34] M M' ∧ (∀ u : Nat, u < 2 ^ m → M' 33 (u : Int) = ((wto G m u : Nat) : Int)) ∧ ∀ u : Nat, u < 2 ^ m → M' 34 (u : Int) = ((won G m u : Nat) : Int))) := by
  intro fu
  induction fu with
  | zero => intro M2 k g1 g5 g2 g3 g4 hfu; exact absurd hfu (Nat.not_lt_zero _)
  | succ fu ih =>
    intro M2 k g1 g5 g2 g3 g4 hfu
    have h2m := p4096 hm
    have h2p := Nat.two_pow_pos m
    refine J_iload dX7_laysWays_145 rfl ?_
    refine J_iload_n dX7_laysWays_147 rfl ?_
    refine J_icmp_ge (tgt := 218) dX7_laysWays_148 rfl (j_R (by omega)) (j_R (by omega)) (fun h148 => ?_) (fun h148 => ?_)
    ·
      refine J_unset 5 (L' := [(33, 0), (46, 0), (0, ((m : Nat) : Int)), (0, (((2 ^ m - 1) : Nat) : Int)), (0, ((s : Nat) : Int)), (9, 0), (9, 0)]) rfl ?_
      exact K0 _ (by exact g1) (by exact g5) (by intro u h1 h2; rcases Nat.lt_or_ge s u with q | q; exact g2 u q h2; rw [show u = s by omega, g3, show k = m by omega, ← won_eq hs2])
    ·
      refine J_iload dX7_laysWays_151 rfl ?_
      refine J_iconst dX7_laysWays_153 ?_
      refine J_iload dX7_laysWays_154 rfl ?_
      refine J_ishl dX7_laysWays_156 (J_top (v := (((2 ^ k) : Nat) : Int)) (j_shl1 rfl rfl (by omega)) ?_)
      refine J_ior dX7_laysWays_157 (J_top (v := (((s ||| (2 ^ k)) : Nat) : Int)) (j_orN rfl rfl (by omega) (nb_p2 (by omega))) ?_)
      refine J_istore (L' := [(33, 0), (46, 0), (0, ((m : Nat) : Int)), (0, (((2 ^ m - 1) : Nat) : Int)), (0, ((s : Nat) : Int)), (0, ((k : Nat) : Int)), (0, (((s ||| (2 ^ k)) : Nat) : Int))]) dX7_laysWays_158 (by decide) rfl rfl ?_
      refine J_aload_n dX7_laysWays_160 rfl ?_
      refine J_getR dX7_laysWays_161 flX7_46 rfl rfl ?_
      refine J_iload dX7_laysWays_164 rfl ?_
      refine J_dup2 dX7_laysWays_166 rfl rfl ?_
      refine J_iald dX7_laysWays_167 rfl (by decide) (by omega) (J_top (v := ((((if s = 2 ^ m - 1 then 1 else 0) + smN k (wnF G m s)) : Nat) : Int)) g3 ?_)
      refine J_iload dX7_laysWays_168 rfl ?_
      refine J_iload dX7_laysWays_170 rfl ?_
      refine J_callSiQ (cl := mX7_has) [(0, ((s : Nat) : Int)), (0, ((k : Nat) : Int))] [(0, ((((if s = 2 ^ m - 1 then 1 else 0) + smN k (wnF G m s)) : Nat) : Int)), (0, ((s : Nat) : Int)), (44, 0)] dX7_laysWays_172 mlX7_132 csX7_has rfl rfl (by decide) (Nat.le_of_ble_eq_true rfl) rfl (ev_X7_has s k (by omega) (by omega) M2) ?_
      refine J_ifb_ne (tgt := 209) dX7_laysWays_175 rfl (fun h175 => ?_) (fun h175 => ?_)
      ·
        refine J_iconst dX7_laysWays_209 ?_
        refine J_iadd dX7_laysWays_210 (J_top (v := ((((if s = 2 ^ m - 1 then 1 else 0) + smN k (wnF G m s)) : Nat) : Int)) (by omega) ?_)
        refine J_iast dX7_laysWays_211 rfl (by decide) (by omega) ?_
        refine J_iinc (v := (((k + 1) : Nat) : Int)) (L' := [(33, 0), (46, 0), (0, ((m : Nat) : Int)), (0, (((2 ^ m - 1) : Nat) : Int)), (0, ((s : Nat) : Int)), (0, (((k + 1) : Nat) : Int)), (0, (((s ||| (2 ^ k)) : Nat) : Int))]) dX7_laysWays_212 rfl (by omega) (by decide) rfl rfl ?_
        refine J_goto (tgt := 145) dX7_laysWays_215 rfl ?_
        refine J_unset 6 (L' := [(33, 0), (46, 0), (0, ((m : Nat) : Int)), (0, (((2 ^ m - 1) : Nat) : Int)), (0, ((s : Nat) : Int)), (0, (((k + 1) : Nat) : Int)), (9, 0)]) rfl ?_
        exact ih _ _ (by exact Ch_up (by decide) g1) (by intro u hu; rw [j_up_ne (by decide)]; exact g5 u hu) (by intro u h1 h2; rw [j_up_nz (by omega)]; exact g2 u h1 h2) (by rw [j_up_eq]; simp only [smN]; rw [show wnF G m s k = 0 from if_neg (fun q => absurd q.1 (by rw [h175]; decide))]; omega) (by omega) (by omega)
      ·
        refine J_aload_n dX7_laysWays_178 rfl ?_
        refine J_getR dX7_laysWays_179 flX7_46 rfl rfl ?_
        refine J_iload dX7_laysWays_182 rfl ?_
        refine J_iald dX7_laysWays_184 rfl (by decide) (by have := or_bit_lt (k := k) hs2 (by omega); omega) (J_top (v := (((won G m (s ||| 2 ^ k)) : Nat) : Int)) (g2 _ (or_bit_gt h175) (or_bit_lt hs2 (by omega))) ?_)
        refine J_if_le (tgt := 209) dX7_laysWays_185 rfl (j_R (won31 G hm _)) (fun h185 => ?_) (fun h185 => ?_)
        ·
          refine J_iconst dX7_laysWays_209 ?_
          refine J_iadd dX7_laysWays_210 (J_top (v := ((((if s = 2 ^ m - 1 then 1 else 0) + smN k (wnF G m s)) : Nat) : Int)) (by omega) ?_)
          refine J_iast dX7_laysWays_211 rfl (by decide) (by omega) ?_
          refine J_iinc (v := (((k + 1) : Nat) : Int)) (L' := [(33, 0), (46, 0), (0, ((m : Nat) : Int)), (0, (((2 ^ m - 1) : Nat) : Int)), (0, ((s : Nat) : Int)), (0, (((k + 1) : Nat) : Int)), (0, (((s ||| (2 ^ k)) : Nat) : Int))]) dX7_laysWays_212 rfl (by omega) (by decide) rfl rfl ?_
          refine J_goto (tgt := 145) dX7_laysWays_215 rfl ?_
          refine J_unset 6 (L' := [(33, 0), (46, 0), (0, ((m : Nat) : Int)), (0, (((2 ^ m - 1) : Nat) : Int)), (0, ((s : Nat) : Int)), (0, (((k + 1) : Nat) : Int)), (9, 0)]) rfl ?_
          exact ih _ _ (by exact Ch_up (by decide) g1) (by intro u hu; rw [j_up_ne (by decide)]; exact g5 u hu) (by intro u h1 h2; rw [j_up_nz (by omega)]; exact g2 u h1 h2) (by rw [j_up_eq]; simp only [smN]; rw [show wnF G m s k = 0 from (by unfold wnF; split; omega; rfl)]; omega) (by omega) (by omega)
        ·
          refine J_aload_n dX7_laysWays_188 rfl ?_
          refine J_iload dX7_laysWays_189 rfl ?_
          refine J_iload dX7_laysWays_191 rfl ?_
          refine J_callSiQ (cl := mX7_joinsSet) [(46, 0), (0, ((k : Nat) : Int)), (0, ((s : Nat) : Int))] [(0, ((((if s = 2 ^ m - 1 then 1 else 0) + smN k (wnF G m s)) : Nat) : Int)), (0, ((s : Nat) : Int)), (44, 0)] dX7_laysWays_193 mlX7_262 csX7_joinsSet rfl rfl (by decide) (Nat.le_of_ble_eq_true rfl) rfl (ev_X7_joinsSet_36 m hm G M2 (rowA_ch g1 (by decide) hG) k s (by omega) hs2) ?_
          refine J_ifb_eq (tgt := 209) dX7_laysWays_196 rfl (fun h196 => ?_) (fun h196 => ?_)
          ·
            refine J_iconst dX7_laysWays_209 ?_
            refine J_iadd dX7_laysWays_210 (J_top (v := ((((if s = 2 ^ m - 1 then 1 else 0) + smN k (wnF G m s)) : Nat) : Int)) (by omega) ?_)
            refine J_iast dX7_laysWays_211 rfl (by decide) (by omega) ?_
            refine J_iinc (v := (((k + 1) : Nat) : Int)) (L' := [(33, 0), (46, 0), (0, ((m : Nat) : Int)), (0, (((2 ^ m - 1) : Nat) : Int)), (0, ((s : Nat) : Int)), (0, (((k + 1) : Nat) : Int)), (0, (((s ||| (2 ^ k)) : Nat) : Int))]) dX7_laysWays_212 rfl (by omega) (by decide) rfl rfl ?_
            refine J_goto (tgt := 145) dX7_laysWays_215 rfl ?_
            refine J_unset 6 (L' := [(33, 0), (46, 0), (0, ((m : Nat) : Int)), (0, (((2 ^ m - 1) : Nat) : Int)), (0, ((s : Nat) : Int)), (0, (((k + 1) : Nat) : Int)), (9, 0)]) rfl ?_
            exact ih _ _ (by exact Ch_up (by decide) g1) (by intro u hu; rw [j_up_ne (by decide)]; exact g5 u hu) (by intro u h1 h2; rw [j_up_nz (by omega)]; exact g2 u h1 h2) (by rw [j_up_eq]; simp only [smN]; rw [show wnF G m s k = 0 from if_neg (fun q => absurd q.2 (by rw [h196]; decide))]; omega) (by omega) (by omega)
          ·
            refine J_aload_n dX7_laysWays_199 rfl ?_
            refine J_getR dX7_laysWays_200 flX7_46 rfl rfl ?_
            refine J_iload dX7_laysWays_203 rfl ?_
            refine J_iald dX7_laysWays_205 rfl (by decide) (by have := or_bit_lt (k := k) hs2 (by omega); omega) (J_top (v := (((won G m (s ||| 2 ^ k)) : Nat) : Int)) (g2 _ (or_bit_gt h175) (or_bit_lt hs2 (by omega))) ?_)
            refine J_goto (tgt := 210) dX7_laysWays_206 rfl ?_
            refine J_iadd dX7_laysWays_210 (J_top (v := (((((if s = 2 ^ m - 1 then 1 else 0) + smN k (wnF G m s)) + (won G m (s ||| 2 ^ k))) : Nat) : Int)) (by omega) ?_)
            refine J_iast dX7_laysWays_211 rfl (by decide) (by omega) ?_
            refine J_iinc (v := (((k + 1) : Nat) : Int)) (L' := [(33, 0), (46, 0), (0, ((m : Nat) : Int)), (0, (((2 ^ m - 1) : Nat) : Int)), (0, ((s : Nat) : Int)), (0, (((k + 1) : Nat) : Int)), (0, (((s ||| (2 ^ k)) : Nat) : Int))]) dX7_laysWays_212 rfl (by omega) (by decide) rfl rfl ?_
            refine J_goto (tgt := 145) dX7_laysWays_215 rfl ?_
            refine J_unset 6 (L' := [(33, 0), (46, 0), (0, ((m : Nat) : Int)), (0, (((2 ^ m - 1) : Nat) : Int)), (0, ((s : Nat) : Int)), (0, (((k + 1) : Nat) : Int)), (9, 0)]) rfl ?_
            exact ih _ _ (by exact Ch_up (by decide) g1) (by intro u hu; rw [j_up_ne (by decide)]; exact g5 u hu) (by intro u h1 h2; rw [j_up_nz (by omega)]; exact g2 u h1 h2) (by rw [j_up_eq]; simp only [smN]; rw [show wnF G m s k = won G m (s ||| 2 ^ k) from if_pos ⟨h175, h196⟩]; omega) (by omega) (by omega)
set_option maxRecDepth 100000 in
set_option maxHeartbeats 4000000 in
theorem ev_X7_laysWays_36_L35 (m : Nat) (hm : m ≤ 12) (G : Nat → Nat) (M : jM) (hG : RowA 36 M m G) (s : Nat) (hs2 : s < 2 ^ m) (K0 : ∀ (M3 : jM) (c1 : Ch [33, 34] M M3) (c2 : ∀ u : Nat, u < s + 1 → M3 33 (u : Int) = ((wto G m u : Nat) : Int)), J none 2 mX7_laysWays 110 [(33, 0), (46, 0), (0, ((m : Nat) : Int)), (0, (((2 ^ m - 1) : Nat) : Int)), (0, ((s : Nat) : Int)), (9, 0), (9, 0)] [] M3 (j_ret mX7_laysWays (fun z M' => Ch [33, 34] M M' ∧ (∀ u : Nat, u < 2 ^ m → M' 33 (u : Int) = ((wto G m u : Nat) : Int)) ∧ ∀ u : Nat, u < 2 ^ m → M' 34 (u : Int) = ((won G m u : Nat) : Int)))) : ∀ (fu : Nat) (M2 : jM) (k : Nat) (g1 : Ch [33, 34] M M2) (g2 : ∀ u : Nat, u < s → M2 33 (u : Int) = ((wto G m u : Nat) : Int)) (g3 : M2 33 (s : Int) = (((if s = 0 then 1 else 0) + smN k (wtF G m s) : Nat) : Int)) (g4 : k ≤ m) (hfu : m - k < fu), J none 2 mX7_laysWays 35 [(33, 0), (46, 0), (0, ((m : Nat) : Int)), (0, (((2 ^ m - 1) : Nat) : Int)), (0, ((s : Nat) : Int)), (0, ((k : Nat) : Int)), (9, 0)] [] M2 (j_ret mX7_laysWays (fun z M' => Ch [33, 34] M M' ∧ (∀ u : Nat, u < 2 ^ m → M' 33 (u : Int) = ((wto G m u : Nat) : Int)) ∧ ∀ u : Nat, u < 2 ^ m → M' 34 (u : Int) = ((won G m u : Nat) : Int))) := by
  intro fu
  induction fu with
  | zero => intro M2 k g1 g2 g3 g4 hfu; exact absurd hfu (Nat.not_lt_zero _)
  | succ fu ih =>
    intro M2 k g1 g2 g3 g4 hfu
    have h2m := p4096 hm
    have h2p := Nat.two_pow_pos m
    refine J_iload dX7_laysWays_35 rfl ?_
    refine J_iload_n dX7_laysWays_37 rfl ?_
    refine J_icmp_ge (tgt := 110) dX7_laysWays_38 rfl (j_R (by omega)) (j_R (by omega)) (fun h38 => ?_) (fun h38 => ?_)
    ·
      refine J_unset 5 (L' := [(33, 0), (46, 0), (0, ((m : Nat) : Int)), (0, (((2 ^ m - 1) : Nat) : Int)), (0, ((s : Nat) : Int)), (9, 0), (9, 0)]) rfl ?_
      exact K0 _ (by exact g1) (by intro u hu; rcases Nat.lt_or_ge u s with q | q; exact g2 u q; rw [show u = s by omega, g3, show k = m by omega, ← wto_eq])
    ·
      refine J_iload dX7_laysWays_41 rfl ?_
      refine J_iconst dX7_laysWays_43 ?_
      refine J_iload dX7_laysWays_44 rfl ?_
      refine J_ishl dX7_laysWays_46 (J_top (v := (((2 ^ k) : Nat) : Int)) (j_shl1 rfl rfl (by omega)) ?_)
      refine J_iconst dX7_laysWays_47 ?_
      refine J_ixor dX7_laysWays_48 (J_top (v := (-(((2 ^ k) : Nat) : Int) - 1)) (j_notN rfl (nb_p2 (by omega))) ?_)
      refine J_iand dX7_laysWays_49 (J_top (v := (((ndf s (2 ^ k)) : Nat) : Int)) (j_ndfN rfl rfl (by omega)) ?_)
      refine J_istore (L' := [(33, 0), (46, 0), (0, ((m : Nat) : Int)), (0, (((2 ^ m - 1) : Nat) : Int)), (0, ((s : Nat) : Int)), (0, ((k : Nat) : Int)), (0, (((ndf s (2 ^ k)) : Nat) : Int))]) dX7_laysWays_50 (by decide) rfl rfl ?_
      refine J_aload_n dX7_laysWays_52 rfl ?_
      refine J_getR dX7_laysWays_53 flX7_43 rfl rfl ?_
      refine J_iload dX7_laysWays_56 rfl ?_
      refine J_dup2 dX7_laysWays_58 rfl rfl ?_
      refine J_iald dX7_laysWays_59 rfl (by decide) (by omega) (J_top (v := ((((if s = 0 then 1 else 0) + smN k (wtF G m s)) : Nat) : Int)) g3 ?_)
      refine J_iload dX7_laysWays_60 rfl ?_
      refine J_iload dX7_laysWays_62 rfl ?_
      refine J_callSiQ (cl := mX7_has) [(0, ((s : Nat) : Int)), (0, ((k : Nat) : Int))] [(0, ((((if s = 0 then 1 else 0) + smN k (wtF G m s)) : Nat) : Int)), (0, ((s : Nat) : Int)), (43, 0)] dX7_laysWays_64 mlX7_132 csX7_has rfl rfl (by decide) (Nat.le_of_ble_eq_true rfl) rfl (ev_X7_has s k (by omega) (by omega) M2) ?_
      refine J_ifb_eq (tgt := 101) dX7_laysWays_67 rfl (fun h67 => ?_) (fun h67 => ?_)
      ·
        refine J_iconst dX7_laysWays_101 ?_
        refine J_iadd dX7_laysWays_102 (J_top (v := ((((if s = 0 then 1 else 0) + smN k (wtF G m s)) : Nat) : Int)) (by omega) ?_)
        refine J_iast dX7_laysWays_103 rfl (by decide) (by omega) ?_
        refine J_iinc (v := (((k + 1) : Nat) : Int)) (L' := [(33, 0), (46, 0), (0, ((m : Nat) : Int)), (0, (((2 ^ m - 1) : Nat) : Int)), (0, ((s : Nat) : Int)), (0, (((k + 1) : Nat) : Int)), (0, (((ndf s (2 ^ k)) : Nat) : Int))]) dX7_laysWays_104 rfl (by omega) (by decide) rfl rfl ?_
        refine J_goto (tgt := 35) dX7_laysWays_107 rfl ?_
        refine J_unset 6 (L' := [(33, 0), (46, 0), (0, ((m : Nat) : Int)), (0, (((2 ^ m - 1) : Nat) : Int)), (0, ((s : Nat) : Int)), (0, (((k + 1) : Nat) : Int)), (9, 0)]) rfl ?_
        exact ih _ _ (by exact Ch_up (by decide) g1) (by intro u hu; rw [j_up_nz (by omega)]; exact g2 u hu) (by rw [j_up_eq]; simp only [smN]; rw [show wtF G m s k = 0 from if_neg (fun q => absurd q.1 (by rw [h67]; decide))]; omega) (by omega) (by omega)
      ·
        refine J_aload_n dX7_laysWays_70 rfl ?_
        refine J_getR dX7_laysWays_71 flX7_43 rfl rfl ?_
        refine J_iload dX7_laysWays_74 rfl ?_
        refine J_iald dX7_laysWays_76 rfl (by decide) (by have := ndf_le s (2 ^ k); omega) (J_top (v := (((wto G m (ndf s (2 ^ k))) : Nat) : Int)) (g2 _ (ndf_bit_lt h67)) ?_)
        refine J_if_le (tgt := 101) dX7_laysWays_77 rfl (j_R (wto31 G hm (nb_ndf hs2))) (fun h77 => ?_) (fun h77 => ?_)
        ·
          refine J_iconst dX7_laysWays_101 ?_
          refine J_iadd dX7_laysWays_102 (J_top (v := ((((if s = 0 then 1 else 0) + smN k (wtF G m s)) : Nat) : Int)) (by omega) ?_)
          refine J_iast dX7_laysWays_103 rfl (by decide) (by omega) ?_
          refine J_iinc (v := (((k + 1) : Nat) : Int)) (L' := [(33, 0), (46, 0), (0, ((m : Nat) : Int)), (0, (((2 ^ m - 1) : Nat) : Int)), (0, ((s : Nat) : Int)), (0, (((k + 1) : Nat) : Int)), (0, (((ndf s (2 ^ k)) : Nat) : Int))]) dX7_laysWays_104 rfl (by omega) (by decide) rfl rfl ?_
          refine J_goto (tgt := 35) dX7_laysWays_107 rfl ?_
          refine J_unset 6 (L' := [(33, 0), (46, 0), (0, ((m : Nat) : Int)), (0, (((2 ^ m - 1) : Nat) : Int)), (0, ((s : Nat) : Int)), (0, (((k + 1) : Nat) : Int)), (9, 0)]) rfl ?_
          exact ih _ _ (by exact Ch_up (by decide) g1) (by intro u hu; rw [j_up_nz (by omega)]; exact g2 u hu) (by rw [j_up_eq]; simp only [smN]; rw [show wtF G m s k = 0 from (by unfold wtF; split; omega; rfl)]; omega) (by omega) (by omega)
        ·
          refine J_aload_n dX7_laysWays_80 rfl ?_
          refine J_iload dX7_laysWays_81 rfl ?_
          refine J_iload dX7_laysWays_83 rfl ?_
          refine J_callSiQ (cl := mX7_joinsSet) [(46, 0), (0, ((k : Nat) : Int)), (0, (((ndf s (2 ^ k)) : Nat) : Int))] [(0, ((((if s = 0 then 1 else 0) + smN k (wtF G m s)) : Nat) : Int)), (0, ((s : Nat) : Int)), (43, 0)] dX7_laysWays_85 mlX7_262 csX7_joinsSet rfl rfl (by decide) (Nat.le_of_ble_eq_true rfl) rfl (ev_X7_joinsSet_36 m hm G M2 (rowA_ch g1 (by decide) hG) k (ndf s (2 ^ k)) (by omega) (nb_ndf hs2)) ?_
          refine J_ifb_eq (tgt := 101) dX7_laysWays_88 rfl (fun h88 => ?_) (fun h88 => ?_)
          ·
            refine J_iconst dX7_laysWays_101 ?_
            refine J_iadd dX7_laysWays_102 (J_top (v := ((((if s = 0 then 1 else 0) + smN k (wtF G m s)) : Nat) : Int)) (by omega) ?_)
            refine J_iast dX7_laysWays_103 rfl (by decide) (by omega) ?_
            refine J_iinc (v := (((k + 1) : Nat) : Int)) (L' := [(33, 0), (46, 0), (0, ((m : Nat) : Int)), (0, (((2 ^ m - 1) : Nat) : Int)), (0, ((s : Nat) : Int)), (0, (((k + 1) : Nat) : Int)), (0, (((ndf s (2 ^ k)) : Nat) : Int))]) dX7_laysWays_104 rfl (by omega) (by decide) rfl rfl ?_
            refine J_goto (tgt := 35) dX7_laysWays_107 rfl ?_
            refine J_unset 6 (L' := [(33, 0), (46, 0), (0, ((m : Nat) : Int)), (0, (((2 ^ m - 1) : Nat) : Int)), (0, ((s : Nat) : Int)), (0, (((k + 1) : Nat) : Int)), (9, 0)]) rfl ?_
            exact ih _ _ (by exact Ch_up (by decide) g1) (by intro u hu; rw [j_up_nz (by omega)]; exact g2 u hu) (by rw [j_up_eq]; simp only [smN]; rw [show wtF G m s k = 0 from if_neg (fun q => absurd q.2 (by rw [h88]; decide))]; omega) (by omega) (by omega)
          ·
            refine J_aload_n dX7_laysWays_91 rfl ?_
            refine J_getR dX7_laysWays_92 flX7_43 rfl rfl ?_
            refine J_iload dX7_laysWays_95 rfl ?_
            refine J_iald dX7_laysWays_97 rfl (by decide) (by have := ndf_le s (2 ^ k); omega) (J_top (v := (((wto G m (ndf s (2 ^ k))) : Nat) : Int)) (g2 _ (ndf_bit_lt h67)) ?_)
            refine J_goto (tgt := 102) dX7_laysWays_98 rfl ?_
            refine J_iadd dX7_laysWays_102 (J_top (v := (((((if s = 0 then 1 else 0) + smN k (wtF G m s)) + (wto G m (ndf s (2 ^ k)))) : Nat) : Int)) (by omega) ?_)
            refine J_iast dX7_laysWays_103 rfl (by decide) (by omega) ?_
            refine J_iinc (v := (((k + 1) : Nat) : Int)) (L' := [(33, 0), (46, 0), (0, ((m : Nat) : Int)), (0, (((2 ^ m - 1) : Nat) : Int)), (0, ((s : Nat) : Int)), (0, (((k + 1) : Nat) : Int)), (0, (((ndf s (2 ^ k)) : Nat) : Int))]) dX7_laysWays_104 rfl (by omega) (by decide) rfl rfl ?_
            refine J_goto (tgt := 35) dX7_laysWays_107 rfl ?_
            refine J_unset 6 (L' := [(33, 0), (46, 0), (0, ((m : Nat) : Int)), (0, (((2 ^ m - 1) : Nat) : Int)), (0, ((s : Nat) : Int)), (0, (((k + 1) : Nat) : Int)), (9, 0)]) rfl ?_
            exact ih _ _ (by exact Ch_up (by decide) g1) (by intro u hu; rw [j_up_nz (by omega)]; exact g2 u hu) (by rw [j_up_eq]; simp only [smN]; rw [show wtF G m s k = wto G m (ndf s (2 ^ k)) from if_pos ⟨h67, h88⟩]; omega) (by omega) (by omega)
set_option maxRecDepth 100000 in
set_option maxHeartbeats 4000000 in
theorem ev_X7_laysWays_36_L119 (m : Nat) (hm : m ≤ 12) (G : Nat → Nat) (M : jM) (hG : RowA 36 M m G)  : ∀ (fu : Nat) (M1 : jM) (t : Nat) (f1 : Ch [33, 34] M M1) (f2 : ∀ u : Nat, u < 2 ^ m → M1 33 (u : Int) = ((wto G m u : Nat) : Int)) (f4 : ∀ u : Nat, t ≤ u → u < 2 ^ m → M1 34 (u : Int) = ((won G m u : Nat) : Int)) (f3 : t ≤ 2 ^ m) (hfu : t < fu), J none 2 mX7_laysWays 119 [(33, 0), (46, 0), (0, ((m : Nat) : Int)), (0, (((2 ^ m - 1) : Nat) : Int)), (0, (((t : Nat) : Int) - 1)), (9, 0), (9, 0)] [] M1 (j_ret mX7_laysWays (fun z M' => Ch [33, 34] M M' ∧ (∀ u : Nat, u < 2 ^ m → M' 33 (u : Int) = ((wto G m u : Nat) : Int)) ∧ ∀ u : Nat, u < 2 ^ m → M' 34 (u : Int) = ((won G m u : Nat) : Int))) := by
  intro fu
  induction fu with
  | zero => intro M1 t f1 f2 f4 f3 hfu; exact absurd hfu (Nat.not_lt_zero _)
  | succ fu ih =>
    intro M1 t f1 f2 f4 f3 hfu
    have h2m := p4096 hm
    have h2p := Nat.two_pow_pos m
    refine J_iload dX7_laysWays_119 rfl ?_
    refine J_if_lt (tgt := 224) dX7_laysWays_121 rfl (by omega) (fun h121 => ?_) (fun h121 => ?_)
    ·
      refine J_return dX7_laysWays_224 rfl ?_
      have : t = 0 := by omega
      subst this
      exact ⟨f1, f2, fun u hu => f4 u (Nat.zero_le _) hu⟩
    ·
      refine J_eq (L' := [(33, 0), (46, 0), (0, ((m : Nat) : Int)), (0, (((2 ^ m - 1) : Nat) : Int)), (0, (((t - 1) : Nat) : Int)), (9, 0), (9, 0)]) (by rw [show ((t : Nat) : Int) - 1 = ((t - 1 : Nat) : Int) by omega]) rfl rfl ?_
      refine J_aload_n dX7_laysWays_124 rfl ?_
      refine J_getR dX7_laysWays_125 flX7_46 rfl rfl ?_
      refine J_iload dX7_laysWays_128 rfl ?_
      refine J_iload dX7_laysWays_130 rfl ?_
      refine J_iload_n dX7_laysWays_132 rfl ?_
      refine J_icmp_ne (tgt := 140) dX7_laysWays_133 rfl (j_R (by omega)) (j_R (by omega)) (fun h133 => ?_) (fun h133 => ?_)
      ·
        refine J_iconst dX7_laysWays_140 ?_
        refine J_iast dX7_laysWays_141 rfl (by decide) (by omega) ?_
        refine J_iconst dX7_laysWays_142 ?_
        refine J_istore (L' := [(33, 0), (46, 0), (0, ((m : Nat) : Int)), (0, (((2 ^ m - 1) : Nat) : Int)), (0, (((t - 1) : Nat) : Int)), (0, 0), (9, 0)]) dX7_laysWays_143 (by decide) rfl rfl ?_
        refine J_eq (L' := [(33, 0), (46, 0), (0, ((m : Nat) : Int)), (0, (((2 ^ m - 1) : Nat) : Int)), (0, (((t - 1) : Nat) : Int)), (0, ((0 : Nat) : Int)), (9, 0)]) rfl rfl rfl ?_
        refine ev_X7_laysWays_36_L145 m hm G M hG (t - 1) (by omega) (fun M3 c1 c2 c3 => ?_) _ _ _ (by exact Ch_up (by decide) f1) (by intro u hu; rw [j_up_ne (by decide)]; exact f2 u hu) (by intro u h1 h2; rw [j_up_nz (by omega)]; exact f4 u (by omega) h2) (by rw [j_up_eq]; rw [if_neg (by omega)]; rfl) (by omega) (Nat.lt_succ_self _)
        ·
          refine J_iinc (v := ((((t - 1) : Nat) : Int) - 1)) (L' := [(33, 0), (46, 0), (0, ((m : Nat) : Int)), (0, (((2 ^ m - 1) : Nat) : Int)), (0, ((((t - 1) : Nat) : Int) - 1)), (9, 0), (9, 0)]) dX7_laysWays_218 rfl (by omega) (by decide) rfl rfl ?_
          refine J_goto (tgt := 119) dX7_laysWays_221 rfl ?_
          exact ih _ _ (by exact c1) (by exact c2) (by exact c3) (by omega) (by omega)
      ·
        refine J_iconst dX7_laysWays_136 ?_
        refine J_goto (tgt := 141) dX7_laysWays_137 rfl ?_
        refine J_iast dX7_laysWays_141 rfl (by decide) (by omega) ?_
        refine J_iconst dX7_laysWays_142 ?_
        refine J_istore (L' := [(33, 0), (46, 0), (0, ((m : Nat) : Int)), (0, (((2 ^ m - 1) : Nat) : Int)), (0, (((t - 1) : Nat) : Int)), (0, 0), (9, 0)]) dX7_laysWays_143 (by decide) rfl rfl ?_
        refine J_eq (L' := [(33, 0), (46, 0), (0, ((m : Nat) : Int)), (0, (((2 ^ m - 1) : Nat) : Int)), (0, (((t - 1) : Nat) : Int)), (0, ((0 : Nat) : Int)), (9, 0)]) rfl rfl rfl ?_
        refine ev_X7_laysWays_36_L145 m hm G M hG (t - 1) (by omega) (fun M3 c1 c2 c3 => ?_) _ _ _ (by exact Ch_up (by decide) f1) (by intro u hu; rw [j_up_ne (by decide)]; exact f2 u hu) (by intro u h1 h2; rw [j_up_nz (by omega)]; exact f4 u (by omega) h2) (by rw [j_up_eq]; rw [if_pos (by omega)]; rfl) (by omega) (Nat.lt_succ_self _)
        ·
          refine J_iinc (v := ((((t - 1) : Nat) : Int) - 1)) (L' := [(33, 0), (46, 0), (0, ((m : Nat) : Int)), (0, (((2 ^ m - 1) : Nat) : Int)), (0, ((((t - 1) : Nat) : Int) - 1)), (9, 0), (9, 0)]) dX7_laysWays_218 rfl (by omega) (by decide) rfl rfl ?_
          refine J_goto (tgt := 119) dX7_laysWays_221 rfl ?_
          exact ih _ _ (by exact c1) (by exact c2) (by exact c3) (by omega) (by omega)
set_option maxRecDepth 100000 in
set_option maxHeartbeats 4000000 in
theorem ev_X7_laysWays_36_L9 (m : Nat) (hm : m ≤ 12) (G : Nat → Nat) (M : jM) (hG : RowA 36 M m G)  : ∀ (fu : Nat) (M1 : jM) (s : Nat) (f1 : Ch [33, 34] M M1) (f2 : ∀ u : Nat, u < s → M1 33 (u : Int) = ((wto G m u : Nat) : Int)) (f3 : s ≤ 2 ^ m) (hfu : 2 ^ m - s < fu), J none 2 mX7_laysWays 9 [(33, 0), (46, 0), (0, ((m : Nat) : Int)), (0, (((2 ^ m - 1) : Nat) : Int)), (0, ((s : Nat) : Int)), (9, 0), (9, 0)] [] M1 (j_ret mX7_laysWays (fun z M' => Ch [33, 34] M M' ∧ (∀ u : Nat, u < 2 ^ m → M' 33 (u : Int) = ((wto G m u : Nat) : Int)) ∧ ∀ u : Nat, u < 2 ^ m → M' 34 (u : Int) = ((won G m u : Nat) : Int))) := by
  intro fu
  induction fu with
  | zero => intro M1 s f1 f2 f3 hfu; exact absurd hfu (Nat.not_lt_zero _)
  | succ fu ih =>
    intro M1 s f1 f2 f3 hfu
    have h2m := p4096 hm
    have h2p := Nat.two_pow_pos m
    refine J_iload dX7_laysWays_9 rfl ?_
    refine J_iload_n dX7_laysWays_11 rfl ?_
    refine J_icmp_gt (tgt := 116) dX7_laysWays_12 rfl (j_R (by omega)) (j_R (by omega)) (fun h12 => ?_) (fun h12 => ?_)
    ·
      refine J_iload_n dX7_laysWays_116 rfl (J_top (v := (((2 ^ m : Nat) : Int) - 1)) (by omega) ?_)
      refine J_istore (L' := [(33, 0), (46, 0), (0, ((m : Nat) : Int)), (0, (((2 ^ m - 1) : Nat) : Int)), (0, (((2 ^ m : Nat) : Int) - 1)), (9, 0), (9, 0)]) dX7_laysWays_117 (by decide) rfl rfl ?_
      exact ev_X7_laysWays_36_L119 m hm G M hG  _ _ _ (by exact f1) (by rw [show s = 2 ^ m by omega] at f2; exact f2) (by intro u h1 h2; omega) (by exact Nat.le_refl _) (Nat.lt_succ_self _)
    ·
      refine J_aload_n dX7_laysWays_15 rfl ?_
      refine J_getR dX7_laysWays_16 flX7_43 rfl rfl ?_
      refine J_iload dX7_laysWays_19 rfl ?_
      refine J_iload dX7_laysWays_21 rfl ?_
      refine J_if_ne (tgt := 30) dX7_laysWays_23 rfl (j_R (by omega)) (fun h23 => ?_) (fun h23 => ?_)
      ·
        refine J_iconst dX7_laysWays_30 ?_
        refine J_iast dX7_laysWays_31 rfl (by decide) (by omega) ?_
        refine J_iconst dX7_laysWays_32 ?_
        refine J_istore (L' := [(33, 0), (46, 0), (0, ((m : Nat) : Int)), (0, (((2 ^ m - 1) : Nat) : Int)), (0, ((s : Nat) : Int)), (0, 0), (9, 0)]) dX7_laysWays_33 (by decide) rfl rfl ?_
        refine J_eq (L' := [(33, 0), (46, 0), (0, ((m : Nat) : Int)), (0, (((2 ^ m - 1) : Nat) : Int)), (0, ((s : Nat) : Int)), (0, ((0 : Nat) : Int)), (9, 0)]) rfl rfl rfl ?_
        refine ev_X7_laysWays_36_L35 m hm G M hG s (by omega) (fun M3 c1 c2 => ?_) _ _ _ (by exact Ch_up (by decide) f1) (by intro u hu; rw [j_up_nz (by omega)]; exact f2 u hu) (by rw [j_up_eq]; rw [if_neg (by omega)]; rfl) (by omega) (Nat.lt_succ_self _)
        ·
          refine J_iinc (v := (((s + 1) : Nat) : Int)) (L' := [(33, 0), (46, 0), (0, ((m : Nat) : Int)), (0, (((2 ^ m - 1) : Nat) : Int)), (0, (((s + 1) : Nat) : Int)), (9, 0), (9, 0)]) dX7_laysWays_110 rfl (by omega) (by decide) rfl rfl ?_
          refine J_goto (tgt := 9) dX7_laysWays_113 rfl ?_
          exact ih _ _ (by exact c1) (by exact c2) (by omega) (by omega)
      ·
        refine J_iconst dX7_laysWays_26 ?_
        refine J_goto (tgt := 31) dX7_laysWays_27 rfl ?_
        refine J_iast dX7_laysWays_31 rfl (by decide) (by omega) ?_
        refine J_iconst dX7_laysWays_32 ?_
        refine J_istore (L' := [(33, 0), (46, 0), (0, ((m : Nat) : Int)), (0, (((2 ^ m - 1) : Nat) : Int)), (0, ((s : Nat) : Int)), (0, 0), (9, 0)]) dX7_laysWays_33 (by decide) rfl rfl ?_
        refine J_eq (L' := [(33, 0), (46, 0), (0, ((m : Nat) : Int)), (0, (((2 ^ m - 1) : Nat) : Int)), (0, ((s : Nat) : Int)), (0, ((0 : Nat) : Int)), (9, 0)]) rfl rfl rfl ?_
        refine ev_X7_laysWays_36_L35 m hm G M hG s (by omega) (fun M3 c1 c2 => ?_) _ _ _ (by exact Ch_up (by decide) f1) (by intro u hu; rw [j_up_nz (by omega)]; exact f2 u hu) (by rw [j_up_eq]; rw [if_pos (by omega)]; rfl) (by omega) (Nat.lt_succ_self _)
        ·
          refine J_iinc (v := (((s + 1) : Nat) : Int)) (L' := [(33, 0), (46, 0), (0, ((m : Nat) : Int)), (0, (((2 ^ m - 1) : Nat) : Int)), (0, (((s + 1) : Nat) : Int)), (9, 0), (9, 0)]) dX7_laysWays_110 rfl (by omega) (by decide) rfl rfl ?_
          refine J_goto (tgt := 9) dX7_laysWays_113 rfl ?_
          exact ih _ _ (by exact c1) (by exact c2) (by omega) (by omega)
set_option maxRecDepth 100000 in
set_option maxHeartbeats 4000000 in
theorem ev_X7_laysWays_36 (m : Nat) (hm : m ≤ 12) (G : Nat → Nat) (M : jM) (hG : RowA 36 M m G) : Ev 2 mX7_laysWays [(33, 0), (46, 0), (0, ((m : Nat) : Int))] M (fun z M' => Ch [33, 34] M M' ∧ (∀ u : Nat, u < 2 ^ m → M' 33 (u : Int) = ((wto G m u : Nat) : Int)) ∧ ∀ u : Nat, u < 2 ^ m → M' 34 (u : Int) = ((won G m u : Nat) : Int)) := by
  refine Ev_of (by decide +kernel) (Nat.le_of_ble_eq_true rfl) (L := [(33, 0), (46, 0), (0, ((m : Nat) : Int)), (9, 0), (9, 0), (9, 0), (9, 0)]) rfl ?_
  have h2m := p4096 hm
  have h2p := Nat.two_pow_pos m
  refine J_iconst dX7_laysWays_0 ?_
  refine J_iload_n dX7_laysWays_1 rfl ?_
  refine J_ishl dX7_laysWays_2 (J_top (v := (((2 ^ m) : Nat) : Int)) (j_shl1 rfl rfl (by omega)) ?_)
  refine J_iconst dX7_laysWays_3 ?_
  refine J_isub dX7_laysWays_4 (J_top (v := (((2 ^ m - 1) : Nat) : Int)) (by omega) ?_)
  refine J_istore_n (L' := [(33, 0), (46, 0), (0, ((m : Nat) : Int)), (0, (((2 ^ m - 1) : Nat) : Int)), (9, 0), (9, 0), (9, 0)]) dX7_laysWays_5 (by decide) rfl rfl ?_
  refine J_iconst dX7_laysWays_6 ?_
  refine J_istore (L' := [(33, 0), (46, 0), (0, ((m : Nat) : Int)), (0, (((2 ^ m - 1) : Nat) : Int)), (0, 0), (9, 0), (9, 0)]) dX7_laysWays_7 (by decide) rfl rfl ?_
  refine J_eq (L' := [(33, 0), (46, 0), (0, ((m : Nat) : Int)), (0, (((2 ^ m - 1) : Nat) : Int)), (0, ((0 : Nat) : Int)), (9, 0), (9, 0)]) rfl rfl rfl ?_
  exact ev_X7_laysWays_36_L9 m hm G M hG  _ _ _ (by exact Ch_rf) (by intro u hu; omega) (by omega) (Nat.lt_succ_self _)
