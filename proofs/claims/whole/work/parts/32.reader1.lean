theorem ru_ne {M : jM} {k k' : Nat} {z z' v x : Int} (h : k' ≠ k) (p : M k' z' = x) : j_up M k z v k' z' = x := by rw [j_up_ne h]; exact p
theorem ru_nz {M : jM} {k : Nat} {z z' v x : Int} (h : z' ≠ z) (p : M k z' = x) : j_up M k z v k z' = x := by rw [j_up_nz h]; exact p
/-! TOKENS of a text of n bytes -/
def rnT (q : Nat → Bool) (n p : Nat) : Nat := if h : p < n then (if q p = true then rnT q n (p + 1) else p) else p
termination_by n - p
decreasing_by omega
theorem rnT_step {q : Nat → Bool} {n p : Nat} (h : p < n) (hq : q p = true) : rnT q n p = rnT q n (p + 1) := by
  rw [rnT, dif_pos h, if_pos hq]
theorem rnT_stop {q : Nat → Bool} {n p : Nat} (hq : q p = false) : rnT q n p = p := by
  rw [rnT]
  split
  · rw [if_neg (by rw [hq]; decide)]
  · rfl
theorem rnT_end {q : Nat → Bool} {n p : Nat} (h : n ≤ p) : rnT q n p = p := by
  rw [rnT, dif_neg (by omega)]
theorem rnT_ge (q : Nat → Bool) (n p : Nat) : p ≤ rnT q n p := by
  by_cases h : p < n
  · by_cases hq : q p = true
    · rw [rnT_step h hq]
      have := rnT_ge q n (p + 1)
      omega
    · rw [rnT_stop (by simpa using hq)]
      exact Nat.le_refl _
  · rw [rnT_end (by omega)]
    exact Nat.le_refl _
termination_by n - p
theorem rnT_le (q : Nat → Bool) (n p : Nat) (hp : p ≤ n) : rnT q n p ≤ n := by
  by_cases h : p < n
  · by_cases hq : q p = true
    · rw [rnT_step h hq]
      exact rnT_le q n (p + 1) (by omega)
    · rw [rnT_stop (by simpa using hq)]
      omega
  · rw [rnT_end (by omega)]
    omega
termination_by n - p
def blB (tb : Nat → Nat) : Nat → Bool := fun j => tb j == 32
def ltB (tb : Nat → Nat) : Nat → Bool := fun j => decide (97 ≤ tb j ∧ tb j ≤ 122)
def dgB (tb : Nat → Nat) : Nat → Bool := fun j => decide (48 ≤ tb j ∧ tb j ≤ 57)
def tkP (n : Nat) (tb : Nat → Nat) (s : Nat) : Nat := rnT (blB tb) n s
def tkN (n : Nat) (tb : Nat → Nat) (s : Nat) : Nat := if n ≤ tkP n tb s then tkP n tb s else if ltB tb (tkP n tb s) = true then rnT (ltB tb) n (tkP n tb s) else if dgB tb (tkP n tb s) = true then rnT (dgB tb) n (tkP n tb s) else tkP n tb s + 1
/-- 0 the end, 1 none, 2 a WORD, 3 a WHOLE, 59 the mark -/
def tkK (n : Nat) (tb : Nat → Nat) (s : Nat) : Nat := if n ≤ tkP n tb s then 0 else if ltB tb (tkP n tb s) = true then (if 7 < tkN n tb s - tkP n tb s then 1 else 2) else if dgB tb (tkP n tb s) = true then (if 2 < tkN n tb s - tkP n tb s then 1 else 3) else if tb (tkP n tb s) = 59 then 59 else 1
def dgW (tb : Nat → Nat) (a k : Nat) : Nat := if k = 0 then 0 else if k = 1 then tb a - 48 else 10 * (tb a - 48) + (tb (a + 1) - 48)
def tkW (n : Nat) (tb : Nat → Nat) (s : Nat) : Nat := dgW tb (tkP n tb s) (tkN n tb s - tkP n tb s)
def seeI (n : Nat) (tb : Nat → Nat) (k : Nat) : Int := if k < n then (tb k : Int) else -1
/-- the reference's text -/
def RM (n : Nat) (tb : Nat → Nat) (M : jM) : Prop := n ≤ 200 ∧ M 23 12 = (n : Int) ∧ ∀ i : Nat, i < n → M 24 (i : Int) = (tb i : Int) ∧ tb i < 256
theorem rm_fz {n : Nat} {tb : Nat → Nat} {M M' : jM} {zs : List Int} {ks : List Nat} (hf : Fz zs ks M M') (hz : (12 : Int) ∉ zs) (hk : 24 ∉ ks) (h : RM n tb M) : RM n tb M' := by
  refine ⟨h.1, by rw [hf.2 12 hz]; exact h.2.1, fun i hi => ?_⟩
  rw [hf.1 24 (by simp [hk])]
  exact h.2.2 i hi
theorem rm_upF {n : Nat} {tb : Nat → Nat} {M : jM} {z v : Int} (hz : (12 : Int) ≠ z) (h : RM n tb M) : RM n tb (j_up M 23 z v) := ⟨h.1, ru_nz hz h.2.1, fun i hi => ⟨ru_ne (by decide) (h.2.2 i hi).1, (h.2.2 i hi).2⟩⟩
theorem rm_upA {n : Nat} {tb : Nat → Nat} {M : jM} {k : Nat} {z v : Int} (hk : 23 ≠ k ∧ 24 ≠ k) (h : RM n tb M) : RM n tb (j_up M k z v) := ⟨h.1, ru_ne hk.1 h.2.1, fun i hi => ⟨ru_ne hk.2 (h.2.2 i hi).1, (h.2.2 i hi).2⟩⟩
theorem seeR {n : Nat} {tb : Nat → Nat} {M : jM} (h : RM n tb M) (k : Nat) : -2147483648 ≤ seeI n tb k ∧ seeI n tb k < 2147483648 := by
  unfold seeI
  split
  · rename_i q
    have := (h.2.2 k q).2
    omega
  · decide
theorem see_in {n : Nat} {tb : Nat → Nat} {k : Nat} {a b : Nat} (q : Nat → Bool) (hq : ∀ j, q j = decide (a ≤ tb j ∧ tb j ≤ b)) (h : decide ((a : Int) ≤ seeI n tb k ∧ seeI n tb k ≤ (b : Int)) = true) : k < n ∧ q k = true := by
  have h := of_decide_eq_true h
  unfold seeI at h
  split at h
  · exact ⟨by assumption, by rw [hq]; exact decide_eq_true (by omega)⟩
  · omega
theorem see_out {n : Nat} {tb : Nat → Nat} {k : Nat} {a b : Nat} (q : Nat → Bool) (hq : ∀ j, q j = decide (a ≤ tb j ∧ tb j ≤ b)) (h : decide ((a : Int) ≤ seeI n tb k ∧ seeI n tb k ≤ (b : Int)) = false) : n ≤ k ∨ q k = false := by
  have h := of_decide_eq_false h
  unfold seeI at h
  split at h
  · exact Or.inr (by rw [hq]; exact decide_eq_false (by omega))
  · exact Or.inl (by omega)
theorem rnT_out {q : Nat → Bool} {n p : Nat} (h : n ≤ p ∨ q p = false) : rnT q n p = p := h.elim rnT_end rnT_stop
/-- the token at s is the one that the reference has before it -/
def Cur (n : Nat) (tb : Nat → Nat) (s : Nat) (M : jM) : Prop := RM n tb M ∧ s ≤ n ∧ M 23 13 = (tkP n tb s : Int) ∧ M 23 14 = (tkN n tb s : Int) ∧ M 23 15 = (tkK n tb s : Int) ∧ (tkK n tb s = 3 → M 23 16 = (tkW n tb s : Int))
theorem tkN_le {n : Nat} {tb : Nat → Nat} {s : Nat} (hs : s ≤ n) : tkN n tb s ≤ n := by
  have h1 : tkP n tb s ≤ n := rnT_le _ _ _ hs
  unfold tkN
  split
  · exact h1
  · split
    · exact rnT_le _ _ _ h1
    · split
      · exact rnT_le _ _ _ h1
      · omega
theorem tkP_le {n : Nat} {tb : Nat → Nat} {s : Nat} (hs : s ≤ n) : tkP n tb s ≤ n := rnT_le _ _ _ hs
theorem tkP_ge (n : Nat) (tb : Nat → Nat) (s : Nat) : s ≤ tkP n tb s := rnT_ge _ _ _
theorem tkN_ge (n : Nat) (tb : Nat → Nat) (s : Nat) : tkP n tb s ≤ tkN n tb s := by
  unfold tkN
  split
  · exact Nat.le_refl _
  · split
    · exact rnT_ge _ _ _
    · split
      · exact rnT_ge _ _ _
      · omega
theorem tkN_gt {n : Nat} {tb : Nat → Nat} {s : Nat} (h : tkK n tb s ≠ 0) : tkP n tb s < tkN n tb s := by
  have hp : ¬ n ≤ tkP n tb s := fun q => h (by unfold tkK; rw [if_pos q])
  unfold tkN
  rw [if_neg hp]
  split
  · rename_i q
    rw [rnT_step (by omega) q]
    have := rnT_ge (ltB tb) n (tkP n tb s + 1)
    omega
  · split
    · rename_i q
      rw [rnT_step (by omega) q]
      have := rnT_ge (dgB tb) n (tkP n tb s + 1)
      omega
    · omega
theorem tkK_le (n : Nat) (tb : Nat → Nat) (s : Nat) : tkK n tb s ≤ 59 := by
  unfold tkK
  repeat' split
  all_goals decide
theorem see_bl {n : Nat} {tb : Nat → Nat} {k : Nat} (h : seeI n tb k = 32) : k < n ∧ blB tb k = true := by
  unfold seeI at h
  split at h
  · exact ⟨by assumption, beq_iff_eq.mpr (by omega)⟩
  · omega
theorem see_nbx {n : Nat} {tb : Nat → Nat} {k : Nat} (h : ¬ seeI n tb k = 32) : blB tb k = false ∨ n ≤ k := by
  unfold seeI at h
  split at h
  · exact Or.inl (beq_eq_false_iff_ne.mpr (by omega))
  · exact Or.inr (by omega)
theorem tkP_at {n : Nat} {tb : Nat → Nat} {s t : Nat} (h : tkP n tb s = rnT (blB tb) n t) (h2 : ¬ seeI n tb t = 32) : tkP n tb s = t := by
  rw [h]
  exact rnT_out (see_nbx h2).symm
theorem see_m1 {n : Nat} {tb : Nat → Nat} {M : jM} {k : Nat} (hM : RM n tb M) (h : seeI n tb k = -1) : n ≤ k := by
  unfold seeI at h
  split at h
  · omega
  · omega
theorem see_outn {n : Nat} {tb : Nat → Nat} {k : Nat} {a b : Nat} (q : Nat → Bool) (hq : ∀ j, q j = decide (a ≤ tb j ∧ tb j ≤ b)) (h : decide ((a : Int) ≤ seeI n tb k ∧ seeI n tb k ≤ (b : Int)) = false) (hk : k < n) : q k = false := by
  rcases see_out q hq h with w | w
  · omega
  · exact w
theorem see_else {n : Nat} {tb : Nat → Nat} {M : jM} {k : Nat} (hM : RM n tb M) (h1 : ¬ seeI n tb k = -1) (h2 : decide (97 ≤ seeI n tb k ∧ seeI n tb k ≤ 122) = false) (h3 : decide (48 ≤ seeI n tb k ∧ seeI n tb k ≤ 57) = false) : k < n ∧ ltB tb k = false ∧ dgB tb k = false ∧ seeI n tb k = (tb k : Int) := by
  have hk : k < n := by
    rcases Nat.lt_or_ge k n with q | q
    · exact q
    · exact absurd (by unfold seeI; rw [if_neg (by omega)]) h1
  exact ⟨hk, see_outn (a := 97) (b := 122) (ltB tb) (fun _ => rfl) h2 hk, see_outn (a := 48) (b := 57) (dgB tb) (fun _ => rfl) h3 hk, by unfold seeI; rw [if_pos hk]⟩
theorem dgW_step2 {tb : Nat → Nat} {t u : Nat} (h : 2 ≤ u - t) : dgW tb t (u + 1 - t) = dgW tb t (u - t) := by
  unfold dgW
  rw [if_neg (by omega), if_neg (by omega), if_neg (by omega), if_neg (by omega)]
theorem dgW_step1 {n : Nat} {tb : Nat → Nat} {t u : Nat} (h0 : t ≤ u) (h : u - t < 2) (hu : u < n) (hd : dgB tb u = true) : (10 * ((dgW tb t (u - t) : Nat) : Int) + seeI n tb u - 48) = ((dgW tb t (u + 1 - t) : Nat) : Int) := by
  have hd := of_decide_eq_true hd
  unfold seeI
  rw [if_pos hu]
  unfold dgW
  by_cases e : u = t
  · subst e
    rw [if_pos (by omega), if_neg (by omega), if_pos (by omega)]
    omega
  · have e2 : u = t + 1 := by omega
    subst e2
    rw [if_neg (by omega), if_pos (by omega), if_neg (by omega), if_neg (by omega)]
    omega
set_option maxRecDepth 100000 in
set_option maxHeartbeats 4000000 in
theorem ev_X7_see (n : Nat) (tb : Nat → Nat) (M : jM) (hM : RM n tb M) (k : Nat) (hk : k ≤ 200) : Ev 0 mX7_see [(33, 0), (0, ((k : Nat) : Int))] M (fun z M' => z = seeI n tb k ∧ M' = M) := by
  refine Ev_of (by decide +kernel) (Nat.le_of_ble_eq_true rfl) (L := [(33, 0), (0, ((k : Nat) : Int))]) rfl ?_
  have hn2 := hM.1
  refine J_iload_n dX7_see_0 rfl ?_
  refine J_aload_n dX7_see_1 rfl ?_
  refine J_getI dX7_see_2 flX7_68 rfl rfl (J_top (v := ((n : Nat) : Int)) hM.2.1 ?_)
  refine J_icmp_ge (tgt := 17) dX7_see_5 rfl (j_R (by omega)) (j_R (by have := hM.1; omega)) (fun h5 => ?_) (fun h5 => ?_)
  ·
    refine J_iconst dX7_see_17 ?_
    refine J_ireturn dX7_see_18 rfl ?_
    exact ⟨by unfold seeI; rw [if_neg (by omega)], rfl⟩
  ·
    refine J_aload_n dX7_see_8 rfl ?_
    refine J_getR dX7_see_9 flX7_13 rfl rfl ?_
    refine J_iload_n dX7_see_12 rfl ?_
    refine J_iald dX7_see_13 rfl (by decide) (by have := hM.1; omega) (J_top (v := (((tb k) : Nat) : Int)) (hM.2.2 k (by omega)).1 ?_)
    refine J_goto (tgt := 18) dX7_see_14 rfl ?_
    refine J_ireturn dX7_see_18 rfl ?_
    exact ⟨by unfold seeI; rw [if_pos (by omega)], rfl⟩
set_option maxRecDepth 100000 in
set_option maxHeartbeats 4000000 in
theorem ev_X7_goesOn_L136 (n : Nat) (tb : Nat → Nat) (M : jM) (hM : RM n tb M) (s : Nat) (hsn : s ≤ n) (hs : M 23 14 = (s : Int)) (t : Nat) (ht : tkP n tb s = t) (htn : t < n) (htl : ltB tb t = false) (htd : dgB tb t = true) : ∀ (fu : Nat) (M2 : jM) (u : Nat) (g1 : Fz [13, 14, 15, 16] [] M M2) (g2 : M2 23 13 = (t : Int)) (g3 : M2 23 14 = (u : Int)) (g4 : M2 23 16 = (dgW tb t (u - t) : Int)) (g5 : rnT (dgB tb) n t = rnT (dgB tb) n u) (g6 : t ≤ u ∧ u ≤ n) (hfu : n - u < fu), J none 1 mX7_goesOn 136 [(33, 0), (9, 0)] [] M2 (j_ret mX7_goesOn (fun z M' => Cur n tb s M' ∧ Fz [13, 14, 15, 16] [] M M')) := by
  intro fu
  induction fu with
  | zero => intro M2 u g1 g2 g3 g4 g5 g6 hfu; exact absurd hfu (Nat.not_lt_zero _)
  | succ fu ih =>
    intro M2 u g1 g2 g3 g4 g5 g6 hfu
    have hn2 := hM.1
    refine J_aload_n dX7_goesOn_136 rfl ?_
    refine J_aload_n dX7_goesOn_137 rfl ?_
    refine J_getI dX7_goesOn_138 flX7_71 rfl rfl (J_top (v := ((u : Nat) : Int)) g3 ?_)
    refine J_callViQ (cl := mX7_see) [(0, ((u : Nat) : Int))] [] dX7_goesOn_141 mlX7_74 cvX7_see rfl rfl rfl rfl rfl (by decide) (Nat.le_of_ble_eq_true rfl) rfl (ev_X7_see n tb M2 (rm_fz g1 (by decide) (by decide) hM) u (by omega)) ?_
    refine J_bipush dX7_goesOn_144 (by decide) ?_
    refine J_bipush dX7_goesOn_146 (by decide) ?_
    refine J_callSiQ (cl := mX7_in) [(0, (seeI n tb u)), (0, 48), (0, 57)] [] dX7_goesOn_148 mlX7_84 csX7_in rfl rfl (by decide) (Nat.le_of_ble_eq_true rfl) rfl (ev_X7_in (seeI n tb u) 48 57 (seeR hM u) (by decide) (by decide) M2) ?_
    refine J_ifb_eq (tgt := 210) dX7_goesOn_151 rfl (fun h151 => ?_) (fun h151 => ?_)
    ·
      refine J_aload_n dX7_goesOn_210 rfl ?_
      refine J_aload_n dX7_goesOn_211 rfl ?_
      refine J_getI dX7_goesOn_212 flX7_71 rfl rfl (J_top (v := ((u : Nat) : Int)) g3 ?_)
      refine J_aload_n dX7_goesOn_215 rfl ?_
      refine J_getI dX7_goesOn_216 flX7_78 rfl rfl (J_top (v := ((t : Nat) : Int)) g2 ?_)
      refine J_isub dX7_goesOn_219 ?_
      refine J_iconst dX7_goesOn_220 ?_
      refine J_icmp_le (tgt := 228) dX7_goesOn_221 rfl (by omega) (by decide) (fun h221 => ?_) (fun h221 => ?_)
      ·
        refine J_iconst dX7_goesOn_228 ?_
        refine J_putI dX7_goesOn_229 flX7_81 rfl rfl (Or.inl rfl) ?_
        refine J_return dX7_goesOn_232 rfl ?_
        refine ⟨⟨?_, hsn, ?_, ?_, ?_, ?_⟩, ?_⟩
        · exact (rm_upF (by decide) (rm_fz g1 (by decide) (by decide) hM))
        · rw [j_up_nz (by decide), g2, ht]
        · have hu := rnT_out (see_out (a := 48) (b := 57) (dgB tb) (fun _ => rfl) h151)
          rw [j_up_nz (by decide), g3]; congr 1; unfold tkN; rw [ht, if_neg (by omega), if_neg (by rw [htl]; decide), if_pos htd, g5, hu]
        · have hu := rnT_out (see_out (a := 48) (b := 57) (dgB tb) (fun _ => rfl) h151)
          have hN : tkN n tb s = u := by unfold tkN; rw [ht, if_neg (by omega), if_neg (by rw [htl]; decide), if_pos htd, g5, hu]
          rw [j_up_eq]; unfold tkK; rw [ht, hN, if_neg (by omega), if_neg (by rw [htl]; decide), if_pos htd, if_neg (by omega)]; rfl
        · have hu := rnT_out (see_out (a := 48) (b := 57) (dgB tb) (fun _ => rfl) h151)
          have hN : tkN n tb s = u := by unfold tkN; rw [ht, if_neg (by omega), if_neg (by rw [htl]; decide), if_pos htd, g5, hu]
          intro _; rw [j_up_nz (by decide), g4]; unfold tkW; rw [ht, hN]
        · exact Fz_upz (by decide) g1
      ·
        refine J_iconst dX7_goesOn_224 ?_
        refine J_goto (tgt := 229) dX7_goesOn_225 rfl ?_
        refine J_putI dX7_goesOn_229 flX7_81 rfl rfl (Or.inl rfl) ?_
        refine J_return dX7_goesOn_232 rfl ?_
        refine ⟨⟨?_, hsn, ?_, ?_, ?_, ?_⟩, ?_⟩
        · exact (rm_upF (by decide) (rm_fz g1 (by decide) (by decide) hM))
        · rw [j_up_nz (by decide), g2, ht]
        · have hu := rnT_out (see_out (a := 48) (b := 57) (dgB tb) (fun _ => rfl) h151)
          rw [j_up_nz (by decide), g3]; congr 1; unfold tkN; rw [ht, if_neg (by omega), if_neg (by rw [htl]; decide), if_pos htd, g5, hu]
        · have hu := rnT_out (see_out (a := 48) (b := 57) (dgB tb) (fun _ => rfl) h151)
          have hN : tkN n tb s = u := by unfold tkN; rw [ht, if_neg (by omega), if_neg (by rw [htl]; decide), if_pos htd, g5, hu]
          rw [j_up_eq]; unfold tkK; rw [ht, hN, if_neg (by omega), if_neg (by rw [htl]; decide), if_pos htd, if_pos (by omega)]; rfl
        · have hu := rnT_out (see_out (a := 48) (b := 57) (dgB tb) (fun _ => rfl) h151)
          have hN : tkN n tb s = u := by unfold tkN; rw [ht, if_neg (by omega), if_neg (by rw [htl]; decide), if_pos htd, g5, hu]
          intro _; rw [j_up_nz (by decide), g4]; unfold tkW; rw [ht, hN]
        · exact Fz_upz (by decide) g1
    ·
      refine J_aload_n dX7_goesOn_154 rfl ?_
      refine J_aload_n dX7_goesOn_155 rfl ?_
      refine J_getI dX7_goesOn_156 flX7_71 rfl rfl (J_top (v := ((u : Nat) : Int)) g3 ?_)
      refine J_aload_n dX7_goesOn_159 rfl ?_
      refine J_getI dX7_goesOn_160 flX7_78 rfl rfl (J_top (v := ((t : Nat) : Int)) g2 ?_)
      refine J_isub dX7_goesOn_163 ?_
      refine J_iconst dX7_goesOn_164 ?_
      refine J_icmp_ge (tgt := 190) dX7_goesOn_165 rfl (by omega) (by decide) (fun h165 => ?_) (fun h165 => ?_)
      ·
        refine J_aload_n dX7_goesOn_190 rfl ?_
        refine J_getI dX7_goesOn_191 flX7_88 rfl rfl (J_top (v := (((dgW tb t (u - t)) : Nat) : Int)) g4 ?_)
        refine J_putI dX7_goesOn_194 flX7_88 rfl rfl (Or.inl rfl) ?_
        refine J_aload_n dX7_goesOn_197 rfl ?_
        refine J_dup dX7_goesOn_198 rfl ?_
        refine J_getI dX7_goesOn_199 flX7_71 rfl rfl (J_top (v := ((u : Nat) : Int)) (ru_nz (by decide) g3) ?_)
        refine J_iconst dX7_goesOn_202 ?_
        refine J_iadd dX7_goesOn_203 (J_top (v := (((u + 1) : Nat) : Int)) (by omega) ?_)
        refine J_putI dX7_goesOn_204 flX7_71 rfl rfl (Or.inl rfl) ?_
        refine J_goto (tgt := 136) dX7_goesOn_207 rfl ?_
        exact ih _ _ (by exact Fz_upz (by decide) (Fz_upz (by decide) g1)) (by exact ru_nz (by decide) (ru_nz (by decide) g2)) (by exact j_up_eq) (by have hq := see_in (a := 48) (b := 57) (dgB tb) (fun _ => rfl) h151; rw [j_up_nz (by decide), j_up_eq]; rw [dgW_step2 (by omega)]) (by rw [g5, rnT_step (see_in (a := 48) (b := 57) (dgB tb) (fun _ => rfl) h151).1 (see_in (a := 48) (b := 57) (dgB tb) (fun _ => rfl) h151).2]) (by have := (see_in (a := 48) (b := 57) (dgB tb) (fun _ => rfl) h151).1; omega) (by have := (see_in (a := 48) (b := 57) (dgB tb) (fun _ => rfl) h151).1; omega)
      ·
        refine J_bipush dX7_goesOn_168 (by decide) ?_
        refine J_aload_n dX7_goesOn_170 rfl ?_
        refine J_getI dX7_goesOn_171 flX7_88 rfl rfl (J_top (v := (((dgW tb t (u - t)) : Nat) : Int)) g4 ?_)
        refine J_imul dX7_goesOn_174 (J_top (v := (((10 * (dgW tb t (u - t))) : Nat) : Int)) (Int.natCast_mul _ _).symm ?_)
        refine J_aload_n dX7_goesOn_175 rfl ?_
        refine J_aload_n dX7_goesOn_176 rfl ?_
        refine J_getI dX7_goesOn_177 flX7_71 rfl rfl (J_top (v := ((u : Nat) : Int)) g3 ?_)
        refine J_callViQ (cl := mX7_see) [(0, ((u : Nat) : Int))] [(0, (((10 * (dgW tb t (u - t))) : Nat) : Int)), (33, 0)] dX7_goesOn_180 mlX7_74 cvX7_see rfl rfl rfl rfl rfl (by decide) (Nat.le_of_ble_eq_true rfl) rfl (ev_X7_see n tb M2 (rm_fz g1 (by decide) (by decide) hM) u (by omega)) ?_
        refine J_iadd dX7_goesOn_183 ?_
        refine J_bipush dX7_goesOn_184 (by decide) ?_
        refine J_isub dX7_goesOn_186 (J_top (v := (10 * ((dgW tb t (u - t) : Nat) : Int) + seeI n tb u - 48)) rfl ?_)
        refine J_goto (tgt := 194) dX7_goesOn_187 rfl ?_
        refine J_putI dX7_goesOn_194 flX7_88 rfl rfl (Or.inl rfl) ?_
        refine J_aload_n dX7_goesOn_197 rfl ?_
        refine J_dup dX7_goesOn_198 rfl ?_
        refine J_getI dX7_goesOn_199 flX7_71 rfl rfl (J_top (v := ((u : Nat) : Int)) (ru_nz (by decide) g3) ?_)
        refine J_iconst dX7_goesOn_202 ?_
        refine J_iadd dX7_goesOn_203 (J_top (v := (((u + 1) : Nat) : Int)) (by omega) ?_)
        refine J_putI dX7_goesOn_204 flX7_71 rfl rfl (Or.inl rfl) ?_
        refine J_goto (tgt := 136) dX7_goesOn_207 rfl ?_
        exact ih _ _ (by exact Fz_upz (by decide) (Fz_upz (by decide) g1)) (by exact ru_nz (by decide) (ru_nz (by decide) g2)) (by exact j_up_eq) (by have hq := see_in (a := 48) (b := 57) (dgB tb) (fun _ => rfl) h151; rw [j_up_nz (by decide), j_up_eq]; exact dgW_step1 (by omega) (by omega) hq.1 hq.2) (by rw [g5, rnT_step (see_in (a := 48) (b := 57) (dgB tb) (fun _ => rfl) h151).1 (see_in (a := 48) (b := 57) (dgB tb) (fun _ => rfl) h151).2]) (by have := (see_in (a := 48) (b := 57) (dgB tb) (fun _ => rfl) h151).1; omega) (by have := (see_in (a := 48) (b := 57) (dgB tb) (fun _ => rfl) h151).1; omega)
set_option maxRecDepth 100000 in
set_option maxHeartbeats 4000000 in
theorem ev_X7_goesOn_L65 (n : Nat) (tb : Nat → Nat) (M : jM) (hM : RM n tb M) (s : Nat) (hsn : s ≤ n) (hs : M 23 14 = (s : Int)) (t : Nat) (ht : tkP n tb s = t) (htn : t < n) (htl : ltB tb t = true) : ∀ (fu : Nat) (M2 : jM) (u : Nat) (g1 : Fz [13, 14, 15, 16] [] M M2) (g2 : M2 23 13 = (t : Int)) (g3 : M2 23 14 = (u : Int)) (g5 : rnT (ltB tb) n t = rnT (ltB tb) n u) (g6 : t ≤ u ∧ u ≤ n) (hfu : n - u < fu), J none 1 mX7_goesOn 65 [(33, 0), (9, 0)] [] M2 (j_ret mX7_goesOn (fun z M' => Cur n tb s M' ∧ Fz [13, 14, 15, 16] [] M M')) := by
  intro fu
  induction fu with
  | zero => intro M2 u g1 g2 g3 g5 g6 hfu; exact absurd hfu (Nat.not_lt_zero _)
  | succ fu ih =>
    intro M2 u g1 g2 g3 g5 g6 hfu
    have hn2 := hM.1
    refine J_aload_n dX7_goesOn_65 rfl ?_
    refine J_aload_n dX7_goesOn_66 rfl ?_
    refine J_getI dX7_goesOn_67 flX7_71 rfl rfl (J_top (v := ((u : Nat) : Int)) g3 ?_)
    refine J_callViQ (cl := mX7_see) [(0, ((u : Nat) : Int))] [] dX7_goesOn_70 mlX7_74 cvX7_see rfl rfl rfl rfl rfl (by decide) (Nat.le_of_ble_eq_true rfl) rfl (ev_X7_see n tb M2 (rm_fz g1 (by decide) (by decide) hM) u (by omega)) ?_
    refine J_bipush dX7_goesOn_73 (by decide) ?_
    refine J_bipush dX7_goesOn_75 (by decide) ?_
    refine J_callSiQ (cl := mX7_in) [(0, (seeI n tb u)), (0, 97), (0, 122)] [] dX7_goesOn_77 mlX7_84 csX7_in rfl rfl (by decide) (Nat.le_of_ble_eq_true rfl) rfl (ev_X7_in (seeI n tb u) 97 122 (seeR hM u) (by decide) (by decide) M2) ?_
    refine J_ifb_eq (tgt := 96) dX7_goesOn_80 rfl (fun h80 => ?_) (fun h80 => ?_)
    ·
      refine J_aload_n dX7_goesOn_96 rfl ?_
      refine J_aload_n dX7_goesOn_97 rfl ?_
      refine J_getI dX7_goesOn_98 flX7_71 rfl rfl (J_top (v := ((u : Nat) : Int)) g3 ?_)
      refine J_aload_n dX7_goesOn_101 rfl ?_
      refine J_getI dX7_goesOn_102 flX7_78 rfl rfl (J_top (v := ((t : Nat) : Int)) g2 ?_)
      refine J_isub dX7_goesOn_105 ?_
      refine J_bipush dX7_goesOn_106 (by decide) ?_
      refine J_icmp_le (tgt := 115) dX7_goesOn_108 rfl (by omega) (by decide) (fun h108 => ?_) (fun h108 => ?_)
      ·
        refine J_iconst dX7_goesOn_115 ?_
        refine J_putI dX7_goesOn_116 flX7_81 rfl rfl (Or.inl rfl) ?_
        refine J_return dX7_goesOn_119 rfl ?_
        refine ⟨⟨?_, hsn, ?_, ?_, ?_, ?_⟩, ?_⟩
        · exact (rm_upF (by decide) (rm_fz g1 (by decide) (by decide) hM))
        · rw [j_up_nz (by decide), g2, ht]
        · have hu := rnT_out (see_out (a := 97) (b := 122) (ltB tb) (fun _ => rfl) h80)
          rw [j_up_nz (by decide), g3]; congr 1; unfold tkN; rw [ht, if_neg (by omega), if_pos htl, g5, hu]
        · have hu := rnT_out (see_out (a := 97) (b := 122) (ltB tb) (fun _ => rfl) h80)
          have hN : tkN n tb s = u := by unfold tkN; rw [ht, if_neg (by omega), if_pos htl, g5, hu]
          rw [j_up_eq]; unfold tkK; rw [ht, hN, if_neg (by omega), if_pos htl, if_neg (by omega)]; rfl
        · intro q; exfalso; unfold tkK at q; rw [ht, if_neg (by omega), if_pos htl] at q; split at q <;> omega
        · exact Fz_upz (by decide) g1
      ·
        refine J_iconst dX7_goesOn_111 ?_
        refine J_goto (tgt := 116) dX7_goesOn_112 rfl ?_
        refine J_putI dX7_goesOn_116 flX7_81 rfl rfl (Or.inl rfl) ?_
        refine J_return dX7_goesOn_119 rfl ?_
        refine ⟨⟨?_, hsn, ?_, ?_, ?_, ?_⟩, ?_⟩
        · exact (rm_upF (by decide) (rm_fz g1 (by decide) (by decide) hM))
        · rw [j_up_nz (by decide), g2, ht]
        · have hu := rnT_out (see_out (a := 97) (b := 122) (ltB tb) (fun _ => rfl) h80)
          rw [j_up_nz (by decide), g3]; congr 1; unfold tkN; rw [ht, if_neg (by omega), if_pos htl, g5, hu]
        · have hu := rnT_out (see_out (a := 97) (b := 122) (ltB tb) (fun _ => rfl) h80)
          have hN : tkN n tb s = u := by unfold tkN; rw [ht, if_neg (by omega), if_pos htl, g5, hu]
          rw [j_up_eq]; unfold tkK; rw [ht, hN, if_neg (by omega), if_pos htl, if_pos (by omega)]; rfl
        · intro q; exfalso; unfold tkK at q; rw [ht, if_neg (by omega), if_pos htl] at q; split at q <;> omega
        · exact Fz_upz (by decide) g1
    ·
      refine J_aload_n dX7_goesOn_83 rfl ?_
      refine J_dup dX7_goesOn_84 rfl ?_
      refine J_getI dX7_goesOn_85 flX7_71 rfl rfl (J_top (v := ((u : Nat) : Int)) g3 ?_)
      refine J_iconst dX7_goesOn_88 ?_
      refine J_iadd dX7_goesOn_89 (J_top (v := (((u + 1) : Nat) : Int)) (by omega) ?_)
      refine J_putI dX7_goesOn_90 flX7_71 rfl rfl (Or.inl rfl) ?_
      refine J_goto (tgt := 65) dX7_goesOn_93 rfl ?_
      exact ih _ _ (by exact Fz_upz (by decide) g1) (by exact ru_nz (by decide) g2) (by exact j_up_eq) (by rw [g5, rnT_step (see_in (a := 97) (b := 122) (ltB tb) (fun _ => rfl) h80).1 (see_in (a := 97) (b := 122) (ltB tb) (fun _ => rfl) h80).2]) (by have := (see_in (a := 97) (b := 122) (ltB tb) (fun _ => rfl) h80).1; omega) (by have := (see_in (a := 97) (b := 122) (ltB tb) (fun _ => rfl) h80).1; omega)
set_option maxRecDepth 100000 in
set_option maxHeartbeats 4000000 in
theorem ev_X7_goesOn_L0 (n : Nat) (tb : Nat → Nat) (M : jM) (hM : RM n tb M) (s : Nat) (hsn : s ≤ n) (hs : M 23 14 = (s : Int))  : ∀ (fu : Nat) (M1 : jM) (t : Nat) (f1 : Fz [13, 14, 15, 16] [] M M1) (f2 : M1 23 14 = (t : Int)) (f3 : tkP n tb s = rnT (blB tb) n t) (f4 : t ≤ n) (hfu : n - t < fu), J none 1 mX7_goesOn 0 [(33, 0), (9, 0)] [] M1 (j_ret mX7_goesOn (fun z M' => Cur n tb s M' ∧ Fz [13, 14, 15, 16] [] M M')) := by
  intro fu
  induction fu with
  | zero => intro M1 t f1 f2 f3 f4 hfu; exact absurd hfu (Nat.not_lt_zero _)
  | succ fu ih =>
    intro M1 t f1 f2 f3 f4 hfu
    have hn2 := hM.1
    refine J_aload_n dX7_goesOn_0 rfl ?_
    refine J_aload_n dX7_goesOn_1 rfl ?_
    refine J_getI dX7_goesOn_2 flX7_71 rfl rfl (J_top (v := ((t : Nat) : Int)) f2 ?_)
    refine J_callViQ (cl := mX7_see) [(0, ((t : Nat) : Int))] [] dX7_goesOn_5 mlX7_74 cvX7_see rfl rfl rfl rfl rfl (by decide) (Nat.le_of_ble_eq_true rfl) rfl (ev_X7_see n tb M1 (rm_fz f1 (by decide) (by decide) hM) t (by omega)) ?_
    refine J_bipush dX7_goesOn_8 (by decide) ?_
    refine J_icmp_ne (tgt := 26) dX7_goesOn_10 rfl (seeR hM t) (by decide) (fun h10 => ?_) (fun h10 => ?_)
    ·
      refine J_aload_n dX7_goesOn_26 rfl ?_
      refine J_aload_n dX7_goesOn_27 rfl ?_
      refine J_getI dX7_goesOn_28 flX7_71 rfl rfl (J_top (v := ((t : Nat) : Int)) f2 ?_)
      refine J_putI dX7_goesOn_31 flX7_78 rfl rfl (Or.inl rfl) ?_
      refine J_aload_n dX7_goesOn_34 rfl ?_
      refine J_aload_n dX7_goesOn_35 rfl ?_
      refine J_getI dX7_goesOn_36 flX7_71 rfl rfl (J_top (v := ((t : Nat) : Int)) (ru_nz (by decide) f2) ?_)
      refine J_callViQ (cl := mX7_see) [(0, ((t : Nat) : Int))] [] dX7_goesOn_39 mlX7_74 cvX7_see rfl rfl rfl rfl rfl (by decide) (Nat.le_of_ble_eq_true rfl) rfl (ev_X7_see n tb (j_up M1 23 13 ((t : Nat) : Int)) (rm_upF (by decide) (rm_fz f1 (by decide) (by decide) hM)) t (by omega)) ?_
      refine J_istore_n (L' := [(33, 0), (0, (seeI n tb t))]) dX7_goesOn_42 (by decide) rfl rfl ?_
      refine J_iload_n dX7_goesOn_43 rfl ?_
      refine J_iconst dX7_goesOn_44 ?_
      refine J_icmp_ne (tgt := 54) dX7_goesOn_45 rfl (seeR hM t) (by decide) (fun h45 => ?_) (fun h45 => ?_)
      ·
        refine J_iload_n dX7_goesOn_54 rfl ?_
        refine J_bipush dX7_goesOn_55 (by decide) ?_
        refine J_bipush dX7_goesOn_57 (by decide) ?_
        refine J_callSiQ (cl := mX7_in) [(0, (seeI n tb t)), (0, 97), (0, 122)] [] dX7_goesOn_59 mlX7_84 csX7_in rfl rfl (by decide) (Nat.le_of_ble_eq_true rfl) rfl (ev_X7_in (seeI n tb t) 97 122 (seeR hM t) (by decide) (by decide) (j_up M1 23 13 ((t : Nat) : Int))) ?_
        refine J_ifb_eq (tgt := 120) dX7_goesOn_62 rfl (fun h62 => ?_) (fun h62 => ?_)
        ·
          refine J_iload_n dX7_goesOn_120 rfl ?_
          refine J_bipush dX7_goesOn_121 (by decide) ?_
          refine J_bipush dX7_goesOn_123 (by decide) ?_
          refine J_callSiQ (cl := mX7_in) [(0, (seeI n tb t)), (0, 48), (0, 57)] [] dX7_goesOn_125 mlX7_84 csX7_in rfl rfl (by decide) (Nat.le_of_ble_eq_true rfl) rfl (ev_X7_in (seeI n tb t) 48 57 (seeR hM t) (by decide) (by decide) (j_up M1 23 13 ((t : Nat) : Int))) ?_
          refine J_ifb_eq (tgt := 233) dX7_goesOn_128 rfl (fun h128 => ?_) (fun h128 => ?_)
          ·
            refine J_aload_n dX7_goesOn_233 rfl ?_
            refine J_dup dX7_goesOn_234 rfl ?_
            refine J_getI dX7_goesOn_235 flX7_71 rfl rfl (J_top (v := ((t : Nat) : Int)) (ru_nz (by decide) f2) ?_)
            refine J_iconst dX7_goesOn_238 ?_
            refine J_iadd dX7_goesOn_239 (J_top (v := (((t + 1) : Nat) : Int)) (by omega) ?_)
            refine J_putI dX7_goesOn_240 flX7_71 rfl rfl (Or.inl rfl) ?_
            refine J_aload_n dX7_goesOn_243 rfl ?_
            refine J_iload_n dX7_goesOn_244 rfl ?_
            refine J_bipush dX7_goesOn_245 (by decide) ?_
            refine J_icmp_ne (tgt := 254) dX7_goesOn_247 rfl (seeR hM t) (by decide) (fun h247 => ?_) (fun h247 => ?_)
            ·
              refine J_iconst dX7_goesOn_254 ?_
              refine J_putI dX7_goesOn_255 flX7_81 rfl rfl (Or.inl rfl) ?_
              refine J_return dX7_goesOn_258 rfl ?_
              refine ⟨⟨?_, hsn, ?_, ?_, ?_, ?_⟩, ?_⟩
              · exact (rm_upF (by decide) (rm_upF (by decide) (rm_upF (by decide) (rm_fz f1 (by decide) (by decide) hM))))
              · rw [j_up_nz (by decide), j_up_nz (by decide), j_up_eq, f3, rnT_out (see_nbx h10).symm]
              · obtain ⟨k1, k2, k3, k4⟩ := see_else hM h45 h62 h128
                rw [j_up_nz (by decide), j_up_eq]; unfold tkN; rw [tkP_at f3 h10, if_neg (by omega), if_neg (by rw [k2]; decide), if_neg (by rw [k3]; decide)]
              · obtain ⟨k1, k2, k3, k4⟩ := see_else hM h45 h62 h128
                rw [j_up_eq]; unfold tkK; rw [tkP_at f3 h10, if_neg (by omega), if_neg (by rw [k2]; decide), if_neg (by rw [k3]; decide)]; rw [if_neg (by omega)]; rfl
              · obtain ⟨k1, k2, k3, k4⟩ := see_else hM h45 h62 h128
                intro q; exfalso; unfold tkK at q; rw [tkP_at f3 h10, if_neg (by omega), if_neg (by rw [k2]; decide), if_neg (by rw [k3]; decide)] at q; split at q <;> omega
              · exact Fz_upz (by decide) (Fz_upz (by decide) (Fz_upz (by decide) f1))
            ·
              refine J_iload_n dX7_goesOn_250 rfl ?_
              refine J_goto (tgt := 255) dX7_goesOn_251 rfl ?_
              refine J_putI dX7_goesOn_255 flX7_81 rfl rfl (Or.inl rfl) ?_
              refine J_return dX7_goesOn_258 rfl ?_
              refine ⟨⟨?_, hsn, ?_, ?_, ?_, ?_⟩, ?_⟩
              · exact (rm_upF (by decide) (rm_upF (by decide) (rm_upF (by decide) (rm_fz f1 (by decide) (by decide) hM))))
              · rw [j_up_nz (by decide), j_up_nz (by decide), j_up_eq, f3, rnT_out (see_nbx h10).symm]
              · obtain ⟨k1, k2, k3, k4⟩ := see_else hM h45 h62 h128
                rw [j_up_nz (by decide), j_up_eq]; unfold tkN; rw [tkP_at f3 h10, if_neg (by omega), if_neg (by rw [k2]; decide), if_neg (by rw [k3]; decide)]
              · obtain ⟨k1, k2, k3, k4⟩ := see_else hM h45 h62 h128
                rw [j_up_eq]; unfold tkK; rw [tkP_at f3 h10, if_neg (by omega), if_neg (by rw [k2]; decide), if_neg (by rw [k3]; decide)]; rw [if_pos (by omega)]; omega
              · obtain ⟨k1, k2, k3, k4⟩ := see_else hM h45 h62 h128
                intro q; exfalso; unfold tkK at q; rw [tkP_at f3 h10, if_neg (by omega), if_neg (by rw [k2]; decide), if_neg (by rw [k3]; decide)] at q; split at q <;> omega
              · exact Fz_upz (by decide) (Fz_upz (by decide) (Fz_upz (by decide) f1))
          ·
            refine J_aload_n dX7_goesOn_131 rfl ?_
            refine J_iconst dX7_goesOn_132 ?_
            refine J_putI dX7_goesOn_133 flX7_88 rfl rfl (Or.inl rfl) ?_
            refine J_unset 1 (L' := [(33, 0), (9, 0)]) rfl ?_
            exact ev_X7_goesOn_L136 n tb M hM s hsn hs t (by rw [f3, rnT_out (see_nbx h10).symm]) (see_in (a := 48) (b := 57) (dgB tb) (fun _ => rfl) h128).1 (see_outn (a := 97) (b := 122) (ltB tb) (fun _ => rfl) h62 (see_in (a := 48) (b := 57) (dgB tb) (fun _ => rfl) h128).1) (see_in (a := 48) (b := 57) (dgB tb) (fun _ => rfl) h128).2 _ _ _ (by exact Fz_upz (by decide) (Fz_upz (by decide) f1)) (by exact ru_nz (by decide) j_up_eq) (by exact ru_nz (by decide) (ru_nz (by decide) f2)) (by rw [j_up_eq, Nat.sub_self]; rfl) (by rfl) (by omega) (Nat.lt_succ_self _)
        ·
          refine J_unset 1 (L' := [(33, 0), (9, 0)]) rfl ?_
          exact ev_X7_goesOn_L65 n tb M hM s hsn hs t (by rw [f3, rnT_out (see_nbx h10).symm]) (see_in (a := 97) (b := 122) (ltB tb) (fun _ => rfl) h62).1 (see_in (a := 97) (b := 122) (ltB tb) (fun _ => rfl) h62).2 _ _ _ (by exact Fz_upz (by decide) f1) (by exact j_up_eq) (by exact ru_nz (by decide) f2) (by rfl) (by omega) (Nat.lt_succ_self _)
      ·
        refine J_aload_n dX7_goesOn_48 rfl ?_
        refine J_iconst dX7_goesOn_49 ?_
        refine J_putI dX7_goesOn_50 flX7_81 rfl rfl (Or.inl rfl) ?_
        refine J_return dX7_goesOn_53 rfl ?_
        refine ⟨⟨?_, hsn, ?_, ?_, ?_, ?_⟩, ?_⟩
        · exact (rm_upF (by decide) (rm_upF (by decide) (rm_fz f1 (by decide) (by decide) hM)))
        · rw [j_up_nz (by decide), j_up_eq, f3, rnT_out (see_nbx h10).symm]
        · rw [j_up_nz (by decide), j_up_nz (by decide), f2]; congr 1; unfold tkN; rw [tkP_at f3 h10, if_pos (see_m1 hM h45)]
        · rw [j_up_eq]; unfold tkK; rw [tkP_at f3 h10, if_pos (see_m1 hM h45)]; rfl
        · intro q; exfalso; unfold tkK at q; rw [tkP_at f3 h10, if_pos (see_m1 hM h45)] at q; exact absurd q (by decide)
        · exact Fz_upz (by decide) (Fz_upz (by decide) f1)
    ·
      refine J_aload_n dX7_goesOn_13 rfl ?_
      refine J_dup dX7_goesOn_14 rfl ?_
      refine J_getI dX7_goesOn_15 flX7_71 rfl rfl (J_top (v := ((t : Nat) : Int)) f2 ?_)
      refine J_iconst dX7_goesOn_18 ?_
      refine J_iadd dX7_goesOn_19 (J_top (v := (((t + 1) : Nat) : Int)) (by omega) ?_)
      refine J_putI dX7_goesOn_20 flX7_71 rfl rfl (Or.inl rfl) ?_
      refine J_goto (tgt := 0) dX7_goesOn_23 rfl ?_
      exact ih _ _ (by exact Fz_upz (by decide) f1) (by exact j_up_eq) (by rw [f3, rnT_step (see_bl h10).1 (see_bl h10).2]) (by have := (see_bl h10).1; omega) (by have := (see_bl h10).1; omega)
set_option maxRecDepth 100000 in
set_option maxHeartbeats 4000000 in
theorem ev_X7_goesOn (n : Nat) (tb : Nat → Nat) (M : jM) (hM : RM n tb M) (s : Nat) (hsn : s ≤ n) (hs : M 23 14 = (s : Int)) : Ev 1 mX7_goesOn [(33, 0)] M (fun z M' => Cur n tb s M' ∧ Fz [13, 14, 15, 16] [] M M') := by
  refine Ev_of (by decide +kernel) (Nat.le_of_ble_eq_true rfl) (L := [(33, 0), (9, 0)]) rfl ?_
  have hn2 := hM.1
  exact ev_X7_goesOn_L0 n tb M hM s hsn hs  _ _ _ (by exact Fz_rf) (by exact hs) (by rfl) (by omega) (Nat.lt_succ_self _)
