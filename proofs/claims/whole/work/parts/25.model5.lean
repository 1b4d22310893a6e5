/-- whether a set of facets falls apart, so deep -/
def flB (P n : Nat) (F : Nat → Nat) : Nat → Nat → Nat → Bool
  | 0, s, _ => popc s == 1
  | f + 1, s, g => popc s == 1 || anyN P (fun p => csB n F s g p && (flB P n F f (ndf s (wpN n F s p)) g && flB P n F f (wpN n F s p) (g ||| 2 ^ p)))
theorem popc_cnt : ∀ (k n : Nat), n < 2 ^ k → popc n = cntN k (fun i => n.testBit i) := by
  have key : ∀ (k n : Nat), cntN (k + 1) (fun i => n.testBit i) = n % 2 + cntN k (fun i => (n / 2).testBit i) := by
    intro k
    induction k with
    | zero =>
      intro n
      simp only [cntN]
      rw [Nat.testBit_zero]
      rcases Nat.mod_two_eq_zero_or_one n with h | h <;> simp [h]
    | succ k ih =>
      intro n
      rw [show cntN (k + 1 + 1) (fun i => n.testBit i) = cntN (k + 1) (fun i => n.testBit i) + (n.testBit (k + 1)).toNat from rfl, ih n, show cntN (k + 1) (fun i => (n / 2).testBit i) = cntN k (fun i => (n / 2).testBit i) + ((n / 2).testBit k).toNat from rfl, Nat.testBit_succ]
      omega
  intro k
  induction k with
  | zero =>
    intro n h
    have : n = 0 := by simpa using h
    subst this
    rw [popc_zero]
    rfl
  | succ k ih =>
    intro n h
    rw [popc_eq, key, ih (n / 2) (by rw [Nat.pow_succ] at h; omega)]
theorem cntN_sub {n : Nat} {p q : Nat → Bool} (h : ∀ k, k < n → p k = true → q k = true) : cntN n p ≤ cntN n q := by
  induction n with
  | zero => exact Nat.le_refl _
  | succ n ih =>
    simp only [cntN]
    have h1 := ih (fun k hk => h k (by omega))
    have h2 := h n (by omega)
    cases hp : p n
    · simp; omega
    · rw [h2 hp]; simp; omega
theorem cntN_lt {n : Nat} {p q : Nat → Bool} (h : ∀ k, k < n → p k = true → q k = true) (j : Nat) (hj : j < n) (h1 : p j = false) (h2 : q j = true) : cntN n p < cntN n q := by
  induction n with
  | zero => omega
  | succ n ih =>
    simp only [cntN]
    by_cases e : j = n
    · subst e
      have := cntN_sub (n := j) (p := p) (q := q) (fun k hk => h k (by omega))
      rw [h1, h2]
      simp; omega
    · have := ih (fun k hk => h k (by omega)) (by omega)
      have h3 := h n (by omega)
      cases hp : p n
      · simp; omega
      · rw [h3 hp]; simp; omega
theorem lt_two_pow_self' (n : Nat) : n < 2 ^ n := Nat.lt_two_pow_self
/-- fewer bits of a true part -/
theorem popc_sub_lt {a b j : Nat} (h : ∀ i, a.testBit i = true → b.testBit i = true) (h1 : a.testBit j = false) (h2 : b.testBit j = true) : popc a < popc b := by
  have ha : a < 2 ^ (a + b + j + 1) := Nat.lt_of_lt_of_le (lt_two_pow_self' a) (Nat.pow_le_pow_right (by decide) (by omega))
  have hb : b < 2 ^ (a + b + j + 1) := Nat.lt_of_lt_of_le (lt_two_pow_self' b) (Nat.pow_le_pow_right (by decide) (by omega))
  rw [popc_cnt _ a ha, popc_cnt _ b hb]
  exact cntN_lt (fun k _ => h k) j (by omega) h1 h2
theorem wpN_bit (n : Nat) (F : Nat → Nat) (s p i : Nat) : (wpN n F s p).testBit i = (decide (i < n) && (s.testBit i && (F i).testBit p)) := mskN_bit _ _ _
theorem csB_some {n : Nat} {F : Nat → Nat} {s g p : Nat} (h : csB n F s g p = true) : (∃ k, k < n ∧ s.testBit k = true ∧ (F k).testBit p = true) ∧ ∃ k, k < n ∧ s.testBit k = true ∧ (F k).testBit p = false := by
  unfold csB at h
  simp only [Bool.and_eq_true] at h
  obtain ⟨⟨⟨-, h1⟩, h2⟩, -⟩ := h
  obtain ⟨k, k1, k2⟩ := anyN_iff.mp h1
  obtain ⟨j, j1, j2⟩ := anyN_iff.mp h2
  simp only [Bool.and_eq_true, Bool.not_eq_true'] at k2 j2
  exact ⟨⟨k, k1, k2⟩, ⟨j, j1, j2⟩⟩
theorem cs_pop1 {P D n f : Nat} {F O : Nat → Nat} (_ : WF P D n F O) {s g p : Nat} (h : csB n F s g p = true) (hc : popc s ≤ f + 1) : popc (ndf s (wpN n F s p)) ≤ f := by
  obtain ⟨⟨k, k1, k2, k3⟩, -⟩ := csB_some h
  have := popc_sub_lt (a := ndf s (wpN n F s p)) (b := s) (j := k) (fun i hi => by rw [ndf_bit, Bool.and_eq_true] at hi; exact hi.1) (by rw [ndf_bit, wpN_bit]; simp [k1, k2, k3]) k2
  omega
theorem cs_pop2 {P D n f : Nat} {F O : Nat → Nat} (_ : WF P D n F O) {s g p : Nat} (h : csB n F s g p = true) (hc : popc s ≤ f + 1) : popc (wpN n F s p) ≤ f := by
  obtain ⟨-, ⟨k, k1, k2, k3⟩⟩ := csB_some h
  have := popc_sub_lt (a := wpN n F s p) (b := s) (j := k) (fun i hi => by rw [wpN_bit] at hi; simp at hi; exact hi.2.1) (by rw [wpN_bit]; simp [k2, k3]) k2
  omega
set_option maxRecDepth 100000 in
set_option maxHeartbeats 4000000 in
theorem ev_X7_canShed_L155 (P D n : Nat) (F O : Nat → Nat) (M : jM) (hR : MR P D n F O M) (s g p : Nat) (hs : s < 2147483648) (hg : g < 2147483648) (hp : p < 7) (k : Nat) (hk : k < n) (K0 : ∀ (b : Bool) (g1 : b = csK n F s g p k), J none 1 mX7_canShed 235 [(33, 0), (0, ((s : Nat) : Int)), (0, ((g : Nat) : Int)), (0, ((p : Nat) : Int)), (9, 0), (9, 0), (0, ((k : Nat) : Int)), (0, ((Bool.toNat (b) : Nat) : Int)), (9, 0)] [] M (j_ret mX7_canShed (fun z M' => z = ((Bool.toNat (csB n F s g p) : Nat) : Int) ∧ M' = M))) : ∀ (fu : Nat) (b : Bool) (o : Nat) (g1 : b = ((!s.testBit k || !(F k).testBit p) || anyN o (csQ n F s g p k))) (g2 : o ≤ n) (hfu : n - o < fu), J none 1 mX7_canShed 155 [(33, 0), (0, ((s : Nat) : Int)), (0, ((g : Nat) : Int)), (0, ((p : Nat) : Int)), (9, 0), (9, 0), (0, ((k : Nat) : Int)), (0, ((Bool.toNat (b) : Nat) : Int)), (0, ((o : Nat) : Int))] [] M (j_ret mX7_canShed (fun z M' => z = ((Bool.toNat (csB n F s g p) : Nat) : Int) ∧ M' = M)) := by
  intro fu
  induction fu with
  | zero => intro b o g1 g2 hfu; exact absurd hfu (Nat.not_lt_zero _)
  | succ fu ih =>
    intro b o g1 g2 hfu
    have hn12 := MR.hn hR
    have hP7 := MR.hP hR
    have hD5 := MR.hD hR
    refine J_iload dX7_canShed_155 rfl ?_
    refine J_aload_n dX7_canShed_157 rfl ?_
    refine J_getI dX7_canShed_158 flX7_176 rfl rfl (J_top (v := ((n : Nat) : Int)) (MR.gn hR) ?_)
    refine J_icmp_ge (tgt := 235) dX7_canShed_161 rfl (j_R (by omega)) (j_R (by omega)) (fun h161 => ?_) (fun h161 => ?_)
    ·
      refine J_unset 8 (L' := [(33, 0), (0, ((s : Nat) : Int)), (0, ((g : Nat) : Int)), (0, ((p : Nat) : Int)), (9, 0), (9, 0), (0, ((k : Nat) : Int)), (0, ((Bool.toNat (b) : Nat) : Int)), (9, 0)]) rfl ?_
      exact K0 _ (by rw [g1, show o = n by omega]; rfl)
    ·
      refine J_iload dX7_canShed_164 rfl ?_
      refine J_ifb_ne (tgt := 235) dX7_canShed_166 rfl (fun h166 => ?_) (fun h166 => ?_)
      ·
        refine J_unset 8 (L' := [(33, 0), (0, ((s : Nat) : Int)), (0, ((g : Nat) : Int)), (0, ((p : Nat) : Int)), (9, 0), (9, 0), (0, ((k : Nat) : Int)), (0, ((Bool.toNat (b) : Nat) : Int)), (9, 0)]) rfl ?_
        exact K0 _ (by rw [h166] at g1 ⊢; symm at g1; unfold csK; rw [Bool.or_eq_true] at g1; rcases g1 with q | q; rw [q]; rfl; rw [anyN_up q g2]; simp)
      ·
        refine J_iload_n dX7_canShed_169 rfl ?_
        refine J_iload dX7_canShed_170 rfl ?_
        refine J_callSiQ (cl := mX7_has) [(0, ((s : Nat) : Int)), (0, ((o : Nat) : Int))] [] dX7_canShed_172 mlX7_132 csX7_has rfl rfl (by decide) (Nat.le_of_ble_eq_true rfl) rfl (ev_X7_has s o hs (by omega) M) ?_
        refine J_ifb_eq (tgt := 226) dX7_canShed_175 rfl (fun h175 => ?_) (fun h175 => ?_)
        ·
          refine J_iconst dX7_canShed_226 ?_
          refine J_istore (L' := [(33, 0), (0, ((s : Nat) : Int)), (0, ((g : Nat) : Int)), (0, ((p : Nat) : Int)), (9, 0), (9, 0), (0, ((k : Nat) : Int)), (0, 0), (0, ((o : Nat) : Int))]) dX7_canShed_227 (by decide) rfl rfl ?_
          refine J_iinc (v := (((o + 1) : Nat) : Int)) (L' := [(33, 0), (0, ((s : Nat) : Int)), (0, ((g : Nat) : Int)), (0, ((p : Nat) : Int)), (9, 0), (9, 0), (0, ((k : Nat) : Int)), (0, 0), (0, (((o + 1) : Nat) : Int))]) dX7_canShed_229 rfl (by omega) (by decide) rfl rfl ?_
          refine J_goto (tgt := 155) dX7_canShed_232 rfl ?_
          refine J_eq (L' := [(33, 0), (0, ((s : Nat) : Int)), (0, ((g : Nat) : Int)), (0, ((p : Nat) : Int)), (9, 0), (9, 0), (0, ((k : Nat) : Int)), (0, ((Bool.toNat (false) : Nat) : Int)), (0, (((o + 1) : Nat) : Int))]) rfl rfl rfl ?_
          exact ih _ _ (by rw [anyN_f (by simp [csQ, h175]), ← g1, h166]) (by omega) (by omega)
        ·
          refine J_aload_n dX7_canShed_178 rfl ?_
          refine J_getR dX7_canShed_179 flX7_17 rfl rfl ?_
          refine J_iload dX7_canShed_182 rfl ?_
          refine J_iald dX7_canShed_184 rfl (by decide) (MR.ix hR (by omega)) (J_top (v := (((F o) : Nat) : Int)) (MR.gF hR (by omega)) ?_)
          refine J_iload_n dX7_canShed_185 rfl ?_
          refine J_callSiQ (cl := mX7_has) [(0, (((F o) : Nat) : Int)), (0, ((p : Nat) : Int))] [] dX7_canShed_186 mlX7_132 csX7_has rfl rfl (by decide) (Nat.le_of_ble_eq_true rfl) rfl (ev_X7_has (F o) p (MR.f31 hR (by omega)) (by omega) M) ?_
          refine J_ifb_ne (tgt := 226) dX7_canShed_189 rfl (fun h189 => ?_) (fun h189 => ?_)
          ·
            refine J_iconst dX7_canShed_226 ?_
            refine J_istore (L' := [(33, 0), (0, ((s : Nat) : Int)), (0, ((g : Nat) : Int)), (0, ((p : Nat) : Int)), (9, 0), (9, 0), (0, ((k : Nat) : Int)), (0, 0), (0, ((o : Nat) : Int))]) dX7_canShed_227 (by decide) rfl rfl ?_
            refine J_iinc (v := (((o + 1) : Nat) : Int)) (L' := [(33, 0), (0, ((s : Nat) : Int)), (0, ((g : Nat) : Int)), (0, ((p : Nat) : Int)), (9, 0), (9, 0), (0, ((k : Nat) : Int)), (0, 0), (0, (((o + 1) : Nat) : Int))]) dX7_canShed_229 rfl (by omega) (by decide) rfl rfl ?_
            refine J_goto (tgt := 155) dX7_canShed_232 rfl ?_
            refine J_eq (L' := [(33, 0), (0, ((s : Nat) : Int)), (0, ((g : Nat) : Int)), (0, ((p : Nat) : Int)), (9, 0), (9, 0), (0, ((k : Nat) : Int)), (0, ((Bool.toNat (false) : Nat) : Int)), (0, (((o + 1) : Nat) : Int))]) rfl rfl rfl ?_
            exact ih _ _ (by rw [anyN_f (by simp [csQ, h189]), ← g1, h166]) (by omega) (by omega)
          ·
            refine J_aload_n dX7_canShed_192 rfl ?_
            refine J_getR dX7_canShed_193 flX7_17 rfl rfl ?_
            refine J_iload dX7_canShed_196 rfl ?_
            refine J_iald dX7_canShed_198 rfl (by decide) (MR.ix hR (by omega)) (J_top (v := (((F k) : Nat) : Int)) (MR.gF hR (by omega)) ?_)
            refine J_iload_n dX7_canShed_199 rfl ?_
            refine J_iconst dX7_canShed_200 ?_
            refine J_ixor dX7_canShed_201 (J_top (v := (-((g : Nat) : Int) - 1)) (j_notN rfl hg) ?_)
            refine J_iand dX7_canShed_202 (J_top (v := (((ndf (F k) g) : Nat) : Int)) (j_ndfN rfl rfl (MR.f31 hR (by omega))) ?_)
            refine J_iconst dX7_canShed_203 ?_
            refine J_iload_n dX7_canShed_204 rfl ?_
            refine J_ishl dX7_canShed_205 (J_top (v := (((2 ^ p) : Nat) : Int)) (j_shl1 rfl rfl (by omega)) ?_)
            refine J_iconst dX7_canShed_206 ?_
            refine J_ixor dX7_canShed_207 (J_top (v := (-(((2 ^ p) : Nat) : Int) - 1)) (j_notN rfl (nb_p2 (by omega))) ?_)
            refine J_iand dX7_canShed_208 (J_top (v := (((ndf (ndf (F k) g) (2 ^ p)) : Nat) : Int)) (j_ndfN rfl rfl (nb_ndf (MR.f31 hR (by omega)))) ?_)
            refine J_aload_n dX7_canShed_209 rfl ?_
            refine J_getR dX7_canShed_210 flX7_17 rfl rfl ?_
            refine J_iload dX7_canShed_213 rfl ?_
            refine J_iald dX7_canShed_215 rfl (by decide) (MR.ix hR (by omega)) (J_top (v := (((F o) : Nat) : Int)) (MR.gF hR (by omega)) ?_)
            refine J_callSiQ (cl := mX7_lies) [(0, (((ndf (ndf (F k) g) (2 ^ p)) : Nat) : Int)), (0, (((F o) : Nat) : Int))] [] dX7_canShed_216 mlX7_183 csX7_lies rfl rfl (by decide) (Nat.le_of_ble_eq_true rfl) rfl (ev_X7_lies (ndf (ndf (F k) g) (2 ^ p)) (F o) (nb_ndf (nb_ndf (MR.f31 hR (by omega)))) (MR.f31 hR (by omega)) M) ?_
            refine J_ifb_eq (tgt := 226) dX7_canShed_219 rfl (fun h219 => ?_) (fun h219 => ?_)
            ·
              refine J_iconst dX7_canShed_226 ?_
              refine J_istore (L' := [(33, 0), (0, ((s : Nat) : Int)), (0, ((g : Nat) : Int)), (0, ((p : Nat) : Int)), (9, 0), (9, 0), (0, ((k : Nat) : Int)), (0, 0), (0, ((o : Nat) : Int))]) dX7_canShed_227 (by decide) rfl rfl ?_
              refine J_iinc (v := (((o + 1) : Nat) : Int)) (L' := [(33, 0), (0, ((s : Nat) : Int)), (0, ((g : Nat) : Int)), (0, ((p : Nat) : Int)), (9, 0), (9, 0), (0, ((k : Nat) : Int)), (0, 0), (0, (((o + 1) : Nat) : Int))]) dX7_canShed_229 rfl (by omega) (by decide) rfl rfl ?_
              refine J_goto (tgt := 155) dX7_canShed_232 rfl ?_
              refine J_eq (L' := [(33, 0), (0, ((s : Nat) : Int)), (0, ((g : Nat) : Int)), (0, ((p : Nat) : Int)), (9, 0), (9, 0), (0, ((k : Nat) : Int)), (0, ((Bool.toNat (false) : Nat) : Int)), (0, (((o + 1) : Nat) : Int))]) rfl rfl rfl ?_
              exact ih _ _ (by rw [anyN_f (by simp [csQ, h219]), ← g1, h166]) (by omega) (by omega)
            ·
              refine J_iconst dX7_canShed_222 ?_
              refine J_goto (tgt := 227) dX7_canShed_223 rfl ?_
              refine J_istore (L' := [(33, 0), (0, ((s : Nat) : Int)), (0, ((g : Nat) : Int)), (0, ((p : Nat) : Int)), (9, 0), (9, 0), (0, ((k : Nat) : Int)), (0, 1), (0, ((o : Nat) : Int))]) dX7_canShed_227 (by decide) rfl rfl ?_
              refine J_iinc (v := (((o + 1) : Nat) : Int)) (L' := [(33, 0), (0, ((s : Nat) : Int)), (0, ((g : Nat) : Int)), (0, ((p : Nat) : Int)), (9, 0), (9, 0), (0, ((k : Nat) : Int)), (0, 1), (0, (((o + 1) : Nat) : Int))]) dX7_canShed_229 rfl (by omega) (by decide) rfl rfl ?_
              refine J_goto (tgt := 155) dX7_canShed_232 rfl ?_
              refine J_eq (L' := [(33, 0), (0, ((s : Nat) : Int)), (0, ((g : Nat) : Int)), (0, ((p : Nat) : Int)), (9, 0), (9, 0), (0, ((k : Nat) : Int)), (0, ((Bool.toNat (true) : Nat) : Int)), (0, (((o + 1) : Nat) : Int))]) rfl rfl rfl ?_
              exact ih _ _ (by rw [anyN_t (by simp [csQ, h175, h189, h219])]; simp) (by omega) (by omega)
set_option maxRecDepth 100000 in
set_option maxHeartbeats 4000000 in
theorem ev_X7_canShed_L113 (P D n : Nat) (F O : Nat → Nat) (M : jM) (hR : MR P D n F O M) (s g p : Nat) (hs : s < 2147483648) (hg : g < 2147483648) (hp : p < 7) (e1 : g.testBit p = false) (e2 : anyN n (fun k => s.testBit k && (F k).testBit p) = true) (e3 : anyN n (fun k => s.testBit k && !(F k).testBit p) = true) : ∀ (fu : Nat) (k : Nat) (f1 : allN k (csK n F s g p) = true) (f2 : k ≤ n) (hfu : n - k < fu), J none 1 mX7_canShed 113 [(33, 0), (0, ((s : Nat) : Int)), (0, ((g : Nat) : Int)), (0, ((p : Nat) : Int)), (9, 0), (9, 0), (0, ((k : Nat) : Int)), (9, 0), (9, 0)] [] M (j_ret mX7_canShed (fun z M' => z = ((Bool.toNat (csB n F s g p) : Nat) : Int) ∧ M' = M)) := by
  intro fu
  induction fu with
  | zero => intro k f1 f2 hfu; exact absurd hfu (Nat.not_lt_zero _)
  | succ fu ih =>
    intro k f1 f2 hfu
    have hn12 := MR.hn hR
    have hP7 := MR.hP hR
    have hD5 := MR.hD hR
    refine J_iload dX7_canShed_113 rfl ?_
    refine J_aload_n dX7_canShed_115 rfl ?_
    refine J_getI dX7_canShed_116 flX7_176 rfl rfl (J_top (v := ((n : Nat) : Int)) (MR.gn hR) ?_)
    refine J_icmp_ge (tgt := 248) dX7_canShed_119 rfl (j_R (by omega)) (j_R (by omega)) (fun h119 => ?_) (fun h119 => ?_)
    ·
      refine J_iconst dX7_canShed_248 ?_
      refine J_zreturn dX7_canShed_249 rfl (Or.inr rfl) ?_
      have : k = n := by omega
      subst this
      exact ⟨bt (by simp [csB, e1, e2, e3, f1]), rfl⟩
    ·
      refine J_iload_n dX7_canShed_122 rfl ?_
      refine J_iload dX7_canShed_123 rfl ?_
      refine J_callSiQ (cl := mX7_has) [(0, ((s : Nat) : Int)), (0, ((k : Nat) : Int))] [] dX7_canShed_125 mlX7_132 csX7_has rfl rfl (by decide) (Nat.le_of_ble_eq_true rfl) rfl (ev_X7_has s k hs (by omega) M) ?_
      refine J_ifb_eq (tgt := 145) dX7_canShed_128 rfl (fun h128 => ?_) (fun h128 => ?_)
      ·
        refine J_iconst dX7_canShed_145 ?_
        refine J_goto (tgt := 150) dX7_canShed_146 rfl ?_
        refine J_istore (L' := [(33, 0), (0, ((s : Nat) : Int)), (0, ((g : Nat) : Int)), (0, ((p : Nat) : Int)), (9, 0), (9, 0), (0, ((k : Nat) : Int)), (0, 1), (9, 0)]) dX7_canShed_150 (by decide) rfl rfl ?_
        refine J_iconst dX7_canShed_152 ?_
        refine J_istore (L' := [(33, 0), (0, ((s : Nat) : Int)), (0, ((g : Nat) : Int)), (0, ((p : Nat) : Int)), (9, 0), (9, 0), (0, ((k : Nat) : Int)), (0, 1), (0, 0)]) dX7_canShed_153 (by decide) rfl rfl ?_
        refine J_eq (L' := [(33, 0), (0, ((s : Nat) : Int)), (0, ((g : Nat) : Int)), (0, ((p : Nat) : Int)), (9, 0), (9, 0), (0, ((k : Nat) : Int)), (0, ((Bool.toNat (true) : Nat) : Int)), (0, ((0 : Nat) : Int))]) rfl rfl rfl ?_
        refine ev_X7_canShed_L155 P D n F O M hR s g p hs hg hp k (by omega) (fun b g1 => ?_) _ _ _ (by simp [anyN, h128]) (by omega) (Nat.lt_succ_self _)
        ·
          refine J_iload dX7_canShed_235 rfl ?_
          refine J_ifb_ne (tgt := 242) dX7_canShed_237 rfl (fun h237 => ?_) (fun h237 => ?_)
          ·
            refine J_iinc (v := (((k + 1) : Nat) : Int)) (L' := [(33, 0), (0, ((s : Nat) : Int)), (0, ((g : Nat) : Int)), (0, ((p : Nat) : Int)), (9, 0), (9, 0), (0, (((k + 1) : Nat) : Int)), (0, ((Bool.toNat (b) : Nat) : Int)), (9, 0)]) dX7_canShed_242 rfl (by omega) (by decide) rfl rfl ?_
            refine J_goto (tgt := 113) dX7_canShed_245 rfl ?_
            refine J_unset 7 (L' := [(33, 0), (0, ((s : Nat) : Int)), (0, ((g : Nat) : Int)), (0, ((p : Nat) : Int)), (9, 0), (9, 0), (0, (((k + 1) : Nat) : Int)), (9, 0), (9, 0)]) rfl ?_
            exact ih _ (by rw [allN_t (by rw [← g1, h237]), f1]) (by omega) (by omega)
          ·
            refine J_iconst dX7_canShed_240 ?_
            refine J_zreturn dX7_canShed_241 rfl (Or.inl rfl) ?_
            exact ⟨bf (by have := allN_no (n := n) (p := csK n F s g p) (k := k) (by rw [← g1, h237]) (by omega); simp [csB, this]), rfl⟩
      ·
        refine J_aload_n dX7_canShed_131 rfl ?_
        refine J_getR dX7_canShed_132 flX7_17 rfl rfl ?_
        refine J_iload dX7_canShed_135 rfl ?_
        refine J_iald dX7_canShed_137 rfl (by decide) (MR.ix hR (by omega)) (J_top (v := (((F k) : Nat) : Int)) (MR.gF hR (by omega)) ?_)
        refine J_iload_n dX7_canShed_138 rfl ?_
        refine J_callSiQ (cl := mX7_has) [(0, (((F k) : Nat) : Int)), (0, ((p : Nat) : Int))] [] dX7_canShed_139 mlX7_132 csX7_has rfl rfl (by decide) (Nat.le_of_ble_eq_true rfl) rfl (ev_X7_has (F k) p (MR.f31 hR (by omega)) (by omega) M) ?_
        refine J_ifb_ne (tgt := 149) dX7_canShed_142 rfl (fun h142 => ?_) (fun h142 => ?_)
        ·
          refine J_iconst dX7_canShed_149 ?_
          refine J_istore (L' := [(33, 0), (0, ((s : Nat) : Int)), (0, ((g : Nat) : Int)), (0, ((p : Nat) : Int)), (9, 0), (9, 0), (0, ((k : Nat) : Int)), (0, 0), (9, 0)]) dX7_canShed_150 (by decide) rfl rfl ?_
          refine J_iconst dX7_canShed_152 ?_
          refine J_istore (L' := [(33, 0), (0, ((s : Nat) : Int)), (0, ((g : Nat) : Int)), (0, ((p : Nat) : Int)), (9, 0), (9, 0), (0, ((k : Nat) : Int)), (0, 0), (0, 0)]) dX7_canShed_153 (by decide) rfl rfl ?_
          refine J_eq (L' := [(33, 0), (0, ((s : Nat) : Int)), (0, ((g : Nat) : Int)), (0, ((p : Nat) : Int)), (9, 0), (9, 0), (0, ((k : Nat) : Int)), (0, ((Bool.toNat (false) : Nat) : Int)), (0, ((0 : Nat) : Int))]) rfl rfl rfl ?_
          refine ev_X7_canShed_L155 P D n F O M hR s g p hs hg hp k (by omega) (fun b g1 => ?_) _ _ _ (by simp [anyN, h142, h128]) (by omega) (Nat.lt_succ_self _)
          ·
            refine J_iload dX7_canShed_235 rfl ?_
            refine J_ifb_ne (tgt := 242) dX7_canShed_237 rfl (fun h237 => ?_) (fun h237 => ?_)
            ·
              refine J_iinc (v := (((k + 1) : Nat) : Int)) (L' := [(33, 0), (0, ((s : Nat) : Int)), (0, ((g : Nat) : Int)), (0, ((p : Nat) : Int)), (9, 0), (9, 0), (0, (((k + 1) : Nat) : Int)), (0, ((Bool.toNat (b) : Nat) : Int)), (9, 0)]) dX7_canShed_242 rfl (by omega) (by decide) rfl rfl ?_
              refine J_goto (tgt := 113) dX7_canShed_245 rfl ?_
              refine J_unset 7 (L' := [(33, 0), (0, ((s : Nat) : Int)), (0, ((g : Nat) : Int)), (0, ((p : Nat) : Int)), (9, 0), (9, 0), (0, (((k + 1) : Nat) : Int)), (9, 0), (9, 0)]) rfl ?_
              exact ih _ (by rw [allN_t (by rw [← g1, h237]), f1]) (by omega) (by omega)
            ·
              refine J_iconst dX7_canShed_240 ?_
              refine J_zreturn dX7_canShed_241 rfl (Or.inl rfl) ?_
              exact ⟨bf (by have := allN_no (n := n) (p := csK n F s g p) (k := k) (by rw [← g1, h237]) (by omega); simp [csB, this]), rfl⟩
        ·
          refine J_iconst dX7_canShed_145 ?_
          refine J_goto (tgt := 150) dX7_canShed_146 rfl ?_
          refine J_istore (L' := [(33, 0), (0, ((s : Nat) : Int)), (0, ((g : Nat) : Int)), (0, ((p : Nat) : Int)), (9, 0), (9, 0), (0, ((k : Nat) : Int)), (0, 1), (9, 0)]) dX7_canShed_150 (by decide) rfl rfl ?_
          refine J_iconst dX7_canShed_152 ?_
          refine J_istore (L' := [(33, 0), (0, ((s : Nat) : Int)), (0, ((g : Nat) : Int)), (0, ((p : Nat) : Int)), (9, 0), (9, 0), (0, ((k : Nat) : Int)), (0, 1), (0, 0)]) dX7_canShed_153 (by decide) rfl rfl ?_
          refine J_eq (L' := [(33, 0), (0, ((s : Nat) : Int)), (0, ((g : Nat) : Int)), (0, ((p : Nat) : Int)), (9, 0), (9, 0), (0, ((k : Nat) : Int)), (0, ((Bool.toNat (true) : Nat) : Int)), (0, ((0 : Nat) : Int))]) rfl rfl rfl ?_
          refine ev_X7_canShed_L155 P D n F O M hR s g p hs hg hp k (by omega) (fun b g1 => ?_) _ _ _ (by simp [anyN, h142, h128]) (by omega) (Nat.lt_succ_self _)
          ·
            refine J_iload dX7_canShed_235 rfl ?_
            refine J_ifb_ne (tgt := 242) dX7_canShed_237 rfl (fun h237 => ?_) (fun h237 => ?_)
            ·
              refine J_iinc (v := (((k + 1) : Nat) : Int)) (L' := [(33, 0), (0, ((s : Nat) : Int)), (0, ((g : Nat) : Int)), (0, ((p : Nat) : Int)), (9, 0), (9, 0), (0, (((k + 1) : Nat) : Int)), (0, ((Bool.toNat (b) : Nat) : Int)), (9, 0)]) dX7_canShed_242 rfl (by omega) (by decide) rfl rfl ?_
              refine J_goto (tgt := 113) dX7_canShed_245 rfl ?_
              refine J_unset 7 (L' := [(33, 0), (0, ((s : Nat) : Int)), (0, ((g : Nat) : Int)), (0, ((p : Nat) : Int)), (9, 0), (9, 0), (0, (((k + 1) : Nat) : Int)), (9, 0), (9, 0)]) rfl ?_
              exact ih _ (by rw [allN_t (by rw [← g1, h237]), f1]) (by omega) (by omega)
            ·
              refine J_iconst dX7_canShed_240 ?_
              refine J_zreturn dX7_canShed_241 rfl (Or.inl rfl) ?_
              exact ⟨bf (by have := allN_no (n := n) (p := csK n F s g p) (k := k) (by rw [← g1, h237]) (by omega); simp [csB, this]), rfl⟩
set_option maxRecDepth 100000 in
set_option maxHeartbeats 4000000 in
theorem ev_X7_canShed_L9 (P D n : Nat) (F O : Nat → Nat) (M : jM) (hR : MR P D n F O M) (s g p : Nat) (hs : s < 2147483648) (hg : g < 2147483648) (hp : p < 7)  : ∀ (fu : Nat) (a b : Bool) (k : Nat) (h1 : a = anyN k (fun k => s.testBit k && (F k).testBit p)) (h2 : b = anyN k (fun k => s.testBit k && !(F k).testBit p)) (h3 : k ≤ n) (hfu : n - k < fu), J none 1 mX7_canShed 9 [(33, 0), (0, ((s : Nat) : Int)), (0, ((g : Nat) : Int)), (0, ((p : Nat) : Int)), (0, ((Bool.toNat (a) : Nat) : Int)), (0, ((Bool.toNat (b) : Nat) : Int)), (0, ((k : Nat) : Int)), (9, 0), (9, 0)] [] M (j_ret mX7_canShed (fun z M' => z = ((Bool.toNat (csB n F s g p) : Nat) : Int) ∧ M' = M)) := by
  intro fu
  induction fu with
  | zero => intro a b k h1 h2 h3 hfu; exact absurd hfu (Nat.not_lt_zero _)
  | succ fu ih =>
    intro a b k h1 h2 h3 hfu
    have hn12 := MR.hn hR
    have hP7 := MR.hP hR
    have hD5 := MR.hD hR
    refine J_iload dX7_canShed_9 rfl ?_
    refine J_aload_n dX7_canShed_11 rfl ?_
    refine J_getI dX7_canShed_12 flX7_176 rfl rfl (J_top (v := ((n : Nat) : Int)) (MR.gn hR) ?_)
    refine J_icmp_ge (tgt := 90) dX7_canShed_15 rfl (j_R (by omega)) (j_R (by omega)) (fun h15 => ?_) (fun h15 => ?_)
    ·
      refine J_iload_n dX7_canShed_90 rfl ?_
      refine J_iload_n dX7_canShed_91 rfl ?_
      refine J_callSiQ (cl := mX7_has) [(0, ((g : Nat) : Int)), (0, ((p : Nat) : Int))] [] dX7_canShed_92 mlX7_132 csX7_has rfl rfl (by decide) (Nat.le_of_ble_eq_true rfl) rfl (ev_X7_has g p hg (by omega) M) ?_
      refine J_ifb_ne (tgt := 108) dX7_canShed_95 rfl (fun h95 => ?_) (fun h95 => ?_)
      ·
        refine J_iconst dX7_canShed_108 ?_
        refine J_zreturn dX7_canShed_109 rfl (Or.inl rfl) ?_
        exact ⟨bf (by simp [csB, h95]), rfl⟩
      ·
        refine J_iload dX7_canShed_98 rfl ?_
        refine J_ifb_eq (tgt := 108) dX7_canShed_100 rfl (fun h100 => ?_) (fun h100 => ?_)
        ·
          refine J_iconst dX7_canShed_108 ?_
          refine J_zreturn dX7_canShed_109 rfl (Or.inl rfl) ?_
          exact ⟨bf (by rw [show k = n by omega, h100] at h1; simp [csB, ← h1]), rfl⟩
        ·
          refine J_iload dX7_canShed_103 rfl ?_
          refine J_ifb_ne (tgt := 110) dX7_canShed_105 rfl (fun h105 => ?_) (fun h105 => ?_)
          ·
            refine J_iconst dX7_canShed_110 ?_
            refine J_istore (L' := [(33, 0), (0, ((s : Nat) : Int)), (0, ((g : Nat) : Int)), (0, ((p : Nat) : Int)), (0, ((Bool.toNat (a) : Nat) : Int)), (0, ((Bool.toNat (b) : Nat) : Int)), (0, 0), (9, 0), (9, 0)]) dX7_canShed_111 (by decide) rfl rfl ?_
            refine J_unset 4 (L' := [(33, 0), (0, ((s : Nat) : Int)), (0, ((g : Nat) : Int)), (0, ((p : Nat) : Int)), (9, 0), (0, ((Bool.toNat (b) : Nat) : Int)), (0, 0), (9, 0), (9, 0)]) rfl ?_
            refine J_unset 5 (L' := [(33, 0), (0, ((s : Nat) : Int)), (0, ((g : Nat) : Int)), (0, ((p : Nat) : Int)), (9, 0), (9, 0), (0, 0), (9, 0), (9, 0)]) rfl ?_
            refine J_eq (L' := [(33, 0), (0, ((s : Nat) : Int)), (0, ((g : Nat) : Int)), (0, ((p : Nat) : Int)), (9, 0), (9, 0), (0, ((0 : Nat) : Int)), (9, 0), (9, 0)]) rfl rfl rfl ?_
            exact ev_X7_canShed_L113 P D n F O M hR s g p hs hg hp (by exact h95) (by rw [← show k = n by omega, ← h1, h100]) (by rw [← show k = n by omega, ← h2, h105]) _ _ (by rfl) (by omega) (Nat.lt_succ_self _)
          ·
            refine J_iconst dX7_canShed_108 ?_
            refine J_zreturn dX7_canShed_109 rfl (Or.inl rfl) ?_
            exact ⟨bf (by rw [show k = n by omega, h105] at h2; simp [csB, ← h2]), rfl⟩
    ·
      refine J_iload dX7_canShed_18 rfl ?_
      refine J_iload_n dX7_canShed_20 rfl ?_
      refine J_iload dX7_canShed_21 rfl ?_
      refine J_callSiQ (cl := mX7_has) [(0, ((s : Nat) : Int)), (0, ((k : Nat) : Int))] [(0, ((Bool.toNat (a) : Nat) : Int))] dX7_canShed_23 mlX7_132 csX7_has rfl rfl (by decide) (Nat.le_of_ble_eq_true rfl) rfl (ev_X7_has s k hs (by omega) M) ?_
      refine J_ifb_eq (tgt := 47) dX7_canShed_26 rfl (fun h26 => ?_) (fun h26 => ?_)
      ·
        refine J_iconst dX7_canShed_47 ?_
        refine J_ior dX7_canShed_48 (J_top (v := ((Bool.toNat (a) : Nat) : Int)) (j_or0 rfl (nb_bool _)) ?_)
        refine J_istore (L' := [(33, 0), (0, ((s : Nat) : Int)), (0, ((g : Nat) : Int)), (0, ((p : Nat) : Int)), (0, ((Bool.toNat (a) : Nat) : Int)), (0, ((Bool.toNat (b) : Nat) : Int)), (0, ((k : Nat) : Int)), (9, 0), (9, 0)]) dX7_canShed_49 (by decide) rfl rfl ?_
        refine J_iload dX7_canShed_51 rfl ?_
        refine J_iload_n dX7_canShed_53 rfl ?_
        refine J_iload dX7_canShed_54 rfl ?_
        refine J_callSiQ (cl := mX7_has) [(0, ((s : Nat) : Int)), (0, ((k : Nat) : Int))] [(0, ((Bool.toNat (b) : Nat) : Int))] dX7_canShed_56 mlX7_132 csX7_has rfl rfl (by decide) (Nat.le_of_ble_eq_true rfl) rfl (ev_X7_has s k hs (by omega) M) ?_
        refine J_ifb_eq (tgt := 80) dX7_canShed_59 rfl (fun h59 => ?_) (fun h59 => ?_)
        ·
          refine J_iconst dX7_canShed_80 ?_
          refine J_ior dX7_canShed_81 (J_top (v := ((Bool.toNat (b) : Nat) : Int)) (j_or0 rfl (nb_bool _)) ?_)
          refine J_istore (L' := [(33, 0), (0, ((s : Nat) : Int)), (0, ((g : Nat) : Int)), (0, ((p : Nat) : Int)), (0, ((Bool.toNat (a) : Nat) : Int)), (0, ((Bool.toNat (b) : Nat) : Int)), (0, ((k : Nat) : Int)), (9, 0), (9, 0)]) dX7_canShed_82 (by decide) rfl rfl ?_
          refine J_iinc (v := (((k + 1) : Nat) : Int)) (L' := [(33, 0), (0, ((s : Nat) : Int)), (0, ((g : Nat) : Int)), (0, ((p : Nat) : Int)), (0, ((Bool.toNat (a) : Nat) : Int)), (0, ((Bool.toNat (b) : Nat) : Int)), (0, (((k + 1) : Nat) : Int)), (9, 0), (9, 0)]) dX7_canShed_84 rfl (by omega) (by decide) rfl rfl ?_
          refine J_goto (tgt := 9) dX7_canShed_87 rfl ?_
          exact ih _ _ _ (by rw [anyN_f (by simp [h26]), ← h1]) (by rw [anyN_f (by simp [h59]), ← h2]) (by omega) (by omega)
        · exact absurd (h26.symm.trans h59) (by decide)
      ·
        refine J_aload_n dX7_canShed_29 rfl ?_
        refine J_getR dX7_canShed_30 flX7_17 rfl rfl ?_
        refine J_iload dX7_canShed_33 rfl ?_
        refine J_iald dX7_canShed_35 rfl (by decide) (MR.ix hR (by omega)) (J_top (v := (((F k) : Nat) : Int)) (MR.gF hR (by omega)) ?_)
        refine J_iload_n dX7_canShed_36 rfl ?_
        refine J_callSiQ (cl := mX7_has) [(0, (((F k) : Nat) : Int)), (0, ((p : Nat) : Int))] [(0, ((Bool.toNat (a) : Nat) : Int))] dX7_canShed_37 mlX7_132 csX7_has rfl rfl (by decide) (Nat.le_of_ble_eq_true rfl) rfl (ev_X7_has (F k) p (MR.f31 hR (by omega)) (by omega) M) ?_
        refine J_ifb_eq (tgt := 47) dX7_canShed_40 rfl (fun h40 => ?_) (fun h40 => ?_)
        ·
          refine J_iconst dX7_canShed_47 ?_
          refine J_ior dX7_canShed_48 (J_top (v := ((Bool.toNat (a) : Nat) : Int)) (j_or0 rfl (nb_bool _)) ?_)
          refine J_istore (L' := [(33, 0), (0, ((s : Nat) : Int)), (0, ((g : Nat) : Int)), (0, ((p : Nat) : Int)), (0, ((Bool.toNat (a) : Nat) : Int)), (0, ((Bool.toNat (b) : Nat) : Int)), (0, ((k : Nat) : Int)), (9, 0), (9, 0)]) dX7_canShed_49 (by decide) rfl rfl ?_
          refine J_iload dX7_canShed_51 rfl ?_
          refine J_iload_n dX7_canShed_53 rfl ?_
          refine J_iload dX7_canShed_54 rfl ?_
          refine J_callSiQ (cl := mX7_has) [(0, ((s : Nat) : Int)), (0, ((k : Nat) : Int))] [(0, ((Bool.toNat (b) : Nat) : Int))] dX7_canShed_56 mlX7_132 csX7_has rfl rfl (by decide) (Nat.le_of_ble_eq_true rfl) rfl (ev_X7_has s k hs (by omega) M) ?_
          refine J_ifb_eq (tgt := 80) dX7_canShed_59 rfl (fun h59 => ?_) (fun h59 => ?_)
          · exact absurd (h26.symm.trans h59) (by decide)
          ·
            refine J_aload_n dX7_canShed_62 rfl ?_
            refine J_getR dX7_canShed_63 flX7_17 rfl rfl ?_
            refine J_iload dX7_canShed_66 rfl ?_
            refine J_iald dX7_canShed_68 rfl (by decide) (MR.ix hR (by omega)) (J_top (v := (((F k) : Nat) : Int)) (MR.gF hR (by omega)) ?_)
            refine J_iload_n dX7_canShed_69 rfl ?_
            refine J_callSiQ (cl := mX7_has) [(0, (((F k) : Nat) : Int)), (0, ((p : Nat) : Int))] [(0, ((Bool.toNat (b) : Nat) : Int))] dX7_canShed_70 mlX7_132 csX7_has rfl rfl (by decide) (Nat.le_of_ble_eq_true rfl) rfl (ev_X7_has (F k) p (MR.f31 hR (by omega)) (by omega) M) ?_
            refine J_ifb_ne (tgt := 80) dX7_canShed_73 rfl (fun h73 => ?_) (fun h73 => ?_)
            · exact absurd (h40.symm.trans h73) (by decide)
            ·
              refine J_iconst dX7_canShed_76 ?_
              refine J_goto (tgt := 81) dX7_canShed_77 rfl ?_
              refine J_ior dX7_canShed_81 (J_top (v := ((Bool.toNat (true) : Nat) : Int)) (j_orB1 _) ?_)
              refine J_istore (L' := [(33, 0), (0, ((s : Nat) : Int)), (0, ((g : Nat) : Int)), (0, ((p : Nat) : Int)), (0, ((Bool.toNat (a) : Nat) : Int)), (0, ((Bool.toNat (true) : Nat) : Int)), (0, ((k : Nat) : Int)), (9, 0), (9, 0)]) dX7_canShed_82 (by decide) rfl rfl ?_
              refine J_iinc (v := (((k + 1) : Nat) : Int)) (L' := [(33, 0), (0, ((s : Nat) : Int)), (0, ((g : Nat) : Int)), (0, ((p : Nat) : Int)), (0, ((Bool.toNat (a) : Nat) : Int)), (0, ((Bool.toNat (true) : Nat) : Int)), (0, (((k + 1) : Nat) : Int)), (9, 0), (9, 0)]) dX7_canShed_84 rfl (by omega) (by decide) rfl rfl ?_
              refine J_goto (tgt := 9) dX7_canShed_87 rfl ?_
              exact ih _ _ _ (by rw [anyN_f (by simp [h40]), ← h1]) (by exact (anyN_t (by simp [h59, h73])).symm) (by omega) (by omega)
        ·
          refine J_iconst dX7_canShed_43 ?_
          refine J_goto (tgt := 48) dX7_canShed_44 rfl ?_
          refine J_ior dX7_canShed_48 (J_top (v := ((Bool.toNat (true) : Nat) : Int)) (j_orB1 _) ?_)
          refine J_istore (L' := [(33, 0), (0, ((s : Nat) : Int)), (0, ((g : Nat) : Int)), (0, ((p : Nat) : Int)), (0, ((Bool.toNat (true) : Nat) : Int)), (0, ((Bool.toNat (b) : Nat) : Int)), (0, ((k : Nat) : Int)), (9, 0), (9, 0)]) dX7_canShed_49 (by decide) rfl rfl ?_
          refine J_iload dX7_canShed_51 rfl ?_
          refine J_iload_n dX7_canShed_53 rfl ?_
          refine J_iload dX7_canShed_54 rfl ?_
          refine J_callSiQ (cl := mX7_has) [(0, ((s : Nat) : Int)), (0, ((k : Nat) : Int))] [(0, ((Bool.toNat (b) : Nat) : Int))] dX7_canShed_56 mlX7_132 csX7_has rfl rfl (by decide) (Nat.le_of_ble_eq_true rfl) rfl (ev_X7_has s k hs (by omega) M) ?_
          refine J_ifb_eq (tgt := 80) dX7_canShed_59 rfl (fun h59 => ?_) (fun h59 => ?_)
          · exact absurd (h26.symm.trans h59) (by decide)
          ·
            refine J_aload_n dX7_canShed_62 rfl ?_
            refine J_getR dX7_canShed_63 flX7_17 rfl rfl ?_
            refine J_iload dX7_canShed_66 rfl ?_
            refine J_iald dX7_canShed_68 rfl (by decide) (MR.ix hR (by omega)) (J_top (v := (((F k) : Nat) : Int)) (MR.gF hR (by omega)) ?_)
            refine J_iload_n dX7_canShed_69 rfl ?_
            refine J_callSiQ (cl := mX7_has) [(0, (((F k) : Nat) : Int)), (0, ((p : Nat) : Int))] [(0, ((Bool.toNat (b) : Nat) : Int))] dX7_canShed_70 mlX7_132 csX7_has rfl rfl (by decide) (Nat.le_of_ble_eq_true rfl) rfl (ev_X7_has (F k) p (MR.f31 hR (by omega)) (by omega) M) ?_
            refine J_ifb_ne (tgt := 80) dX7_canShed_73 rfl (fun h73 => ?_) (fun h73 => ?_)
            ·
              refine J_iconst dX7_canShed_80 ?_
              refine J_ior dX7_canShed_81 (J_top (v := ((Bool.toNat (b) : Nat) : Int)) (j_or0 rfl (nb_bool _)) ?_)
              refine J_istore (L' := [(33, 0), (0, ((s : Nat) : Int)), (0, ((g : Nat) : Int)), (0, ((p : Nat) : Int)), (0, ((Bool.toNat (true) : Nat) : Int)), (0, ((Bool.toNat (b) : Nat) : Int)), (0, ((k : Nat) : Int)), (9, 0), (9, 0)]) dX7_canShed_82 (by decide) rfl rfl ?_
              refine J_iinc (v := (((k + 1) : Nat) : Int)) (L' := [(33, 0), (0, ((s : Nat) : Int)), (0, ((g : Nat) : Int)), (0, ((p : Nat) : Int)), (0, ((Bool.toNat (true) : Nat) : Int)), (0, ((Bool.toNat (b) : Nat) : Int)), (0, (((k + 1) : Nat) : Int)), (9, 0), (9, 0)]) dX7_canShed_84 rfl (by omega) (by decide) rfl rfl ?_
              refine J_goto (tgt := 9) dX7_canShed_87 rfl ?_
              exact ih _ _ _ (by exact (anyN_t (by simp [h26, h40])).symm) (by rw [anyN_f (by simp [h73]), ← h2]) (by omega) (by omega)
            · exact absurd (h40.symm.trans h73) (by decide)
set_option maxRecDepth 100000 in
set_option maxHeartbeats 4000000 in
theorem ev_X7_canShed (P D n : Nat) (F O : Nat → Nat) (M : jM) (hR : MR P D n F O M) (s g p : Nat) (hs : s < 2147483648) (hg : g < 2147483648) (hp : p < 7) : Ev 1 mX7_canShed [(33, 0), (0, ((s : Nat) : Int)), (0, ((g : Nat) : Int)), (0, ((p : Nat) : Int))] M (fun z M' => z = ((Bool.toNat (csB n F s g p) : Nat) : Int) ∧ M' = M) := by
  refine Ev_of (by decide +kernel) (Nat.le_of_ble_eq_true rfl) (L := [(33, 0), (0, ((s : Nat) : Int)), (0, ((g : Nat) : Int)), (0, ((p : Nat) : Int)), (9, 0), (9, 0), (9, 0), (9, 0), (9, 0)]) rfl ?_
  have hn12 := MR.hn hR
  have hP7 := MR.hP hR
  have hD5 := MR.hD hR
  refine J_iconst dX7_canShed_0 ?_
  refine J_istore (L' := [(33, 0), (0, ((s : Nat) : Int)), (0, ((g : Nat) : Int)), (0, ((p : Nat) : Int)), (0, 0), (9, 0), (9, 0), (9, 0), (9, 0)]) dX7_canShed_1 (by decide) rfl rfl ?_
  refine J_iconst dX7_canShed_3 ?_
  refine J_istore (L' := [(33, 0), (0, ((s : Nat) : Int)), (0, ((g : Nat) : Int)), (0, ((p : Nat) : Int)), (0, 0), (0, 0), (9, 0), (9, 0), (9, 0)]) dX7_canShed_4 (by decide) rfl rfl ?_
  refine J_iconst dX7_canShed_6 ?_
  refine J_istore (L' := [(33, 0), (0, ((s : Nat) : Int)), (0, ((g : Nat) : Int)), (0, ((p : Nat) : Int)), (0, 0), (0, 0), (0, 0), (9, 0), (9, 0)]) dX7_canShed_7 (by decide) rfl rfl ?_
  refine J_eq (L' := [(33, 0), (0, ((s : Nat) : Int)), (0, ((g : Nat) : Int)), (0, ((p : Nat) : Int)), (0, ((Bool.toNat (false) : Nat) : Int)), (0, ((Bool.toNat (false) : Nat) : Int)), (0, ((0 : Nat) : Int)), (9, 0), (9, 0)]) rfl rfl rfl ?_
  exact ev_X7_canShed_L9 P D n F O M hR s g p hs hg hp  _ _ _ _ (by rfl) (by rfl) (by omega) (Nat.lt_succ_self _)
set_option maxRecDepth 100000 in
set_option maxHeartbeats 4000000 in
theorem ev_X7_bothFall (P D n : Nat) (F O : Nat → Nat) (M : jM) (hR : MR P D n F O M) (f s g : Nat) (hs : s < 2147483648) (hg : g < 2147483648) (p : Nat) (hp : p < 7) (ihf : ∀ s g : Nat, s < 2147483648 → g < 2147483648 → popc s ≤ f → Ev (2 * f + 3) mX7_fallsOf [(33, 0), (0, ((s : Nat) : Int)), (0, ((g : Nat) : Int))] M (fun z M' => z = ((Bool.toNat (flB P n F f s g) : Nat) : Int) ∧ M' = M)) (hc1 : popc (ndf s (wpN n F s p)) ≤ f) (hc2 : popc (wpN n F s p) ≤ f) : Ev (2 * f + 4) mX7_bothFall [(33, 0), (0, ((s : Nat) : Int)), (0, ((g : Nat) : Int)), (0, ((p : Nat) : Int))] M (fun z M' => z = ((Bool.toNat (flB P n F f (ndf s (wpN n F s p)) g && flB P n F f (wpN n F s p) (g ||| 2 ^ p)) : Nat) : Int) ∧ M' = M) := by
  refine Ev_of (by decide +kernel) (Nat.le_of_ble_eq_true rfl) (L := [(33, 0), (0, ((s : Nat) : Int)), (0, ((g : Nat) : Int)), (0, ((p : Nat) : Int)), (9, 0)]) rfl ?_
  have hn12 := MR.hn hR
  have hP7 := MR.hP hR
  have hD5 := MR.hD hR
  refine J_aload_n dX7_bothFall_0 rfl ?_
  refine J_iload_n dX7_bothFall_1 rfl ?_
  refine J_iload_n dX7_bothFall_2 rfl ?_
  refine J_callViQ (cl := mX7_withPoint) [(0, ((s : Nat) : Int)), (0, ((p : Nat) : Int))] [] dX7_bothFall_3 mlX7_333 cvX7_withPoint rfl rfl rfl rfl rfl (by omega) (Nat.le_of_ble_eq_true rfl) rfl (ev_X7_withPoint P D n F O M hR s p hs (by omega)) ?_
  refine J_istore (L' := [(33, 0), (0, ((s : Nat) : Int)), (0, ((g : Nat) : Int)), (0, ((p : Nat) : Int)), (0, (((wpN n F s p) : Nat) : Int))]) dX7_bothFall_6 (by decide) rfl rfl ?_
  refine J_aload_n dX7_bothFall_8 rfl ?_
  refine J_iload_n dX7_bothFall_9 rfl ?_
  refine J_iload dX7_bothFall_10 rfl ?_
  refine J_iconst dX7_bothFall_12 ?_
  refine J_ixor dX7_bothFall_13 (J_top (v := (-(((wpN n F s p) : Nat) : Int) - 1)) (j_notN rfl (mskN_31 (by omega))) ?_)
  refine J_iand dX7_bothFall_14 (J_top (v := (((ndf s (wpN n F s p)) : Nat) : Int)) (j_ndfN rfl rfl hs) ?_)
  refine J_iload_n dX7_bothFall_15 rfl ?_
  refine J_callViQ (cl := mX7_fallsOf) [(0, (((ndf s (wpN n F s p)) : Nat) : Int)), (0, ((g : Nat) : Int))] [] dX7_bothFall_16 mlX7_336 cvX7_fallsOf rfl rfl rfl rfl rfl (by omega) (Nat.le_of_ble_eq_true rfl) rfl (ihf (ndf s (wpN n F s p)) g (nb_ndf hs) hg hc1) ?_
  refine J_ifb_eq (tgt := 40) dX7_bothFall_19 rfl (fun h19 => ?_) (fun h19 => ?_)
  ·
    refine J_iconst dX7_bothFall_40 ?_
    refine J_zreturn dX7_bothFall_41 rfl (Or.inl rfl) ?_
    exact ⟨bf (by rw [h19]; rfl), rfl⟩
  ·
    refine J_aload_n dX7_bothFall_22 rfl ?_
    refine J_iload dX7_bothFall_23 rfl ?_
    refine J_iload_n dX7_bothFall_25 rfl ?_
    refine J_iconst dX7_bothFall_26 ?_
    refine J_iload_n dX7_bothFall_27 rfl ?_
    refine J_ishl dX7_bothFall_28 (J_top (v := (((2 ^ p) : Nat) : Int)) (j_shl1 rfl rfl (by omega)) ?_)
    refine J_ior dX7_bothFall_29 (J_top (v := (((g ||| (2 ^ p)) : Nat) : Int)) (j_orN rfl rfl hg (nb_p2 (by omega))) ?_)
    refine J_callViQ (cl := mX7_fallsOf) [(0, (((wpN n F s p) : Nat) : Int)), (0, (((g ||| (2 ^ p)) : Nat) : Int))] [] dX7_bothFall_30 mlX7_336 cvX7_fallsOf rfl rfl rfl rfl rfl (by omega) (Nat.le_of_ble_eq_true rfl) rfl (ihf (wpN n F s p) (g ||| (2 ^ p)) (mskN_31 (by omega)) (nb_or hg (nb_p2 (by omega))) hc2) ?_
    refine J_ifb_eq (tgt := 40) dX7_bothFall_33 rfl (fun h33 => ?_) (fun h33 => ?_)
    ·
      refine J_iconst dX7_bothFall_40 ?_
      refine J_zreturn dX7_bothFall_41 rfl (Or.inl rfl) ?_
      exact ⟨bf (by rw [h33]; simp), rfl⟩
    ·
      refine J_iconst dX7_bothFall_36 ?_
      refine J_goto (tgt := 41) dX7_bothFall_37 rfl ?_
      refine J_zreturn dX7_bothFall_41 rfl (Or.inr rfl) ?_
      exact ⟨bt (by rw [h19, h33]; rfl), rfl⟩
set_option maxRecDepth 100000 in
set_option maxHeartbeats 4000000 in
theorem ev_X7_fallsOf0_L12 (P D n : Nat) (F O : Nat → Nat) (M : jM) (hR : MR P D n F O M) (dd s g : Nat) (hs : s < 2147483648) (hg : g < 2147483648) (bo : Nat → Bool) (hb : ∀ p : Nat, p < 7 → csB n F s g p = true → Ev (dd + 2) mX7_bothFall [(33, 0), (0, ((s : Nat) : Int)), (0, ((g : Nat) : Int)), (0, ((p : Nat) : Int))] M (fun z M' => z = ((Bool.toNat (bo p) : Nat) : Int) ∧ M' = M)) (h0 : ¬ popc s = 1) : ∀ (fu : Nat) (p : Nat) (f1 : anyN p (fun p => csB n F s g p && bo p) = false) (f2 : p ≤ P) (hfu : P - p < fu), J none (dd + 3) mX7_fallsOf 12 [(33, 0), (0, ((s : Nat) : Int)), (0, ((g : Nat) : Int)), (0, ((p : Nat) : Int))] [] M (j_ret mX7_fallsOf (fun z M' => z = ((Bool.toNat (popc s == 1 || anyN P (fun p => csB n F s g p && bo p)) : Nat) : Int) ∧ M' = M)) := by
  intro fu
  induction fu with
  | zero => intro p f1 f2 hfu; exact absurd hfu (Nat.not_lt_zero _)
  | succ fu ih =>
    intro p f1 f2 hfu
    have hn12 := MR.hn hR
    have hP7 := MR.hP hR
    have hD5 := MR.hD hR
    refine J_iload_n dX7_fallsOf_12 rfl ?_
    refine J_aload_n dX7_fallsOf_13 rfl ?_
    refine J_getI dX7_fallsOf_14 flX7_171 rfl rfl (J_top (v := ((P : Nat) : Int)) (MR.gP hR) ?_)
    refine J_icmp_ge (tgt := 48) dX7_fallsOf_17 rfl (j_R (by omega)) (j_R (by omega)) (fun h17 => ?_) (fun h17 => ?_)
    ·
      refine J_iconst dX7_fallsOf_48 ?_
      refine J_zreturn dX7_fallsOf_49 rfl (Or.inl rfl) ?_
      have : p = P := by omega
      subst this
      exact ⟨bf (by rw [f1, beq_eq_false_iff_ne.mpr h0]; rfl), rfl⟩
    ·
      refine J_aload_n dX7_fallsOf_20 rfl ?_
      refine J_iload_n dX7_fallsOf_21 rfl ?_
      refine J_iload_n dX7_fallsOf_22 rfl ?_
      refine J_iload_n dX7_fallsOf_23 rfl ?_
      refine J_callViQ (cl := mX7_canShed) [(0, ((s : Nat) : Int)), (0, ((g : Nat) : Int)), (0, ((p : Nat) : Int))] [] dX7_fallsOf_24 mlX7_327 cvX7_canShed rfl rfl rfl rfl rfl (by omega) (Nat.le_of_ble_eq_true rfl) rfl (ev_X7_canShed P D n F O M hR s g p hs hg (by omega)) ?_
      refine J_ifb_eq (tgt := 42) dX7_fallsOf_27 rfl (fun h27 => ?_) (fun h27 => ?_)
      ·
        refine J_iinc (v := (((p + 1) : Nat) : Int)) (L' := [(33, 0), (0, ((s : Nat) : Int)), (0, ((g : Nat) : Int)), (0, (((p + 1) : Nat) : Int))]) dX7_fallsOf_42 rfl (by omega) (by decide) rfl rfl ?_
        refine J_goto (tgt := 12) dX7_fallsOf_45 rfl ?_
        exact ih _ (by rw [anyN_f (by simp [h27]), f1]) (by omega) (by omega)
      ·
        refine J_aload_n dX7_fallsOf_30 rfl ?_
        refine J_iload_n dX7_fallsOf_31 rfl ?_
        refine J_iload_n dX7_fallsOf_32 rfl ?_
        refine J_iload_n dX7_fallsOf_33 rfl ?_
        refine J_callViQ (cl := mX7_bothFall) [(0, ((s : Nat) : Int)), (0, ((g : Nat) : Int)), (0, ((p : Nat) : Int))] [] dX7_fallsOf_34 mlX7_330 cvX7_bothFall rfl rfl rfl rfl rfl (by omega) (Nat.le_of_ble_eq_true rfl) rfl (hb p (by omega) h27) ?_
        refine J_ifb_eq (tgt := 42) dX7_fallsOf_37 rfl (fun h37 => ?_) (fun h37 => ?_)
        ·
          refine J_iinc (v := (((p + 1) : Nat) : Int)) (L' := [(33, 0), (0, ((s : Nat) : Int)), (0, ((g : Nat) : Int)), (0, (((p + 1) : Nat) : Int))]) dX7_fallsOf_42 rfl (by omega) (by decide) rfl rfl ?_
          refine J_goto (tgt := 12) dX7_fallsOf_45 rfl ?_
          exact ih _ (by rw [anyN_f (by simp [h37]), f1]) (by omega) (by omega)
        ·
          refine J_iconst dX7_fallsOf_40 ?_
          refine J_zreturn dX7_fallsOf_41 rfl (Or.inr rfl) ?_
          exact ⟨bt (by rw [anyN_iff (p := fun p => csB n F s g p && bo p) |>.mpr ⟨p, by omega, by simp [h27, h37]⟩]; simp), rfl⟩
set_option maxRecDepth 100000 in
set_option maxHeartbeats 4000000 in
theorem ev_X7_fallsOf0 (P D n : Nat) (F O : Nat → Nat) (M : jM) (hR : MR P D n F O M) (dd s g : Nat) (hs : s < 2147483648) (hg : g < 2147483648) (bo : Nat → Bool) (hb : ∀ p : Nat, p < 7 → csB n F s g p = true → Ev (dd + 2) mX7_bothFall [(33, 0), (0, ((s : Nat) : Int)), (0, ((g : Nat) : Int)), (0, ((p : Nat) : Int))] M (fun z M' => z = ((Bool.toNat (bo p) : Nat) : Int) ∧ M' = M)) : Ev (dd + 3) mX7_fallsOf [(33, 0), (0, ((s : Nat) : Int)), (0, ((g : Nat) : Int))] M (fun z M' => z = ((Bool.toNat (popc s == 1 || anyN P (fun p => csB n F s g p && bo p)) : Nat) : Int) ∧ M' = M) := by
  refine Ev_of (by decide +kernel) (Nat.le_of_ble_eq_true rfl) (L := [(33, 0), (0, ((s : Nat) : Int)), (0, ((g : Nat) : Int)), (9, 0)]) rfl ?_
  have hn12 := MR.hn hR
  have hP7 := MR.hP hR
  have hD5 := MR.hD hR
  refine J_iload_n dX7_fallsOf_0 rfl ?_
  refine J_callSiQ (cl := mX7_many) [(0, ((s : Nat) : Int))] [] dX7_fallsOf_1 mlX7_136 csX7_many rfl rfl (by omega) (Nat.le_of_ble_eq_true rfl) rfl (ev_X7_many s hs M) ?_
  refine J_iconst dX7_fallsOf_4 ?_
  refine J_icmp_ne (tgt := 10) dX7_fallsOf_5 rfl (j_R (popc_lt hs)) (by decide) (fun h5 => ?_) (fun h5 => ?_)
  ·
    refine J_iconst dX7_fallsOf_10 ?_
    refine J_istore_n (L' := [(33, 0), (0, ((s : Nat) : Int)), (0, ((g : Nat) : Int)), (0, 0)]) dX7_fallsOf_11 (by decide) rfl rfl ?_
    refine J_eq (L' := [(33, 0), (0, ((s : Nat) : Int)), (0, ((g : Nat) : Int)), (0, ((0 : Nat) : Int))]) rfl rfl rfl ?_
    exact ev_X7_fallsOf0_L12 P D n F O M hR dd s g hs hg bo hb (by omega) _ _ (by rfl) (by omega) (Nat.lt_succ_self _)
  ·
    refine J_iconst dX7_fallsOf_8 ?_
    refine J_zreturn dX7_fallsOf_9 rfl (Or.inr rfl) ?_
    exact ⟨bt (by rw [beq_iff_eq.mpr (by omega : popc s = 1)]; rfl), rfl⟩
theorem ev_X7_fallsOf (P D n : Nat) (F O : Nat → Nat) (M : jM) (hR : MR P D n F O M) : ∀ (f s g : Nat), s < 2147483648 → g < 2147483648 → popc s ≤ f → Ev (2 * f + 3) mX7_fallsOf [(33, 0), (0, ((s : Nat) : Int)), (0, ((g : Nat) : Int))] M (fun z M' => z = ((Bool.toNat (flB P n F f s g) : Nat) : Int) ∧ M' = M) := by
  intro f
  induction f with
  | zero =>
    intro s g hs hg hc
    have h0 : s = 0 := by
      rcases Nat.eq_zero_or_pos s with q | q
      · exact q
      · have := popc_pos (n := s) (by omega); omega
    subst h0
    have hz : ∀ p, csB n F 0 g p = false := by
      intro p
      have : anyN n (fun k => Nat.testBit 0 k && (F k).testBit p) = false := anyN_false.mpr (fun k _ => by simp)
      simp only [csB, this]
      simp
    have := ev_X7_fallsOf0 P D n F O M hR 0 0 g hs hg (fun _ => false) (fun p _ h => by rw [hz p] at h; exact absurd h (by decide))
    have e : flB P n F 0 0 g = (popc 0 == 1 || anyN P (fun p => csB n F 0 g p && false)) := by
      rw [anyN_false.mpr (fun k _ => by simp), Bool.or_false]
      rfl
    rw [e]
    exact this
  | succ f ihf =>
    intro s g hs hg hc
    have := ev_X7_fallsOf0 P D n F O M hR (2 * f + 2) s g hs hg (fun p => (flB P n F f (ndf s (wpN n F s p)) g && flB P n F f (wpN n F s p) (g ||| 2 ^ p))) (fun p hp h => ev_X7_bothFall P D n F O M hR f s g hs hg p hp ihf (cs_pop1 hR.wf h hc) (cs_pop2 hR.wf h hc))
    rw [show flB P n F (f + 1) s g = (popc s == 1 || anyN P (fun p => csB n F s g p && (flB P n F f (ndf s (wpN n F s p)) g && flB P n F f (wpN n F s p) (g ||| 2 ^ p)))) from rfl]
    exact this
