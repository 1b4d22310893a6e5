theorem cntN_rem {n k : Nat} {p q : Nat → Bool} (hk : k < n) (h1 : p k = true) (h2 : q k = false) (h : ∀ i, i ≠ k → q i = p i) : cntN n q + 1 = cntN n p := by
  induction n with
  | zero => omega
  | succ n ih =>
    simp only [cntN]
    by_cases e : k = n
    · subst e
      rw [h1, h2, cntN_congr (n := k) (p := q) (q := p) (fun i hi => h i (by omega))]
      rfl
    · have := ih (by omega)
      rw [h n (fun q => e q.symm)]
      omega
theorem popc_rem' {s k : Nat} (h : s.testBit k = true) : popc (ndf s (2 ^ k)) + 1 = popc s := by
  have hs : s < 2 ^ (s + k + 1) := Nat.lt_of_lt_of_le (lt_two_pow_self' s) (Nat.pow_le_pow_right (by decide) (by omega))
  rw [popc_cnt _ s hs, popc_cnt _ _ (nb_ndf hs)]
  refine cntN_rem (k := k) (by omega) h (by rw [ndf_bit, Nat.testBit_two_pow_self]; simp) ?_
  intro i hi
  show (ndf s (2 ^ k)).testBit i = s.testBit i
  rw [ndf_bit, Nat.testBit_two_pow]
  have : ¬ k = i := fun q => hi q.symm
  simp [this]
def alQ (G : Nat → Bool) (k : Nat) : Nat → Bool := fun t => G t && (popc t + 1 == k)
def nmQ (G : Nat → Bool) (k : Nat) : Nat → Bool := fun t => G t && (popc t == k)
def rwN (G : Nat → Bool) (k s : Nat) : Nat → Nat
  | 0 => 0
  | p + 1 => rwN G k s p ||| (if s.testBit p = true then 2 ^ cntN (ndf s (2 ^ p)) (alQ G k) else 0)
def rkV (G : Nat → Bool) (k : Nat) : Nat → Nat := fun j => rwN G k (nthN 128 (nmQ G k) (j : Int)).toNat 7
def rkN (G : Nat → Bool) (k : Nat) : Nat := if k = 0 then 0 else rkC (cntN 128 (nmQ G k)) (rkV G k) (cntN 128 (nmQ G k))
/-- with each set all that lie in it -/
def Cl (G : Nat → Bool) : Prop := ∀ s p, s < 128 → G s = true → s.testBit p = true → G (ndf s (2 ^ p)) = true
theorem popc7 {s : Nat} (h : s < 128) : popc s = cntN 7 (fun i => s.testBit i) := popc_cnt 7 s h
theorem al_b (G : Nat → Bool) (k s : Nat) (hk : k ≤ 8) (hs : s ≤ 128) : cntN s (alQ G k) ≤ 35 := by
  have h1 : cntN s (alQ G k) ≤ cntN 128 (alQ G k) := cntN_mono hs
  have h2 : cntN 128 (alQ G k) ≤ cntN 128 (fun t => cntN 7 (fun i => t.testBit i) + 1 == k) := by
    apply cntN_sub
    intro t ht hq
    unfold alQ at hq
    rw [Bool.and_eq_true, popc7 ht] at hq
    exact hq.2
  have h3 : ∀ k, k ≤ 8 → cntN 128 (fun t => cntN 7 (fun i => t.testBit i) + 1 == k) ≤ 35 := by decide +kernel
  have := h3 k hk
  omega
theorem rwN63 (G : Nat → Bool) (k s : Nat) (hk : k ≤ 8) (hs : s < 128) : ∀ p, rwN G k s p < 9223372036854775808 := by
  intro p
  induction p with
  | zero => exact (by decide : (0 : Nat) < 9223372036854775808)
  | succ p ih =>
    simp only [rwN]
    refine nb_or63 ih ?_
    split
    · exact nb_p263 (by have := al_b G k (ndf s (2 ^ p)) hk (by have := ndf_le s (2 ^ p); omega); omega)
    · decide
def rdN (G : Nat → Bool) (k : Nat) : Int := ((cntN 128 (fun s => G s && decide ((popc s : Int) = (k : Int))) : Nat) : Int) - ((rkN G k : Nat) : Int) - ((rkN G (k + 1) : Nat) : Int)
theorem rkN_le (G : Nat → Bool) (k : Nat) : rkN G k ≤ 128 := by
  unfold rkN
  split
  · omega
  · exact Nat.le_trans (rkC_le _ _ _) (cntN_le _ _)
theorem rdNR (G : Nat → Bool) (k : Nat) : -2147483648 ≤ rdN G k ∧ rdN G k < 2147483648 := by
  unfold rdN
  have h1 := rkN_le G k
  have h2 := rkN_le G (k + 1)
  have h3 := cntN_le 128 (fun s => G s && decide ((popc s : Int) = (k : Int)))
  omega
theorem isF_cl (n : Nat) (F : Nat → Nat) : Cl (isF n F) := by
  intro s p _ hs _
  obtain ⟨k, h1, h2⟩ := anyN_iff.mp hs
  refine anyN_iff.mpr ⟨k, h1, sbs_iff.mpr ?_⟩
  intro i hi
  rw [ndf_bit, Bool.and_eq_true] at hi
  exact sbs_iff.mp h2 i hi.1
set_option maxRecDepth 100000 in
set_option maxHeartbeats 4000000 in
theorem ev_X7_rankOf_L94 (G : Nat → Bool) (hcl : Cl G) (k : Nat) (hk : k ≤ 8) (M : jM) (hG : IA M G) (s : Nat) (hs : s < 128) (hg1 : G s = true) (hg2 : popc s = k) (K0 : ∀ (M3 : jM) (c1 : Ch [29, 30] M M3) (c2 : ∀ t : Nat, t < 128 → alQ G k t = true → M3 30 (t : Int) = ((cntN t (alQ G k) : Nat) : Int)) (c3 : ∀ j : Nat, j < cntN (s + 1) (nmQ G k) → M3 29 (j : Int) = ((rwN G k (nthN (s + 1) (nmQ G k) (j : Int)).toNat 7 : Nat) : Int)), J none 1 mX7_rankOf 146 [(33, 0), (0, ((k : Nat) : Int)), (9, 0), (0, (((cntN s (nmQ G k)) : Nat) : Int)), (0, ((s : Nat) : Int)), (9, 0)] [] M3 (j_ret mX7_rankOf (fun z M' => z = ((rkN G k : Nat) : Int) ∧ Ch [29, 30] M M'))) : ∀ (fu : Nat) (M2 : jM) (p : Nat) (g1 : Ch [29, 30] M M2) (g2 : ∀ t : Nat, t < 128 → alQ G k t = true → M2 30 (t : Int) = ((cntN t (alQ G k) : Nat) : Int)) (g3 : ∀ j : Nat, j < cntN s (nmQ G k) → M2 29 (j : Int) = ((rwN G k (nthN s (nmQ G k) (j : Int)).toNat 7 : Nat) : Int)) (g4 : M2 29 ((cntN s (nmQ G k) : Nat) : Int) = ((rwN G k s p : Nat) : Int)) (g5 : p ≤ 7) (hfu : 7 - p < fu), J none 1 mX7_rankOf 94 [(33, 0), (0, ((k : Nat) : Int)), (9, 0), (0, (((cntN s (nmQ G k)) : Nat) : Int)), (0, ((s : Nat) : Int)), (0, ((p : Nat) : Int))] [] M2 (j_ret mX7_rankOf (fun z M' => z = ((rkN G k : Nat) : Int) ∧ Ch [29, 30] M M')) := by
  intro fu
  induction fu with
  | zero => intro M2 p g1 g2 g3 g4 g5 hfu; exact absurd hfu (Nat.not_lt_zero _)
  | succ fu ih =>
    intro M2 p g1 g2 g3 g4 g5 hfu
    refine J_iload dX7_rankOf_94 rfl ?_
    refine J_bipush dX7_rankOf_96 (by decide) ?_
    refine J_icmp_ge (tgt := 146) dX7_rankOf_98 rfl (j_R (by omega)) (by decide) (fun h98 => ?_) (fun h98 => ?_)
    ·
      refine J_unset 5 (L' := [(33, 0), (0, ((k : Nat) : Int)), (9, 0), (0, (((cntN s (nmQ G k)) : Nat) : Int)), (0, ((s : Nat) : Int)), (9, 0)]) rfl ?_
      exact K0 _ (by exact g1) (by exact g2) (by have hh : nmQ G k s = true := (by simp [nmQ, hg1, hg2]); intro j hj; rw [cntN_t hh] at hj; by_cases e : j = cntN s (nmQ G k); rw [e, g4, nthN_hit hh rfl (by omega), show p = 7 by omega]; rfl; rw [g3 j (by omega), nthN_stay (m := s) (n := s + 1) (by have := nthN_ge (p := nmQ G k) (n := s) (i := j) (by omega); omega) (by omega)])
    ·
      refine J_aload_n dX7_rankOf_101 rfl ?_
      refine J_getR dX7_rankOf_102 flX7_30 rfl rfl ?_
      refine J_iload_n dX7_rankOf_105 rfl ?_
      refine J_dup2 dX7_rankOf_106 rfl rfl ?_
      refine J_lald dX7_rankOf_107 rfl (by decide) (by have := cntN_le s (nmQ G k); omega) (J_top (v := (((rwN G k s p) : Nat) : Int)) g4 ?_)
      refine J_iload dX7_rankOf_108 rfl ?_
      refine J_iload dX7_rankOf_110 rfl ?_
      refine J_callSiQ (cl := mX7_has) [(0, ((s : Nat) : Int)), (0, ((p : Nat) : Int))] [(1, (((rwN G k s p) : Nat) : Int)), (0, (((cntN s (nmQ G k)) : Nat) : Int)), (39, 0)] dX7_rankOf_112 mlX7_132 csX7_has rfl rfl (by decide) (Nat.le_of_ble_eq_true rfl) rfl (ev_X7_has s p (by omega) (by omega) M2) ?_
      refine J_ifb_eq (tgt := 137) dX7_rankOf_115 rfl (fun h115 => ?_) (fun h115 => ?_)
      ·
        refine J_lconst0 dX7_rankOf_137 ?_
        refine J_lor dX7_rankOf_138 (J_top (v := (((rwN G k s p) : Nat) : Int)) (j_lor0 rfl (rwN63 G k s hk hs p)) ?_)
        refine J_last dX7_rankOf_139 rfl (by decide) (by have := cntN_le s (nmQ G k); omega) ?_
        refine J_iinc (v := (((p + 1) : Nat) : Int)) (L' := [(33, 0), (0, ((k : Nat) : Int)), (9, 0), (0, (((cntN s (nmQ G k)) : Nat) : Int)), (0, ((s : Nat) : Int)), (0, (((p + 1) : Nat) : Int))]) dX7_rankOf_140 rfl (by omega) (by decide) rfl rfl ?_
        refine J_goto (tgt := 94) dX7_rankOf_143 rfl ?_
        exact ih _ _ (by exact Ch_up (by decide) g1) (by intro t ht hq; rw [j_up_ne (by decide)]; exact g2 t ht hq) (by intro j hj; rw [j_up_nz (by omega)]; exact g3 j hj) (by rw [j_up_eq]; simp only [rwN]; rw [h115]; simp) (by omega) (by omega)
      ·
        refine J_lconst1 dX7_rankOf_118 ?_
        refine J_aload_n dX7_rankOf_119 rfl ?_
        refine J_getR dX7_rankOf_120 flX7_34 rfl rfl ?_
        refine J_iload dX7_rankOf_123 rfl ?_
        refine J_iconst dX7_rankOf_125 ?_
        refine J_iload dX7_rankOf_126 rfl ?_
        refine J_ishl dX7_rankOf_128 (J_top (v := (((2 ^ p) : Nat) : Int)) (j_shl1 rfl rfl (by omega)) ?_)
        refine J_iconst dX7_rankOf_129 ?_
        refine J_ixor dX7_rankOf_130 (J_top (v := (-(((2 ^ p) : Nat) : Int) - 1)) (j_notN rfl (nb_p2 (by omega))) ?_)
        refine J_iand dX7_rankOf_131 (J_top (v := (((ndf s (2 ^ p)) : Nat) : Int)) (j_ndfN rfl rfl (by omega)) ?_)
        refine J_iald dX7_rankOf_132 rfl (by decide) (by have := ndf_le s (2 ^ p); omega) (J_top (v := (((cntN (ndf s (2 ^ p)) (alQ G k)) : Nat) : Int)) (g2 _ (by have := ndf_le s (2 ^ p); omega) (by unfold alQ; rw [hcl s p hs hg1 h115, Bool.true_and, popc_rem' h115, beq_iff_eq]; exact hg2)) ?_)
        refine J_lshl dX7_rankOf_133 (J_top (v := (((2 ^ (cntN (ndf s (2 ^ p)) (alQ G k))) : Nat) : Int)) (j_lshl1 rfl rfl (by have := al_b G k (ndf s (2 ^ p)) hk (by have := ndf_le s (2 ^ p); omega); omega)) ?_)
        refine J_goto (tgt := 138) dX7_rankOf_134 rfl ?_
        refine J_lor dX7_rankOf_138 (J_top (v := ((((rwN G k s p) ||| (2 ^ (cntN (ndf s (2 ^ p)) (alQ G k)))) : Nat) : Int)) (j_lorN rfl rfl (rwN63 G k s hk hs p) (nb_p263 (by have := al_b G k (ndf s (2 ^ p)) hk (by have := ndf_le s (2 ^ p); omega); omega))) ?_)
        refine J_last dX7_rankOf_139 rfl (by decide) (by have := cntN_le s (nmQ G k); omega) ?_
        refine J_iinc (v := (((p + 1) : Nat) : Int)) (L' := [(33, 0), (0, ((k : Nat) : Int)), (9, 0), (0, (((cntN s (nmQ G k)) : Nat) : Int)), (0, ((s : Nat) : Int)), (0, (((p + 1) : Nat) : Int))]) dX7_rankOf_140 rfl (by omega) (by decide) rfl rfl ?_
        refine J_goto (tgt := 94) dX7_rankOf_143 rfl ?_
        exact ih _ _ (by exact Ch_up (by decide) g1) (by intro t ht hq; rw [j_up_ne (by decide)]; exact g2 t ht hq) (by intro j hj; rw [j_up_nz (by omega)]; exact g3 j hj) (by rw [j_up_eq]; simp only [rwN]; rw [h115]; rfl) (by omega) (by omega)
set_option maxRecDepth 100000 in
set_option maxHeartbeats 4000000 in
theorem ev_X7_rankOf_L57 (G : Nat → Bool) (hcl : Cl G) (k : Nat) (hk : k ≤ 8) (M : jM) (hG : IA M G) (hk1 : ¬ k = 0) : ∀ (fu : Nat) (M1 : jM) (s : Nat) (f1 : Ch [29, 30] M M1) (f2 : ∀ t : Nat, t < 128 → alQ G k t = true → M1 30 (t : Int) = ((cntN t (alQ G k) : Nat) : Int)) (f5 : ∀ j : Nat, j < cntN s (nmQ G k) → M1 29 (j : Int) = ((rwN G k (nthN s (nmQ G k) (j : Int)).toNat 7 : Nat) : Int)) (f3 : s ≤ 128) (hfu : 128 - s < fu), J none 1 mX7_rankOf 57 [(33, 0), (0, ((k : Nat) : Int)), (9, 0), (0, (((cntN s (nmQ G k)) : Nat) : Int)), (0, ((s : Nat) : Int)), (9, 0)] [] M1 (j_ret mX7_rankOf (fun z M' => z = ((rkN G k : Nat) : Int) ∧ Ch [29, 30] M M')) := by
  intro fu
  induction fu with
  | zero => intro M1 s f1 f2 f5 f3 hfu; exact absurd hfu (Nat.not_lt_zero _)
  | succ fu ih =>
    intro M1 s f1 f2 f5 f3 hfu
    refine J_iload dX7_rankOf_57 rfl ?_
    refine J_sipush dX7_rankOf_59 (by decide) ?_
    refine J_icmp_ge (tgt := 155) dX7_rankOf_62 rfl (j_R (by omega)) (by decide) (fun h62 => ?_) (fun h62 => ?_)
    ·
      refine J_eq (L' := [(33, 0), (0, ((k : Nat) : Int)), (9, 0), (0, (((cntN 128 (nmQ G k)) : Nat) : Int)), (0, ((s : Nat) : Int)), (9, 0)]) (by rw [show s = 128 by omega]) rfl rfl ?_
      refine J_aload_n dX7_rankOf_155 rfl ?_
      refine J_iload_n dX7_rankOf_156 rfl ?_
      refine J_callVi (cl := mX7_rankOfRows) [(0, (((cntN 128 (nmQ G k)) : Nat) : Int))] [] dX7_rankOf_157 mlX7_186 cvX7_rankOfRows rfl rfl rfl rfl rfl (by decide) (Nat.le_of_ble_eq_true rfl) rfl (ev_X7_rankOfRows (cntN 128 (nmQ G k)) (cntN_le _ _) (rkV G k) (fun q hq => rwN63 G k _ hk (by have := nthN_ge hq; omega) 7) M1 (fun j hj => by rw [show s = 128 by omega] at f5; exact f5 j hj)) (fun z157 M9 hq157 => ?_)
      obtain ⟨rfl, c9⟩ := hq157
      refine J_ireturn dX7_rankOf_160 rfl ?_
      exact ⟨by unfold rkN; rw [if_neg hk1], Ch_tr f1 (Ch_mo c9 (by decide))⟩
    ·
      refine J_aload_n dX7_rankOf_65 rfl ?_
      refine J_getR dX7_rankOf_66 flX7_26 rfl rfl ?_
      refine J_iload dX7_rankOf_69 rfl ?_
      refine J_bald dX7_rankOf_71 rfl (by decide) (by omega) (J_top (v := ((Bool.toNat (G s) : Nat) : Int)) ((ia_ch f1 (by decide) hG) s (by omega)) ?_)
      refine J_ifb_eq (tgt := 149) dX7_rankOf_72 rfl (fun h72 => ?_) (fun h72 => ?_)
      ·
        refine J_eq (L' := [(33, 0), (0, ((k : Nat) : Int)), (9, 0), (0, (((cntN (s + 1) (nmQ G k)) : Nat) : Int)), (0, ((s : Nat) : Int)), (9, 0)]) (by rw [cntN_f (k := s) (by simp [nmQ, h72])]) rfl rfl ?_
        refine J_iinc (v := (((s + 1) : Nat) : Int)) (L' := [(33, 0), (0, ((k : Nat) : Int)), (9, 0), (0, (((cntN (s + 1) (nmQ G k)) : Nat) : Int)), (0, (((s + 1) : Nat) : Int)), (9, 0)]) dX7_rankOf_149 rfl (by omega) (by decide) rfl rfl ?_
        refine J_goto (tgt := 57) dX7_rankOf_152 rfl ?_
        exact ih _ _ (by exact f1) (by exact f2) (by intro j hj; rw [cntN_f (k := s) (by simp [nmQ, h72])] at hj; rw [f5 j hj, nthN_stay (m := s) (n := s + 1) (by have := nthN_ge hj; omega) (by omega)]) (by omega) (by omega)
      ·
        refine J_iload dX7_rankOf_75 rfl ?_
        refine J_callSiQ (cl := mX7_many) [(0, ((s : Nat) : Int))] [] dX7_rankOf_77 mlX7_136 csX7_many rfl rfl (by decide) (Nat.le_of_ble_eq_true rfl) rfl (ev_X7_many s (by omega) M1) ?_
        refine J_iload_n dX7_rankOf_80 rfl ?_
        refine J_icmp_ne (tgt := 149) dX7_rankOf_81 rfl (j_R (popc_lt (by omega))) (j_R (by omega)) (fun h81 => ?_) (fun h81 => ?_)
        ·
          refine J_eq (L' := [(33, 0), (0, ((k : Nat) : Int)), (9, 0), (0, (((cntN (s + 1) (nmQ G k)) : Nat) : Int)), (0, ((s : Nat) : Int)), (9, 0)]) (by rw [cntN_f (k := s) (by simp [nmQ]; intro _; omega)]) rfl rfl ?_
          refine J_iinc (v := (((s + 1) : Nat) : Int)) (L' := [(33, 0), (0, ((k : Nat) : Int)), (9, 0), (0, (((cntN (s + 1) (nmQ G k)) : Nat) : Int)), (0, (((s + 1) : Nat) : Int)), (9, 0)]) dX7_rankOf_149 rfl (by omega) (by decide) rfl rfl ?_
          refine J_goto (tgt := 57) dX7_rankOf_152 rfl ?_
          exact ih _ _ (by exact f1) (by exact f2) (by intro j hj; rw [cntN_f (k := s) (by simp [nmQ]; intro _; omega)] at hj; rw [f5 j hj, nthN_stay (m := s) (n := s + 1) (by have := nthN_ge hj; omega) (by omega)]) (by omega) (by omega)
        ·
          refine J_aload_n dX7_rankOf_84 rfl ?_
          refine J_getR dX7_rankOf_85 flX7_30 rfl rfl ?_
          refine J_iload_n dX7_rankOf_88 rfl ?_
          refine J_lconst0 dX7_rankOf_89 ?_
          refine J_last dX7_rankOf_90 rfl (by decide) (by have := cntN_le s (nmQ G k); omega) ?_
          refine J_iconst dX7_rankOf_91 ?_
          refine J_istore (L' := [(33, 0), (0, ((k : Nat) : Int)), (9, 0), (0, (((cntN s (nmQ G k)) : Nat) : Int)), (0, ((s : Nat) : Int)), (0, 0)]) dX7_rankOf_92 (by decide) rfl rfl ?_
          refine J_eq (L' := [(33, 0), (0, ((k : Nat) : Int)), (9, 0), (0, (((cntN s (nmQ G k)) : Nat) : Int)), (0, ((s : Nat) : Int)), (0, ((0 : Nat) : Int))]) rfl rfl rfl ?_
          refine ev_X7_rankOf_L94 G hcl k hk M hG s (by omega) h72 (by omega) (fun M3 c1 c2 c3 => ?_) _ _ _ (by exact Ch_up (by decide) f1) (by intro t ht hq; rw [j_up_ne (by decide)]; exact f2 t ht hq) (by intro j hj; rw [j_up_nz (by omega)]; exact f5 j hj) (by rw [j_up_eq]; rfl) (by omega) (Nat.lt_succ_self _)
          ·
            refine J_iinc (v := (((cntN (s + 1) (nmQ G k)) : Nat) : Int)) (L' := [(33, 0), (0, ((k : Nat) : Int)), (9, 0), (0, (((cntN (s + 1) (nmQ G k)) : Nat) : Int)), (0, ((s : Nat) : Int)), (9, 0)]) dX7_rankOf_146 rfl (by rw [cntN_t (by simp [nmQ, h72]; omega)]; omega) (by decide) rfl rfl ?_
            refine J_iinc (v := (((s + 1) : Nat) : Int)) (L' := [(33, 0), (0, ((k : Nat) : Int)), (9, 0), (0, (((cntN (s + 1) (nmQ G k)) : Nat) : Int)), (0, (((s + 1) : Nat) : Int)), (9, 0)]) dX7_rankOf_149 rfl (by omega) (by decide) rfl rfl ?_
            refine J_goto (tgt := 57) dX7_rankOf_152 rfl ?_
            exact ih _ _ (by exact c1) (by exact c2) (by exact c3) (by omega) (by omega)
set_option maxRecDepth 100000 in
set_option maxHeartbeats 4000000 in
theorem ev_X7_rankOf_L10 (G : Nat → Bool) (hcl : Cl G) (k : Nat) (hk : k ≤ 8) (M : jM) (hG : IA M G) (hk1 : ¬ k = 0) : ∀ (fu : Nat) (M1 : jM) (s : Nat) (f1 : Ch [29, 30] M M1) (f2 : ∀ t : Nat, t < s → alQ G k t = true → M1 30 (t : Int) = ((cntN t (alQ G k) : Nat) : Int)) (f3 : s ≤ 128) (hfu : 128 - s < fu), J none 1 mX7_rankOf 10 [(33, 0), (0, ((k : Nat) : Int)), (0, (((cntN s (alQ G k)) : Nat) : Int)), (0, ((s : Nat) : Int)), (9, 0), (9, 0)] [] M1 (j_ret mX7_rankOf (fun z M' => z = ((rkN G k : Nat) : Int) ∧ Ch [29, 30] M M')) := by
  intro fu
  induction fu with
  | zero => intro M1 s f1 f2 f3 hfu; exact absurd hfu (Nat.not_lt_zero _)
  | succ fu ih =>
    intro M1 s f1 f2 f3 hfu
    refine J_iload_n dX7_rankOf_10 rfl ?_
    refine J_sipush dX7_rankOf_11 (by decide) ?_
    refine J_icmp_ge (tgt := 52) dX7_rankOf_14 rfl (j_R (by omega)) (by decide) (fun h14 => ?_) (fun h14 => ?_)
    ·
      refine J_iconst dX7_rankOf_52 ?_
      refine J_istore_n (L' := [(33, 0), (0, ((k : Nat) : Int)), (0, (((cntN s (alQ G k)) : Nat) : Int)), (0, 0), (9, 0), (9, 0)]) dX7_rankOf_53 (by decide) rfl rfl ?_
      refine J_iconst dX7_rankOf_54 ?_
      refine J_istore (L' := [(33, 0), (0, ((k : Nat) : Int)), (0, (((cntN s (alQ G k)) : Nat) : Int)), (0, 0), (0, 0), (9, 0)]) dX7_rankOf_55 (by decide) rfl rfl ?_
      refine J_unset 2 (L' := [(33, 0), (0, ((k : Nat) : Int)), (9, 0), (0, 0), (0, 0), (9, 0)]) rfl ?_
      refine J_eq (L' := [(33, 0), (0, ((k : Nat) : Int)), (9, 0), (0, ((0 : Nat) : Int)), (0, ((0 : Nat) : Int)), (9, 0)]) rfl rfl rfl ?_
      exact ev_X7_rankOf_L57 G hcl k hk M hG hk1 _ _ _ (by exact f1) (by rw [show s = 128 by omega] at f2; exact f2) (by intro j hj; simp [cntN] at hj) (by omega) (Nat.lt_succ_self _)
    ·
      refine J_aload_n dX7_rankOf_17 rfl ?_
      refine J_getR dX7_rankOf_18 flX7_26 rfl rfl ?_
      refine J_iload_n dX7_rankOf_21 rfl ?_
      refine J_bald dX7_rankOf_22 rfl (by decide) (by omega) (J_top (v := ((Bool.toNat (G s) : Nat) : Int)) ((ia_ch f1 (by decide) hG) s (by omega)) ?_)
      refine J_ifb_eq (tgt := 46) dX7_rankOf_23 rfl (fun h23 => ?_) (fun h23 => ?_)
      ·
        refine J_eq (L' := [(33, 0), (0, ((k : Nat) : Int)), (0, (((cntN (s + 1) (alQ G k)) : Nat) : Int)), (0, ((s : Nat) : Int)), (9, 0), (9, 0)]) (by rw [cntN_f (k := s) (by simp [alQ, h23])]) rfl rfl ?_
        refine J_iinc (v := (((s + 1) : Nat) : Int)) (L' := [(33, 0), (0, ((k : Nat) : Int)), (0, (((cntN (s + 1) (alQ G k)) : Nat) : Int)), (0, (((s + 1) : Nat) : Int)), (9, 0), (9, 0)]) dX7_rankOf_46 rfl (by omega) (by decide) rfl rfl ?_
        refine J_goto (tgt := 10) dX7_rankOf_49 rfl ?_
        exact ih _ _ (by exact f1) (by intro t ht hq; by_cases e : t = s; exfalso; rw [e] at hq; simp [alQ, h23] at hq; exact f2 t (by omega) hq) (by omega) (by omega)
      ·
        refine J_iload_n dX7_rankOf_26 rfl ?_
        refine J_callSiQ (cl := mX7_many) [(0, ((s : Nat) : Int))] [] dX7_rankOf_27 mlX7_136 csX7_many rfl rfl (by decide) (Nat.le_of_ble_eq_true rfl) rfl (ev_X7_many s (by omega) M1) ?_
        refine J_iload_n dX7_rankOf_30 rfl ?_
        refine J_iconst dX7_rankOf_31 ?_
        refine J_isub dX7_rankOf_32 ?_
        refine J_icmp_ne (tgt := 46) dX7_rankOf_33 rfl (j_R (popc_lt (by omega))) (by omega) (fun h33 => ?_) (fun h33 => ?_)
        ·
          refine J_eq (L' := [(33, 0), (0, ((k : Nat) : Int)), (0, (((cntN (s + 1) (alQ G k)) : Nat) : Int)), (0, ((s : Nat) : Int)), (9, 0), (9, 0)]) (by rw [cntN_f (k := s) (by simp [alQ]; intro _; omega)]) rfl rfl ?_
          refine J_iinc (v := (((s + 1) : Nat) : Int)) (L' := [(33, 0), (0, ((k : Nat) : Int)), (0, (((cntN (s + 1) (alQ G k)) : Nat) : Int)), (0, (((s + 1) : Nat) : Int)), (9, 0), (9, 0)]) dX7_rankOf_46 rfl (by omega) (by decide) rfl rfl ?_
          refine J_goto (tgt := 10) dX7_rankOf_49 rfl ?_
          exact ih _ _ (by exact f1) (by intro t ht hq; by_cases e : t = s; exfalso; rw [e] at hq; simp [alQ] at hq; omega; exact f2 t (by omega) hq) (by omega) (by omega)
        ·
          refine J_aload_n dX7_rankOf_36 rfl ?_
          refine J_getR dX7_rankOf_37 flX7_34 rfl rfl ?_
          refine J_iload_n dX7_rankOf_40 rfl ?_
          refine J_iload_n dX7_rankOf_41 rfl ?_
          refine J_iast dX7_rankOf_42 rfl (by decide) (by omega) ?_
          refine J_iinc (v := (((cntN (s + 1) (alQ G k)) : Nat) : Int)) (L' := [(33, 0), (0, ((k : Nat) : Int)), (0, (((cntN (s + 1) (alQ G k)) : Nat) : Int)), (0, ((s : Nat) : Int)), (9, 0), (9, 0)]) dX7_rankOf_43 rfl (by rw [cntN_t (by simp [alQ, h23]; omega)]; omega) (by decide) rfl rfl ?_
          refine J_iinc (v := (((s + 1) : Nat) : Int)) (L' := [(33, 0), (0, ((k : Nat) : Int)), (0, (((cntN (s + 1) (alQ G k)) : Nat) : Int)), (0, (((s + 1) : Nat) : Int)), (9, 0), (9, 0)]) dX7_rankOf_46 rfl (by omega) (by decide) rfl rfl ?_
          refine J_goto (tgt := 10) dX7_rankOf_49 rfl ?_
          exact ih _ _ (by exact Ch_up (by decide) f1) (by intro t ht hq; by_cases e : t = s; rw [e, j_up_eq]; rw [j_up_nz (by omega)]; exact f2 t (by omega) hq) (by omega) (by omega)
set_option maxRecDepth 100000 in
set_option maxHeartbeats 4000000 in
theorem ev_X7_rankOf (G : Nat → Bool) (hcl : Cl G) (k : Nat) (hk : k ≤ 8) (M : jM) (hG : IA M G) : Ev 1 mX7_rankOf [(33, 0), (0, ((k : Nat) : Int))] M (fun z M' => z = ((rkN G k : Nat) : Int) ∧ Ch [29, 30] M M') := by
  refine Ev_of (by decide +kernel) (Nat.le_of_ble_eq_true rfl) (L := [(33, 0), (0, ((k : Nat) : Int)), (9, 0), (9, 0), (9, 0), (9, 0)]) rfl ?_
  refine J_iload_n dX7_rankOf_0 rfl ?_
  refine J_if_ne (tgt := 6) dX7_rankOf_1 rfl (j_R (by omega)) (fun h1 => ?_) (fun h1 => ?_)
  ·
    refine J_iconst dX7_rankOf_6 ?_
    refine J_istore_n (L' := [(33, 0), (0, ((k : Nat) : Int)), (0, 0), (9, 0), (9, 0), (9, 0)]) dX7_rankOf_7 (by decide) rfl rfl ?_
    refine J_iconst dX7_rankOf_8 ?_
    refine J_istore_n (L' := [(33, 0), (0, ((k : Nat) : Int)), (0, 0), (0, 0), (9, 0), (9, 0)]) dX7_rankOf_9 (by decide) rfl rfl ?_
    refine J_eq (L' := [(33, 0), (0, ((k : Nat) : Int)), (0, ((0 : Nat) : Int)), (0, ((0 : Nat) : Int)), (9, 0), (9, 0)]) rfl rfl rfl ?_
    exact ev_X7_rankOf_L10 G hcl k hk M hG (by omega) _ _ _ (by exact Ch_rf) (by intro t ht; omega) (by omega) (Nat.lt_succ_self _)
  ·
    refine J_iconst dX7_rankOf_4 ?_
    refine J_ireturn dX7_rankOf_5 rfl ?_
    have : k = 0 := by omega
    subst this
    exact ⟨rfl, Ch_rf⟩
