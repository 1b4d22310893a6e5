/-! shedding: words of bits -/
def wb (z : Int) (b : Nat) : Bool := (Int32.ofInt z).toBitVec.getLsbD b
theorem wb_0 (b : Nat) : wb 0 b = false := by
  unfold wb
  rw [show (Int32.ofInt 0).toBitVec = BitVec.ofNat 32 0 by decide, BitVec.getLsbD_ofNat, Nat.zero_testBit, Bool.and_false]
theorem wb_or (z w : Int) (b : Nat) : wb (j_or z w) b = (wb z b || wb w b) := by
  unfold wb j_or
  rw [Int32.ofInt_toInt, Int32.toBitVec_or, BitVec.getLsbD_or]
theorem wb_p2 {b i : Nat} (hb : b < 32) (hi : i < 32) : wb (j_shl 1 ((b : Nat) : Int)) i = decide (b = i) := by
  have h : ∀ b, b < 32 → ∀ i, i < 32 → wb (j_shl 1 ((b : Nat) : Int)) i = decide (b = i) := by decide +kernel
  exact h b hb i hi
theorem wb_and {z w : Int} : j_and z w = 0 ↔ ∀ i, i < 32 → (wb z i && wb w i) = false := by
  unfold j_and wb
  constructor
  · intro h i hi
    have h1 : Int32.ofInt z &&& Int32.ofInt w = 0 := by
      apply Int32.toInt_inj.mp
      rw [h]
      rfl
    have h2 : (Int32.ofInt z &&& Int32.ofInt w).toBitVec.getLsbD i = false := by
      rw [h1, show (0 : Int32).toBitVec = BitVec.ofNat 32 0 by decide, BitVec.getLsbD_ofNat, Nat.zero_testBit, Bool.and_false]
    rw [Int32.toBitVec_and, BitVec.getLsbD_and] at h2
    exact h2
  · intro h
    have h1 : Int32.ofInt z &&& Int32.ofInt w = 0 := by
      apply Int32.toBitVec_inj.mp
      apply BitVec.eq_of_getLsbD_eq
      intro i hi
      rw [Int32.toBitVec_and, BitVec.getLsbD_and, h i hi, show (0 : Int32).toBitVec = BitVec.ofNat 32 0 by decide, BitVec.getLsbD_ofNat, Nat.zero_testBit, Bool.and_false]
    rw [h1]
    rfl
theorem wb_z {z : Int} {b : Nat} (hb : b < 32) (h : j_and z (j_shl 1 ((b : Nat) : Int)) = 0) : wb z b = false := by
  have := wb_and.mp h b hb
  rw [wb_p2 hb hb, decide_eq_true rfl, Bool.and_true] at this
  exact this
theorem wb_n {z : Int} {b : Nat} (hb : b < 32) (h : ¬ j_and z (j_shl 1 ((b : Nat) : Int)) = 0) : wb z b = true := by
  cases e : wb z b
  · exfalso
    apply h
    rw [wb_and]
    intro i hi
    rw [wb_p2 hb hi]
    by_cases e2 : b = i
    · subst e2; rw [e]; rfl
    · rw [decide_eq_false e2, Bool.and_false]
  · rfl
theorem j_andR (a b : Int) : -2147483648 ≤ j_and a b ∧ j_and a b < 2147483648 := by
  unfold j_and
  have h1 := Int32.le_toInt (Int32.ofInt a &&& Int32.ofInt b)
  have h2 := Int32.toInt_lt (Int32.ofInt a &&& Int32.ofInt b)
  omega
theorem b31 (s : Nat) : s &&& 31 < 32 := by
  have : s &&& 31 ≤ 31 := Nat.and_le_right
  omega
theorem wd_inj {s t : Nat} (h1 : s >>> 5 = t >>> 5) (h2 : s &&& 31 = t &&& 31) : s = t := by
  rw [Nat.shiftRight_eq_div_pow, Nat.shiftRight_eq_div_pow] at h1
  rw [show (31 : Nat) = 2 ^ 5 - 1 by decide, Nat.and_two_pow_sub_one_eq_mod, Nat.and_two_pow_sub_one_eq_mod] at h2
  omega
def bitB (c : Nat) (M : jM) (s : Nat) : Bool := wb (M c (((s >>> 5) : Nat) : Int)) (s &&& 31)
theorem bit_up {c : Nat} {M : jM} {s t : Nat} : bitB c (j_up M c (((s >>> 5) : Nat) : Int) (j_or (M c (((s >>> 5) : Nat) : Int)) (j_shl 1 (((s &&& 31) : Nat) : Int)))) t = (bitB c M t || decide (s = t)) := by
  unfold bitB
  by_cases e : t >>> 5 = s >>> 5
  · rw [e, j_up_eq, wb_or, wb_p2 (b31 s) (b31 t)]
    congr 1
    apply beqB
    rw [decide_eq_true_eq, decide_eq_true_eq]
    exact ⟨fun q => wd_inj e.symm q, fun q => by rw [q]⟩
  · rw [j_up_nz (by omega), decide_eq_false (fun q => e (by rw [q])), Bool.or_false]
theorem bit_ch {c c' : Nat} {M : jM} {z v : Int} {t : Nat} (h : c' ≠ c) : bitB c' (j_up M c z v) t = bitB c' M t := by
  unfold bitB
  rw [j_up_ne h]
/-! .. and what falls apart -/
def cfB (P n : Nat) (F : Nat → Nat) : Nat → Nat → Bool
  | 0, s => popc s == 1
  | f + 1, s => popc s == 1 || anyN P (fun p => clB n F s p && (cfB P n F f (s &&& hvg n F p) && cfB P n F f (ndf s (hvg n F p))))
theorem cl_some {n s p : Nat} {F : Nat → Nat} (h : clB n F s p = true) : ¬ s &&& hvg n F p = 0 ∧ ¬ ndf s (hvg n F p) = 0 := by
  unfold clB at h
  rw [Bool.and_eq_true, Bool.and_eq_true, decide_eq_true_eq, decide_eq_true_eq] at h
  exact h.1
theorem cl_pop {n s p : Nat} {F : Nat → Nat} (h : clB n F s p = true) : popc (s &&& hvg n F p) < popc s ∧ popc (ndf s (hvg n F p)) < popc s := by
  obtain ⟨h1, h2⟩ := cl_some h
  have h3 := popc_and_ndf s (hvg n F p)
  have h4 := popc_pos h1
  have h5 := popc_pos h2
  omega
theorem cf_st {P n : Nat} {F : Nat → Nat} : ∀ f s, popc s ≤ f → cfB P n F f s = cfB P n F (f + 1) s := by
  intro f
  induction f with
  | zero =>
    intro s hs
    have h0 : s = 0 := popc_z.mp (by omega)
    subst h0
    rw [show cfB P n F (0 + 1) 0 = (popc 0 == 1 || anyN P (fun p => clB n F 0 p && (cfB P n F 0 (0 &&& hvg n F p) && cfB P n F 0 (ndf 0 (hvg n F p))))) from rfl]
    rw [anyN_false.mpr, Bool.or_false]
    · rfl
    · intro p _
      cases e : clB n F 0 p
      · rfl
      · have := (cl_some e).1
        rw [Nat.zero_and] at this
        exact absurd rfl this
  | succ f ih =>
    intro s hs
    rw [show cfB P n F (f + 1) s = (popc s == 1 || anyN P (fun p => clB n F s p && (cfB P n F f (s &&& hvg n F p) && cfB P n F f (ndf s (hvg n F p))))) from rfl, show cfB P n F (f + 1 + 1) s = (popc s == 1 || anyN P (fun p => clB n F s p && (cfB P n F (f + 1) (s &&& hvg n F p) && cfB P n F (f + 1) (ndf s (hvg n F p))))) from rfl]
    congr 1
    refine anyN_congr (fun p _ => ?_)
    cases e : clB n F s p
    · rfl
    · have := cl_pop e
      rw [ih _ (by omega), ih _ (by omega)]
def vF (P n : Nat) (F : Nat → Nat) (s : Nat) : Bool := cfB P n F 12 s
def vQ (P n : Nat) (F : Nat → Nat) (s p : Nat) : Bool := clB n F s p && (vF P n F (s &&& hvg n F p) && vF P n F (ndf s (hvg n F p)))
theorem cf_un {P n f s : Nat} {F : Nat → Nat} : cfB P n F (f + 1) s = (popc s == 1 || anyN P (fun p => clB n F s p && (cfB P n F f (s &&& hvg n F p) && cfB P n F f (ndf s (hvg n F p))))) := rfl
theorem vF_eq {P n : Nat} {F : Nat → Nat} {s : Nat} (hs : popc s ≤ 12) : vF P n F s = (popc s == 1 || anyN P (vQ P n F s)) := by
  unfold vF
  rw [cf_st 12 s hs, cf_un]
  rfl
theorem fl_cf {P n : Nat} {F : Nat → Nat} : ∀ f s g, s < 2 ^ n → (∀ k, s.testBit k = true → sbs g (F k) = true) → flB P n F f s g = cfB P n F f s := by
  intro f
  induction f with
  | zero => intro s g _ _; rfl
  | succ f ih =>
    intro s g hs hg
    rw [show flB P n F (f + 1) s g = (popc s == 1 || anyN P (fun p => csB n F s g p && (flB P n F f (ndf s (wpN n F s p)) g && flB P n F f (wpN n F s p) (g ||| 2 ^ p)))) from rfl]
    rw [show cfB P n F (f + 1) s = (popc s == 1 || anyN P (fun p => clB n F s p && (cfB P n F f (s &&& hvg n F p) && cfB P n F f (ndf s (hvg n F p))))) from rfl]
    congr 1
    refine anyN_congr (fun p _ => ?_)
    rw [clB_eq hs hg, wh_bit hs, wo_bit hs]
    have h1 : ∀ k, (ndf s (wpN n F s p)).testBit k = true → sbs g (F k) = true := by
      intro k hk
      rw [ndf_bit, Bool.and_eq_true] at hk
      exact hg k hk.1
    have h2 : ∀ k, (wpN n F s p).testBit k = true → sbs (g ||| 2 ^ p) (F k) = true := by
      intro k hk
      rw [wpN_bit] at hk
      simp only [Bool.and_eq_true, decide_eq_true_eq] at hk
      exact sub_ins (hg k hk.2.1) hk.2.2
    have hw2 : wpN n F s p < 2 ^ n := mskN_lt _ _
    rw [ih _ _ (nb_ndf hs) h1, ih _ _ hw2 h2, Bool.and_comm (cfB P n F f (ndf s (wpN n F s p)))]
theorem fa_eq (P n : Nat) (F : Nat → Nat) : flB P n F 12 (2 ^ n - 1) 0 = vF P n F (2 ^ n - 1) := fl_cf 12 _ 0 (by have := Nat.two_pow_pos n; omega) (fun k _ => sbs_iff.mpr (fun i hi => by rw [Nat.zero_testBit] at hi; exact absurd hi (by decide)))
theorem fs_gen {P n f : Nat} {F : Nat → Nat} (hn : n ≤ f + 1) (p : Nat) : (csB n F (2 ^ n - 1) 0 p && (flB P n F f (ndf (2 ^ n - 1) (wpN n F (2 ^ n - 1) p)) 0 && flB P n F f (wpN n F (2 ^ n - 1) p) (0 ||| 2 ^ p))) = (clB n F (2 ^ n - 1) p && (cfB P n F (f + 1) ((2 ^ n - 1) &&& hvg n F p) && cfB P n F (f + 1) (ndf (2 ^ n - 1) (hvg n F p)))) := by
  have hp := Nat.two_pow_pos n
  have hs : 2 ^ n - 1 < 2 ^ n := by omega
  have hg : ∀ k, (2 ^ n - 1).testBit k = true → sbs 0 (F k) = true := fun k _ => sbs_iff.mpr (fun i hi => by rw [Nat.zero_testBit] at hi; exact absurd hi (by decide))
  rw [← clB_eq hs hg]
  cases e : clB n F (2 ^ n - 1) p
  · rfl
  · have h1 := cl_pop e
    rw [popc_all] at h1
    rw [← cf_st f _ (by omega), ← cf_st f _ (by omega)]
    have h2 : ∀ k, (ndf (2 ^ n - 1) (wpN n F (2 ^ n - 1) p)).testBit k = true → sbs 0 (F k) = true := fun k _ => sbs_iff.mpr (fun i hi => by rw [Nat.zero_testBit] at hi; exact absurd hi (by decide))
    have h3 : ∀ k, (wpN n F (2 ^ n - 1) p).testBit k = true → sbs (0 ||| 2 ^ p) (F k) = true := by
      intro k hk
      rw [wpN_bit] at hk
      simp only [Bool.and_eq_true, decide_eq_true_eq] at hk
      rw [sbs_iff]
      intro i hi
      rw [ins_bit, Nat.zero_testBit, Bool.false_or, decide_eq_true_eq] at hi
      rw [← hi]
      exact hk.2.2
    have hw2 : wpN n F (2 ^ n - 1) p < 2 ^ n := mskN_lt _ _
    rw [fl_cf f _ _ (nb_ndf hs) h2, fl_cf f _ _ hw2 h3, wh_bit hs, wo_bit hs, Bool.and_comm (cfB P n F f (ndf (2 ^ n - 1) (wpN n F (2 ^ n - 1) p)))]
theorem fs_eq {P n : Nat} {F : Nat → Nat} (hn : n ≤ 12) (p : Nat) : fsQ P n F p = vQ P n F (2 ^ n - 1) p := by
  unfold fsQ vQ vF
  exact fs_gen (f := 11) hn p
/-- points that all or none of some facets have -/
def dec (n : Nat) (F : Nat → Nat) (s : Nat) : Nat := cntN 7 (fun p => !(decide (¬ s &&& hvg n F p = 0) && decide (¬ ndf s (hvg n F p) = 0)))
theorem dec_le (n : Nat) (F : Nat → Nat) (s : Nat) : dec n F s ≤ 7 := cntN_le _ _
theorem dec_up {n s x p : Nat} {F : Nat → Nat} (hp : p < 7) (hx : sbs x s = true) (h : clB n F s p = true) (hd : x &&& hvg n F p = 0 ∨ ndf x (hvg n F p) = 0) : dec n F s + 1 ≤ dec n F x := by
  have hs := cl_some h
  unfold dec
  refine cntN_lt (j := p) (fun q _ hq => ?_) hp ?_ ?_
  · rw [Bool.not_eq_true', Bool.and_eq_false_iff, decide_eq_false_iff_not, decide_eq_false_iff_not, Decidable.not_not, Decidable.not_not] at hq ⊢
    rcases hq with hq | hq
    · left
      rw [and_z] at hq ⊢
      exact fun i hi => hq i (sbs_iff.mp hx i hi)
    · right
      apply Classical.byContradiction
      intro w
      obtain ⟨j, j1, j2⟩ := ndf_ne.mp w
      exact (ndf_ne.mpr ⟨j, sbs_iff.mp hx j j1, j2⟩) hq
  · rw [decide_eq_true hs.1, decide_eq_true hs.2]
    rfl
  · rw [Bool.not_eq_true', Bool.and_eq_false_iff, decide_eq_false_iff_not, decide_eq_false_iff_not, Decidable.not_not, Decidable.not_not]
    exact hd
theorem wh_z (s h : Nat) : ndf (s &&& h) h = 0 := by
  apply Nat.eq_of_testBit_eq
  intro i
  rw [ndf_bit, Nat.testBit_and, Nat.zero_testBit]
  cases s.testBit i <;> cases h.testBit i <;> rfl
theorem wo_z (s h : Nat) : ndf s h &&& h = 0 := by
  apply Nat.eq_of_testBit_eq
  intro i
  rw [Nat.testBit_and, ndf_bit, Nat.zero_testBit]
  cases s.testBit i <;> cases h.testBit i <;> rfl
theorem wh_s (s h : Nat) : sbs (s &&& h) s = true := sbs_iff.mpr (fun i hi => by rw [Nat.testBit_and, Bool.and_eq_true] at hi; exact hi.1)
theorem wo_s (s h : Nat) : sbs (ndf s h) s = true := sbs_iff.mpr (fun i hi => by rw [ndf_bit, Bool.and_eq_true] at hi; exact hi.1)
/-- what is kept of sets looked at: all of at most c facets -/
def MI (P n : Nat) (F : Nat → Nat) (c : Nat) (M : jM) : Prop := ∀ t, t < 2 ^ n → popc t ≤ c → (bitB 21 M t = true → bitB 22 M t = vF P n F t) ∧ (bitB 21 M t = false → bitB 22 M t = false)
def UC (n c : Nat) (M M' : jM) : Prop := ∀ t, t < 2 ^ n → c < popc t → bitB 21 M' t = bitB 21 M t ∧ bitB 22 M' t = bitB 22 M t
theorem mi_dn {P n c d : Nat} {F : Nat → Nat} {M : jM} (h : MI P n F c M) (hd : d ≤ c) : MI P n F d M := fun t ht hp => h t ht (by omega)
theorem uc_rf {n c : Nat} {M : jM} : UC n c M M := fun _ _ _ => ⟨rfl, rfl⟩
theorem uc_tr {n c : Nat} {M M1 M2 : jM} (h1 : UC n c M M1) (h2 : UC n c M1 M2) : UC n c M M2 := fun t ht hp => ⟨(h2 t ht hp).1.trans (h1 t ht hp).1, (h2 t ht hp).2.trans (h1 t ht hp).2⟩
theorem uc_up {n c d : Nat} {M M1 : jM} (h : UC n c M M1) (hd : c ≤ d) : UC n d M M1 := fun t ht hp => h t ht (by omega)
theorem mi_step {P n c x : Nat} {F : Nat → Nat} {M1 M2 : jM} (h : MI P n F c M1) (h2 : MI P n F x M2) (hu : UC n x M1 M2) : MI P n F c M2 := by
  intro t ht hp
  by_cases e : popc t ≤ x
  · exact h2 t ht e
  · obtain ⟨a1, a2⟩ := hu t ht (by omega)
    rw [a1, a2]
    exact h t ht hp
theorem fstP {P D n : Nat} {F O : Nat → Nat} {M : jM} (h : KR P D n F O M) (p : Nat → Bool) : -2147483648 ≤ fstN P p (-2) ∧ fstN P p (-2) < 2147483648 := by
  have := h.hP
  rcases fstN_rng (n := P) (p := p) (z := -2) with q | q <;> omega
theorem fst_neg {n : Nat} {p : Nat → Bool} : (0 ≤ fstN n p (-2)) ↔ anyN n p = true := by
  constructor
  · intro h
    cases e : anyN n p
    · rw [fstN_none e] at h; omega
    · rfl
  · intro h
    obtain ⟨k, k1, k2, k3, k4⟩ := fstN_get (z := -2) h
    rw [k3]
    omega
section MIS
variable {P n : Nat} {F : Nat → Nat} {s : Nat} {M M2 : jM}
theorem mi_mark (h : MI P n F (popc s) M) (h0 : 0 < popc s) : MI P n F (popc s - 1) (j_up M 21 (((s >>> 5) : Nat) : Int) (j_or (M 21 (((s >>> 5) : Nat) : Int)) (j_shl 1 (((s &&& 31) : Nat) : Int)))) := by
  intro t ht hp
  have hne : ¬ s = t := by intro e; rw [e] at h0 hp; omega
  rw [bit_up, bit_ch (by decide), decide_eq_false hne, Bool.or_false]
  exact h t ht (by omega)
theorem mi_done {v : Bool} {M3 : jM} (h : MI P n F (popc s) M) (hs : s < 2 ^ n) (h0 : 0 < popc s) (h2 : MI P n F (popc s - 1) M2) (hu : UC n (popc s - 1) (j_up M 21 (((s >>> 5) : Nat) : Int) (j_or (M 21 (((s >>> 5) : Nat) : Int)) (j_shl 1 (((s &&& 31) : Nat) : Int)))) M2) (e1 : ∀ t, bitB 21 M3 t = bitB 21 M2 t) (e2 : ∀ t, bitB 22 M3 t = (bitB 22 M2 t || (v && decide (s = t)))) (hn : bitB 21 M s = false) (hv : v = vF P n F s) : MI P n F (popc s) M3 ∧ UC n (popc s) M M3 ∧ bitB 22 M3 s = vF P n F s := by
  have hs2 := hu s hs (by omega)
  rw [bit_up, bit_ch (by decide), decide_eq_true rfl, Bool.or_true, (h s hs (Nat.le_refl _)).2 hn] at hs2
  have h3 : bitB 22 M3 s = vF P n F s := by
    rw [e2, hs2.2, decide_eq_true rfl, Bool.and_true, Bool.false_or, hv]
  refine ⟨?_, ?_, h3⟩
  · intro t ht hp
    by_cases e : s = t
    · subst e
      rw [e1, hs2.1, h3]
      exact ⟨fun _ => rfl, fun q => absurd q (by decide)⟩
    · rw [e1, e2, decide_eq_false e, Bool.and_false, Bool.or_false]
      by_cases c : popc t ≤ popc s - 1
      · exact h2 t ht c
      · have := hu t ht (by omega)
        rw [bit_up, bit_ch (by decide), decide_eq_false e, Bool.or_false] at this
        rw [this.1, this.2]
        exact h t ht hp
  · intro t ht hp
    have e : ¬ s = t := by intro e; rw [e] at hp; omega
    have := hu t ht (by omega)
    rw [bit_up, bit_ch (by decide), decide_eq_false e, Bool.or_false] at this
    rw [e1, e2, decide_eq_false e, Bool.and_false, Bool.or_false]
    exact this
end MIS
theorem s7 {s : Nat} (h : s < 4096) : s >>> 5 < 128 := by
  rw [Nat.shiftRight_eq_div_pow]
  omega
set_option maxRecDepth 100000 in
set_option maxHeartbeats 4000000 in
theorem ev_X4_leastPoint_L12 (P D n : Nat) (F O : Nat → Nat) (M : jM) (hR : KR P D n F O M) (f s dp : Nat) (hs : s < 2 ^ n) (hdp : dp ≤ dec n F s) (h0 : 0 < popc s) (hc : popc s ≤ f + 1) (hI : MI P n F (popc s - 1) M) (ihf : ∀ (M : jM) (s dp : Nat), KR P D n F O M → s < 2 ^ n → dp ≤ dec n F s → 0 < popc s → popc s ≤ f → MI P n F (popc s) M → Ev (2 * f + 3) mX4_falls [(30, 0), (14, 0), (0, ((s : Nat) : Int)), (0, ((dp : Nat) : Int))] M (fun z M' => z = ((Bool.toNat (vF P n F s) : Nat) : Int) ∧ MI P n F (popc s) M' ∧ UC n (popc s) M M' ∧ Ch [21, 22] M M'))  : ∀ (fu : Nat) (M1 : jM) (p : Nat) (f1 : Ch [21, 22] M M1) (f2 : MI P n F (popc s - 1) M1) (f3 : UC n (popc s - 1) M M1) (f4 : anyN p (vQ P n F s) = false) (f5 : p ≤ P) (hfu : P - p < fu), J none (2 * f + 4) mX4_leastPoint 12 [(30, 0), (14, 0), (0, ((s : Nat) : Int)), (0, ((dp : Nat) : Int)), (0, ((p : Nat) : Int))] [] M1 (j_ret mX4_leastPoint (fun z M' => z = fstN P (vQ P n F s) (-2) ∧ MI P n F (popc s - 1) M' ∧ UC n (popc s - 1) M M' ∧ Ch [21, 22] M M')) := by
  intro fu
  induction fu with
  | zero => intro M1 p f1 f2 f3 f4 f5 hfu; exact absurd hfu (Nat.not_lt_zero _)
  | succ fu ih =>
    intro M1 p f1 f2 f3 f4 f5 hfu
    have hn12 := KR.hn hR
    have hP7 := KR.hP hR
    have hD5 := KR.hD hR
    have h2P : 2 ^ P ≤ 128 := Nat.pow_le_pow_right (n := 2) (by decide) hP7
    have h2p := Nat.two_pow_pos P
    have hd7 := dec_le n F s
    refine J_iload dX4_leastPoint_12 rfl ?_
    refine J_aload_n dX4_leastPoint_14 rfl ?_
    refine J_getI dX4_leastPoint_15 flX4_32 rfl rfl (J_top (v := ((P : Nat) : Int)) (KR.gP (kr_ch f1 (by decide) hR)) ?_)
    refine J_icmp_ge (tgt := 82) dX4_leastPoint_18 rfl (j_R (by omega)) (j_R (by omega)) (fun h18 => ?_) (fun h18 => ?_)
    ·
      refine J_bipush dX4_leastPoint_82 (by decide) ?_
      refine J_ireturn dX4_leastPoint_84 rfl ?_
      have : p = P := by omega
      subst this
      exact ⟨by rw [fstN_none f4], f2, f3, f1⟩
    ·
      refine J_aload_n dX4_leastPoint_21 rfl ?_
      refine J_iload_n dX4_leastPoint_22 rfl ?_
      refine J_iload dX4_leastPoint_23 rfl ?_
      refine J_callViQ (cl := mX0_canLose) [(0, ((s : Nat) : Int)), (0, ((p : Nat) : Int))] [] dX4_leastPoint_25 mlX4_38 cvX0_canLose rfl rfl rfl rfl rfl (by omega) (Nat.le_of_ble_eq_true rfl) rfl (ev_X0_canLose P D n F O M1 (kr_ch f1 (by decide) hR) s p (p12 hn12 hs) (by omega)) ?_
      refine J_ifb_eq (tgt := 76) dX4_leastPoint_28 rfl (fun h28 => ?_) (fun h28 => ?_)
      ·
        refine J_iinc (v := (((p + 1) : Nat) : Int)) (L' := [(30, 0), (14, 0), (0, ((s : Nat) : Int)), (0, ((dp : Nat) : Int)), (0, (((p + 1) : Nat) : Int))]) dX4_leastPoint_76 rfl (by omega) (by decide) rfl rfl ?_
        refine J_goto (tgt := 12) dX4_leastPoint_79 rfl ?_
        exact ih _ _ (by exact f1) (by exact f2) (by exact f3) (by rw [anyN_f (by unfold vQ; rw [h28]; rfl), f4]) (by omega) (by omega)
      ·
        have hcl := cl_pop h28
        have hcs := cl_some h28
        have hp1 := popc_pos hcs.1
        have hp2 := popc_pos hcs.2
        have hd1 := dec_up (by omega) (wh_s s (hvg n F p)) h28 (Or.inr (wh_z s _))
        have hd2 := dec_up (by omega) (wo_s s (hvg n F p)) h28 (Or.inl (wo_z s _))
        refine J_aload_n dX4_leastPoint_31 rfl ?_
        refine J_aload_n dX4_leastPoint_32 rfl ?_
        refine J_iload_n dX4_leastPoint_33 rfl ?_
        refine J_aload_n dX4_leastPoint_34 rfl ?_
        refine J_getR dX4_leastPoint_35 flX4_42 rfl rfl ?_
        refine J_iload dX4_leastPoint_38 rfl ?_
        refine J_iald dX4_leastPoint_40 rfl (by decide) (by omega) (J_top (v := (((hvg n F p) : Nat) : Int)) (KR.gH (kr_ch f1 (by decide) hR) (by omega)) ?_)
        refine J_iand dX4_leastPoint_41 (J_top (v := (((s &&& (hvg n F p)) : Nat) : Int)) (j_andN rfl rfl (p12 hn12 hs) (hvg31 (KR.hn (kr_ch f1 (by decide) hR)) F _)) ?_)
        refine J_iload_n dX4_leastPoint_42 rfl ?_
        refine J_iconst dX4_leastPoint_43 ?_
        refine J_iadd dX4_leastPoint_44 (J_top (v := (((dp + 1) : Nat) : Int)) (by omega) ?_)
        refine J_callVi (cl := mX4_falls) [(14, 0), (0, (((s &&& (hvg n F p)) : Nat) : Int)), (0, (((dp + 1) : Nat) : Int))] [] dX4_leastPoint_45 mlX4_45 cvX4_falls rfl rfl rfl rfl rfl (by omega) (Nat.le_of_ble_eq_true rfl) rfl (ihf M1 (s &&& hvg n F p) (dp + 1) (kr_ch f1 (by decide) hR) (nb_and hs) (by omega) hp1 (by omega) (mi_dn f2 (by omega))) (fun z45 Ma hq45 => ?_)
        obtain ⟨rfl, a1, a2, a4⟩ := hq45
        refine J_ifb_eq (tgt := 76) dX4_leastPoint_48 rfl (fun h48 => ?_) (fun h48 => ?_)
        ·
          refine J_iinc (v := (((p + 1) : Nat) : Int)) (L' := [(30, 0), (14, 0), (0, ((s : Nat) : Int)), (0, ((dp : Nat) : Int)), (0, (((p + 1) : Nat) : Int))]) dX4_leastPoint_76 rfl (by omega) (by decide) rfl rfl ?_
          refine J_goto (tgt := 12) dX4_leastPoint_79 rfl ?_
          exact ih _ _ (by exact Ch_tr f1 a4) (by exact mi_step f2 a1 a2) (by exact uc_tr f3 (uc_up a2 (by omega))) (by rw [anyN_f (by unfold vQ; rw [h48, Bool.false_and, Bool.and_false]), f4]) (by omega) (by omega)
        ·
          refine J_aload_n dX4_leastPoint_51 rfl ?_
          refine J_aload_n dX4_leastPoint_52 rfl ?_
          refine J_iload_n dX4_leastPoint_53 rfl ?_
          refine J_aload_n dX4_leastPoint_54 rfl ?_
          refine J_getR dX4_leastPoint_55 flX4_42 rfl rfl ?_
          refine J_iload dX4_leastPoint_58 rfl ?_
          refine J_iald dX4_leastPoint_60 rfl (by decide) (by omega) (J_top (v := (((hvg n F p) : Nat) : Int)) (KR.gH (kr_ch (Ch_tr f1 a4) (by decide) hR) (by omega)) ?_)
          refine J_iconst dX4_leastPoint_61 ?_
          refine J_ixor dX4_leastPoint_62 (J_top (v := (-(((hvg n F p) : Nat) : Int) - 1)) (j_notN rfl (hvg31 (KR.hn (kr_ch (Ch_tr f1 a4) (by decide) hR)) F _)) ?_)
          refine J_iand dX4_leastPoint_63 (J_top (v := (((ndf s (hvg n F p)) : Nat) : Int)) (j_ndfN rfl rfl (p12 hn12 hs)) ?_)
          refine J_iload_n dX4_leastPoint_64 rfl ?_
          refine J_iconst dX4_leastPoint_65 ?_
          refine J_iadd dX4_leastPoint_66 (J_top (v := (((dp + 1) : Nat) : Int)) (by omega) ?_)
          refine J_callVi (cl := mX4_falls) [(14, 0), (0, (((ndf s (hvg n F p)) : Nat) : Int)), (0, (((dp + 1) : Nat) : Int))] [] dX4_leastPoint_67 mlX4_45 cvX4_falls rfl rfl rfl rfl rfl (by omega) (Nat.le_of_ble_eq_true rfl) rfl (ihf Ma (ndf s (hvg n F p)) (dp + 1) (kr_ch (Ch_tr f1 a4) (by decide) hR) (nb_ndf hs) (by omega) hp2 (by omega) (mi_dn (mi_step f2 a1 a2) (by omega))) (fun z67 Mb hq67 => ?_)
          obtain ⟨rfl, b1, b2, b4⟩ := hq67
          refine J_ifb_eq (tgt := 76) dX4_leastPoint_70 rfl (fun h70 => ?_) (fun h70 => ?_)
          ·
            refine J_iinc (v := (((p + 1) : Nat) : Int)) (L' := [(30, 0), (14, 0), (0, ((s : Nat) : Int)), (0, ((dp : Nat) : Int)), (0, (((p + 1) : Nat) : Int))]) dX4_leastPoint_76 rfl (by omega) (by decide) rfl rfl ?_
            refine J_goto (tgt := 12) dX4_leastPoint_79 rfl ?_
            exact ih _ _ (by exact Ch_tr (Ch_tr f1 a4) b4) (by exact mi_step (mi_step f2 a1 a2) b1 b2) (by exact uc_tr (uc_tr f3 (uc_up a2 (by omega))) (uc_up b2 (by omega))) (by rw [anyN_f (by unfold vQ; rw [h70, Bool.and_false, Bool.and_false]), f4]) (by omega) (by omega)
          ·
            refine J_iload dX4_leastPoint_73 rfl ?_
            refine J_ireturn dX4_leastPoint_75 rfl ?_
            exact ⟨by rw [fstN_hit f4 (by unfold vQ; rw [h28, h48, h70]; rfl) (by omega)], mi_step (mi_step f2 a1 a2) b1 b2, uc_tr (uc_tr f3 (uc_up a2 (by omega))) (uc_up b2 (by omega)), Ch_tr (Ch_tr f1 a4) b4⟩
set_option maxRecDepth 100000 in
set_option maxHeartbeats 4000000 in
theorem ev_X4_leastPoint (P D n : Nat) (F O : Nat → Nat) (M : jM) (hR : KR P D n F O M) (f s dp : Nat) (hs : s < 2 ^ n) (hdp : dp ≤ dec n F s) (h0 : 0 < popc s) (hc : popc s ≤ f + 1) (hI : MI P n F (popc s - 1) M) (ihf : ∀ (M : jM) (s dp : Nat), KR P D n F O M → s < 2 ^ n → dp ≤ dec n F s → 0 < popc s → popc s ≤ f → MI P n F (popc s) M → Ev (2 * f + 3) mX4_falls [(30, 0), (14, 0), (0, ((s : Nat) : Int)), (0, ((dp : Nat) : Int))] M (fun z M' => z = ((Bool.toNat (vF P n F s) : Nat) : Int) ∧ MI P n F (popc s) M' ∧ UC n (popc s) M M' ∧ Ch [21, 22] M M')) : Ev (2 * f + 4) mX4_leastPoint [(30, 0), (14, 0), (0, ((s : Nat) : Int)), (0, ((dp : Nat) : Int))] M (fun z M' => z = fstN P (vQ P n F s) (-2) ∧ MI P n F (popc s - 1) M' ∧ UC n (popc s - 1) M M' ∧ Ch [21, 22] M M') := by
  refine Ev_of (by decide +kernel) (Nat.le_of_ble_eq_true rfl) (L := [(30, 0), (14, 0), (0, ((s : Nat) : Int)), (0, ((dp : Nat) : Int)), (9, 0)]) rfl ?_
  have hn12 := KR.hn hR
  have hP7 := KR.hP hR
  have hD5 := KR.hD hR
  have h2P : 2 ^ P ≤ 128 := Nat.pow_le_pow_right (n := 2) (by decide) hP7
  have h2p := Nat.two_pow_pos P
  have hd7 := dec_le n F s
  refine J_iload_n dX4_leastPoint_0 rfl ?_
  refine J_bipush dX4_leastPoint_1 (by decide) ?_
  refine J_icmp_le (tgt := 9) dX4_leastPoint_3 rfl (j_R (by have := dec_le n F s; omega)) (by decide) (fun h3 => ?_) (fun h3 => ?_)
  ·
    refine J_iconst dX4_leastPoint_9 ?_
    refine J_istore (L' := [(30, 0), (14, 0), (0, ((s : Nat) : Int)), (0, ((dp : Nat) : Int)), (0, 0)]) dX4_leastPoint_10 (by decide) rfl rfl ?_
    refine J_eq (L' := [(30, 0), (14, 0), (0, ((s : Nat) : Int)), (0, ((dp : Nat) : Int)), (0, ((0 : Nat) : Int))]) rfl rfl rfl ?_
    exact ev_X4_leastPoint_L12 P D n F O M hR f s dp hs hdp h0 hc hI ihf  _ _ _ (by exact Ch_rf) (by exact hI) (by exact uc_rf) (by rfl) (by omega) (Nat.lt_succ_self _)
  · omega
set_option maxRecDepth 100000 in
set_option maxHeartbeats 4000000 in
theorem ev_X4_falls0 (P D n : Nat) (F O : Nat → Nat) (M : jM) (hR : KR P D n F O M) (f s dp : Nat) (hs : s < 2 ^ n) (hdp : dp ≤ dec n F s) (h0 : 0 < popc s) (hI : MI P n F (popc s) M) (hl : ∀ M1 : jM, KR P D n F O M1 → MI P n F (popc s - 1) M1 → Ev (2 * f + 4) mX4_leastPoint [(30, 0), (14, 0), (0, ((s : Nat) : Int)), (0, ((dp : Nat) : Int))] M1 (fun z M' => z = fstN P (vQ P n F s) (-2) ∧ MI P n F (popc s - 1) M' ∧ UC n (popc s - 1) M1 M' ∧ Ch [21, 22] M1 M')) : Ev (2 * f + 5) mX4_falls [(30, 0), (14, 0), (0, ((s : Nat) : Int)), (0, ((dp : Nat) : Int))] M (fun z M' => z = ((Bool.toNat (vF P n F s) : Nat) : Int) ∧ MI P n F (popc s) M' ∧ UC n (popc s) M M' ∧ Ch [21, 22] M M') := by
  refine Ev_of (by decide +kernel) (Nat.le_of_ble_eq_true rfl) (L := [(30, 0), (14, 0), (0, ((s : Nat) : Int)), (0, ((dp : Nat) : Int)), (9, 0), (9, 0)]) rfl ?_
  have hn12 := KR.hn hR
  have hP7 := KR.hP hR
  have hD5 := KR.hD hR
  have h2P : 2 ^ P ≤ 128 := Nat.pow_le_pow_right (n := 2) (by decide) hP7
  have h2p := Nat.two_pow_pos P
  have hd7 := dec_le n F s
  refine J_iload_n dX4_falls_0 rfl ?_
  refine J_callSiQ (cl := mJ6_bitCount_0f7a4) [(0, ((s : Nat) : Int))] [] dX4_falls_1 mlX4_22 csJ6_bitCount_0f7a4 rfl rfl (by omega) (Nat.le_of_ble_eq_true rfl) rfl (ev_bitCount s (by have := p4096 hn12; omega) M) ?_
  refine J_iconst dX4_falls_4 ?_
  refine J_icmp_ne (tgt := 10) dX4_falls_5 rfl (j_R (popc_lt (p12 hn12 hs))) (by decide) (fun h5 => ?_) (fun h5 => ?_)
  ·
    refine J_iload_n dX4_falls_10 rfl ?_
    refine J_iconst dX4_falls_11 ?_
    refine J_ishr dX4_falls_12 (J_top (v := (((s >>> 5) : Nat) : Int)) (j_shrN rfl rfl (p12 hn12 hs) (by omega)) ?_)
    refine J_istore (L' := [(30, 0), (14, 0), (0, ((s : Nat) : Int)), (0, ((dp : Nat) : Int)), (0, (((s >>> 5) : Nat) : Int)), (9, 0)]) dX4_falls_13 (by decide) rfl rfl ?_
    refine J_iconst dX4_falls_15 ?_
    refine J_iload_n dX4_falls_16 rfl ?_
    refine J_bipush dX4_falls_17 (by decide) ?_
    refine J_iand dX4_falls_19 (J_top (v := (((s &&& 31) : Nat) : Int)) (j_andN rfl rfl (p12 hn12 hs) (by decide)) ?_)
    refine J_ishl dX4_falls_20 (J_top (v := (j_shl 1 (((s &&& 31) : Nat) : Int))) rfl ?_)
    refine J_istore (L' := [(30, 0), (14, 0), (0, ((s : Nat) : Int)), (0, ((dp : Nat) : Int)), (0, (((s >>> 5) : Nat) : Int)), (0, (j_shl 1 (((s &&& 31) : Nat) : Int)))]) dX4_falls_21 (by decide) rfl rfl ?_
    refine J_aload_n dX4_falls_23 rfl ?_
    refine J_getR dX4_falls_24 flX4_9 rfl rfl ?_
    refine J_iload dX4_falls_27 rfl ?_
    refine J_iald dX4_falls_29 rfl (by decide) (by have := s7 (s := s) (by have := p4096 hn12; omega); omega) ?_
    refine J_iload dX4_falls_30 rfl ?_
    refine J_iand dX4_falls_32 ?_
    refine J_if_ne (tgt := 70) dX4_falls_33 rfl (j_andR _ _) (fun h33 => ?_) (fun h33 => ?_)
    ·
      refine J_aload_n dX4_falls_70 rfl ?_
      refine J_getR dX4_falls_71 flX4_15 rfl rfl ?_
      refine J_iload dX4_falls_74 rfl ?_
      refine J_iald dX4_falls_76 rfl (by decide) (by have := s7 (s := s) (by have := p4096 hn12; omega); omega) ?_
      refine J_iload dX4_falls_77 rfl ?_
      refine J_iand dX4_falls_79 ?_
      refine J_if_eq (tgt := 87) dX4_falls_80 rfl (j_andR _ _) (fun h80 => ?_) (fun h80 => ?_)
      ·
        refine J_iconst dX4_falls_87 ?_
        refine J_zreturn dX4_falls_88 rfl (Or.inl rfl) ?_
        have hb := wb_n (b31 s) h33
        have e9 : bitB 22 M s = vF P n F s := (hI s hs (Nat.le_refl _)).1 hb
        refine ⟨bf ?_, hI, uc_rf, Ch_rf⟩
        rw [← e9]
        exact wb_z (b31 s) h80
      ·
        refine J_iconst dX4_falls_83 ?_
        refine J_goto (tgt := 88) dX4_falls_84 rfl ?_
        refine J_zreturn dX4_falls_88 rfl (Or.inr rfl) ?_
        have hb := wb_n (b31 s) h33
        have e9 : bitB 22 M s = vF P n F s := (hI s hs (Nat.le_refl _)).1 hb
        refine ⟨bt ?_, hI, uc_rf, Ch_rf⟩
        rw [← e9]
        exact wb_n (b31 s) h80
    ·
      refine J_aload_n dX4_falls_36 rfl ?_
      refine J_getR dX4_falls_37 flX4_9 rfl rfl ?_
      refine J_iload dX4_falls_40 rfl ?_
      refine J_dup2 dX4_falls_42 rfl rfl ?_
      refine J_iald dX4_falls_43 rfl (by decide) (by have := s7 (s := s) (by have := p4096 hn12; omega); omega) ?_
      refine J_iload dX4_falls_44 rfl ?_
      refine J_ior dX4_falls_46 ?_
      refine J_iast dX4_falls_47 rfl (by decide) (by have := s7 (s := s) (by have := p4096 hn12; omega); omega) ?_
      refine J_aload_n dX4_falls_48 rfl ?_
      refine J_aload_n dX4_falls_49 rfl ?_
      refine J_iload_n dX4_falls_50 rfl ?_
      refine J_iload_n dX4_falls_51 rfl ?_
      refine J_callVi (cl := mX4_leastPoint) [(14, 0), (0, ((s : Nat) : Int)), (0, ((dp : Nat) : Int))] [] dX4_falls_52 mlX4_28 cvX4_leastPoint rfl rfl rfl rfl rfl (by omega) (Nat.le_of_ble_eq_true rfl) rfl (hl (j_up M 21 (((s >>> 5) : Nat) : Int) (j_or (M 21 (((s >>> 5) : Nat) : Int)) (j_shl 1 (((s &&& 31) : Nat) : Int)))) (kr_up (by decide) hR) (mi_mark hI h0)) (fun z52 Ma hq52 => ?_)
      obtain ⟨rfl, a2, a3, a4⟩ := hq52
      refine J_if_lt (tgt := 70) dX4_falls_55 rfl (fstP hR _) (fun h55 => ?_) (fun h55 => ?_)
      ·
        refine J_aload_n dX4_falls_70 rfl ?_
        refine J_getR dX4_falls_71 flX4_15 rfl rfl ?_
        refine J_iload dX4_falls_74 rfl ?_
        refine J_iald dX4_falls_76 rfl (by decide) (by have := s7 (s := s) (by have := p4096 hn12; omega); omega) ?_
        refine J_iload dX4_falls_77 rfl ?_
        refine J_iand dX4_falls_79 ?_
        refine J_if_eq (tgt := 87) dX4_falls_80 rfl (j_andR _ _) (fun h80 => ?_) (fun h80 => ?_)
        ·
          refine J_iconst dX4_falls_87 ?_
          refine J_zreturn dX4_falls_88 rfl (Or.inl rfl) ?_
          have hb := wb_z (b31 s) h33
          have e6 : vF P n F s = anyN P (vQ P n F s) := by rw [vF_eq (by have := popc_le_of_lt hs; omega), beq_eq_false_iff_ne.mpr (by omega : ¬ popc s = 1)]; rfl
          have e5 : vF P n F s = false := by
            rw [e6]
            cases q : anyN P (vQ P n F s)
            · rfl
            · have := fst_neg.mpr q
              omega
          obtain ⟨m1, m2, m3⟩ := mi_done (v := false) (M3 := Ma) hI hs h0 a2 a3 (fun t => rfl) (fun t => by simp) hb e5.symm
          exact ⟨bf (by rw [← m3]; exact wb_z (b31 s) h80), m1, m2, Ch_tr (Ch_up (by decide) Ch_rf) a4⟩
        ·
          refine J_iconst dX4_falls_83 ?_
          refine J_goto (tgt := 88) dX4_falls_84 rfl ?_
          refine J_zreturn dX4_falls_88 rfl (Or.inr rfl) ?_
          have hb := wb_z (b31 s) h33
          have e6 : vF P n F s = anyN P (vQ P n F s) := by rw [vF_eq (by have := popc_le_of_lt hs; omega), beq_eq_false_iff_ne.mpr (by omega : ¬ popc s = 1)]; rfl
          have e5 : vF P n F s = false := by
            rw [e6]
            cases q : anyN P (vQ P n F s)
            · rfl
            · have := fst_neg.mpr q
              omega
          obtain ⟨m1, m2, m3⟩ := mi_done (v := false) (M3 := Ma) hI hs h0 a2 a3 (fun t => rfl) (fun t => by simp) hb e5.symm
          exact ⟨bt (by rw [← m3]; exact wb_n (b31 s) h80), m1, m2, Ch_tr (Ch_up (by decide) Ch_rf) a4⟩
      ·
        refine J_aload_n dX4_falls_58 rfl ?_
        refine J_getR dX4_falls_59 flX4_15 rfl rfl ?_
        refine J_iload dX4_falls_62 rfl ?_
        refine J_dup2 dX4_falls_64 rfl rfl ?_
        refine J_iald dX4_falls_65 rfl (by decide) (by have := s7 (s := s) (by have := p4096 hn12; omega); omega) ?_
        refine J_iload dX4_falls_66 rfl ?_
        refine J_ior dX4_falls_68 ?_
        refine J_iast dX4_falls_69 rfl (by decide) (by have := s7 (s := s) (by have := p4096 hn12; omega); omega) ?_
        refine J_aload_n dX4_falls_70 rfl ?_
        refine J_getR dX4_falls_71 flX4_15 rfl rfl ?_
        refine J_iload dX4_falls_74 rfl ?_
        refine J_iald dX4_falls_76 rfl (by decide) (by have := s7 (s := s) (by have := p4096 hn12; omega); omega) ?_
        refine J_iload dX4_falls_77 rfl ?_
        refine J_iand dX4_falls_79 ?_
        refine J_if_eq (tgt := 87) dX4_falls_80 rfl (j_andR _ _) (fun h80 => ?_) (fun h80 => ?_)
        ·
          refine J_iconst dX4_falls_87 ?_
          refine J_zreturn dX4_falls_88 rfl (Or.inl rfl) ?_
          have hb := wb_z (b31 s) h33
          have e6 : vF P n F s = anyN P (vQ P n F s) := by rw [vF_eq (by have := popc_le_of_lt hs; omega), beq_eq_false_iff_ne.mpr (by omega : ¬ popc s = 1)]; rfl
          have e5 : vF P n F s = true := by rw [e6]; exact fst_neg.mp (by omega)
          obtain ⟨m1, m2, m3⟩ := mi_done (v := true) (M3 := j_up Ma 22 (((s >>> 5) : Nat) : Int) (j_or (Ma 22 (((s >>> 5) : Nat) : Int)) (j_shl 1 (((s &&& 31) : Nat) : Int)))) hI hs h0 a2 a3 (fun t => bit_ch (by decide)) (fun t => by rw [bit_up, Bool.true_and]) hb e5.symm
          exact ⟨bf (by rw [← m3]; exact wb_z (b31 s) h80), m1, m2, Ch_up (by decide) (Ch_tr (Ch_up (by decide) Ch_rf) a4)⟩
        ·
          refine J_iconst dX4_falls_83 ?_
          refine J_goto (tgt := 88) dX4_falls_84 rfl ?_
          refine J_zreturn dX4_falls_88 rfl (Or.inr rfl) ?_
          have hb := wb_z (b31 s) h33
          have e6 : vF P n F s = anyN P (vQ P n F s) := by rw [vF_eq (by have := popc_le_of_lt hs; omega), beq_eq_false_iff_ne.mpr (by omega : ¬ popc s = 1)]; rfl
          have e5 : vF P n F s = true := by rw [e6]; exact fst_neg.mp (by omega)
          obtain ⟨m1, m2, m3⟩ := mi_done (v := true) (M3 := j_up Ma 22 (((s >>> 5) : Nat) : Int) (j_or (Ma 22 (((s >>> 5) : Nat) : Int)) (j_shl 1 (((s &&& 31) : Nat) : Int)))) hI hs h0 a2 a3 (fun t => bit_ch (by decide)) (fun t => by rw [bit_up, Bool.true_and]) hb e5.symm
          exact ⟨bt (by rw [← m3]; exact wb_n (b31 s) h80), m1, m2, Ch_up (by decide) (Ch_tr (Ch_up (by decide) Ch_rf) a4)⟩
  ·
    refine J_iconst dX4_falls_8 ?_
    refine J_zreturn dX4_falls_9 rfl (Or.inr rfl) ?_
    have e : popc s = 1 := by omega
    exact ⟨bt (by rw [vF_eq (by omega), beq_iff_eq.mpr e]; rfl), hI, uc_rf, Ch_rf⟩
theorem ev_X4_falls (P D n : Nat) (F O : Nat → Nat) : ∀ (f : Nat) (M : jM) (s dp : Nat), KR P D n F O M → s < 2 ^ n → dp ≤ dec n F s → 0 < popc s → popc s ≤ f → MI P n F (popc s) M → Ev (2 * f + 3) mX4_falls [(30, 0), (14, 0), (0, ((s : Nat) : Int)), (0, ((dp : Nat) : Int))] M (fun z M' => z = ((Bool.toNat (vF P n F s) : Nat) : Int) ∧ MI P n F (popc s) M' ∧ UC n (popc s) M M' ∧ Ch [21, 22] M M') := by
  intro f
  induction f with
  | zero => intro M s dp _ _ _ h1 h2; omega
  | succ f ihf =>
    intro M s dp hR hs hdp h0 hc hI
    exact ev_X4_falls0 P D n F O M hR f s dp hs hdp h0 hI (fun M1 hR1 hI1 => ev_X4_leastPoint P D n F O M1 hR1 f s dp hs hdp h0 hc hI1 ihf)
def SHD (P n : Nat) (F : Nat → Nat) (M : jM) : Prop := M 20 0 = 1 ∧ MI P n F 12 M
def SQ (P n : Nat) (F : Nat → Nat) (M : jM) : Prop := M 20 0 = 0 ∨ SHD P n F M
theorem mi_ch {P n c : Nat} {F : Nat → Nat} {M M' : jM} {ks : List Nat} (hc : Ch ks M M') (hk : 21 ∉ ks ∧ 22 ∉ ks) (h : MI P n F c M) : MI P n F c M' := by
  intro t ht hp
  unfold bitB
  rw [hc 21 hk.1, hc 22 hk.2]
  exact h t ht hp
theorem sq_ch {P n : Nat} {F : Nat → Nat} {M M' : jM} {ks : List Nat} (hc : Ch ks M M') (hk : 20 ∉ ks ∧ 21 ∉ ks ∧ 22 ∉ ks) (h : SQ P n F M) : SQ P n F M' := by
  rcases h with h | h
  · left
    rw [hc 20 hk.1]
    exact h
  · exact Or.inr ⟨by rw [hc 20 hk.1]; exact h.1, mi_ch hc hk.2 h.2⟩
theorem mi_top {P n : Nat} {F : Nat → Nat} {M : jM} (h : MI P n F n M) : MI P n F 12 M := fun t ht _ => h t ht (popc_le_of_lt ht)
set_option maxRecDepth 100000 in
set_option maxHeartbeats 4000000 in
theorem ev_X4_begin_L9 (P n : Nat) (hn12 : n ≤ 12) (F : Nat → Nat) (M : jM) (hQ : SQ P n F M)  : ∀ (fu : Nat) (M1 : jM) (i : Nat) (f1 : Ch [21, 22] M M1) (f2 : ∀ j : Nat, j < i → M1 21 (j : Int) = 0 ∧ M1 22 (j : Int) = 0) (f3 : i ≤ 128) (hfu : 128 - i < fu), J none 0 mX4_begin 9 [(30, 0), (0, ((i : Nat) : Int))] [] M1 (j_ret mX4_begin (fun z M' => SHD P n F M' ∧ Ch [20, 21, 22] M M')) := by
  intro fu
  induction fu with
  | zero => intro M1 i f1 f2 f3 hfu; exact absurd hfu (Nat.not_lt_zero _)
  | succ fu ih =>
    intro M1 i f1 f2 f3 hfu
    refine J_iload_n dX4_begin_9 rfl ?_
    refine J_aload_n dX4_begin_10 rfl ?_
    refine J_getR dX4_begin_11 flX4_9 rfl rfl ?_
    refine J_alen (nz := 128) dX4_begin_14 rfl rfl ?_
    refine J_icmp_ge (tgt := 38) dX4_begin_15 rfl (j_R (by omega)) (by decide) (fun h15 => ?_) (fun h15 => ?_)
    ·
      refine J_aload_n dX4_begin_38 rfl ?_
      refine J_iconst dX4_begin_39 ?_
      refine J_putI dX4_begin_40 flX4_18 rfl rfl (Or.inr ⟨rfl, Or.inr rfl⟩) ?_
      refine J_return dX4_begin_43 rfl ?_
      refine ⟨⟨j_up_eq, fun t ht _ => ?_⟩, Ch_up (by decide) (Ch_mo f1 (by decide))⟩
      have h7 := s7 (s := t) (by have := p4096 hn12; omega)
      have e1 : bitB 21 (j_up M1 20 0 1) t = false := by unfold bitB; rw [j_up_ne (by decide), (f2 _ (by omega)).1, wb_0]
      have e2 : bitB 22 (j_up M1 20 0 1) t = false := by unfold bitB; rw [j_up_ne (by decide), (f2 _ (by omega)).2, wb_0]
      rw [e1, e2]
      exact ⟨fun q => absurd q (by decide), fun _ => rfl⟩
    ·
      refine J_aload_n dX4_begin_18 rfl ?_
      refine J_getR dX4_begin_19 flX4_9 rfl rfl ?_
      refine J_iload_n dX4_begin_22 rfl ?_
      refine J_iconst dX4_begin_23 ?_
      refine J_iast dX4_begin_24 rfl (by decide) (by omega) ?_
      refine J_aload_n dX4_begin_25 rfl ?_
      refine J_getR dX4_begin_26 flX4_15 rfl rfl ?_
      refine J_iload_n dX4_begin_29 rfl ?_
      refine J_iconst dX4_begin_30 ?_
      refine J_iast dX4_begin_31 rfl (by decide) (by omega) ?_
      refine J_iinc (v := (((i + 1) : Nat) : Int)) (L' := [(30, 0), (0, (((i + 1) : Nat) : Int))]) dX4_begin_32 rfl (by omega) (by decide) rfl rfl ?_
      refine J_goto (tgt := 9) dX4_begin_35 rfl ?_
      exact ih _ _ (by exact Ch_up (by decide) (Ch_up (by decide) f1)) (by intro j hj; by_cases e : j = i; rw [e, j_up_ne (by decide), j_up_eq, j_up_eq]; exact ⟨rfl, rfl⟩; rw [j_up_ne (by decide), j_up_nz (by omega), j_up_nz (by omega), j_up_ne (by decide)]; exact f2 j (by omega)) (by omega) (by omega)
set_option maxRecDepth 100000 in
set_option maxHeartbeats 4000000 in
theorem ev_X4_begin (P n : Nat) (hn12 : n ≤ 12) (F : Nat → Nat) (M : jM) (hQ : SQ P n F M) : Ev 0 mX4_begin [(30, 0)] M (fun z M' => SHD P n F M' ∧ Ch [20, 21, 22] M M') := by
  refine Ev_of (by decide +kernel) (Nat.le_of_ble_eq_true rfl) (L := [(30, 0), (9, 0)]) rfl ?_
  refine J_aload_n dX4_begin_0 rfl ?_
  refine J_getI dX4_begin_1 flX4_18 rfl rfl ?_
  refine J_if_ne (tgt := 43) dX4_begin_4 rfl (by rcases hQ with e | e; omega; have := e.1; omega) (fun h4 => ?_) (fun h4 => ?_)
  ·
    refine J_return dX4_begin_43 rfl ?_
    rcases hQ with e | e
    · exact absurd e h4
    · exact ⟨e, Ch_rf⟩
  ·
    refine J_iconst dX4_begin_7 ?_
    refine J_istore_n (L' := [(30, 0), (0, 0)]) dX4_begin_8 (by decide) rfl rfl ?_
    refine J_eq (L' := [(30, 0), (0, ((0 : Nat) : Int))]) rfl rfl rfl ?_
    exact ev_X4_begin_L9 P n hn12 F M hQ  _ _ _ (by exact Ch_rf) (by intro j hj; omega) (by omega) (Nat.lt_succ_self _)
