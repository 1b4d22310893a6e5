theorem j_lushrN {a b : Int} {x p : Nat} (ha : a = (x : Int)) (hb : b = (p : Int)) (hx : x < 9223372036854775808) (hp : p < 63) : j_lushr a b = ((x >>> p : Nat) : Int) := by
  subst ha; subst hb
  unfold j_lushr
  have h1 : (Int64.ofInt (x : Int)).toUInt64 = UInt64.ofNat x := by
    apply UInt64.toBitVec_inj.mp
    show (Int64.ofInt (x : Int)).toBitVec = (UInt64.ofNat x).toBitVec
    rw [j_bvl]
    rfl
  have h0 : (Int32.ofInt (p : Int)).toInt64 = Int64.ofInt (p : Int) := by
    apply Int64.toInt_inj.mp
    rw [Int32.toInt_toInt64, Int32.toInt_ofInt_of_le (by omega) (by omega), Int64.toInt_ofInt_of_le (by omega) (by omega)]
  have h2 : (Int32.ofInt (p : Int)).toInt64.toUInt64 = UInt64.ofNat p := by
    rw [h0]
    apply UInt64.toBitVec_inj.mp
    show (Int64.ofInt (p : Int)).toBitVec = (UInt64.ofNat p).toBitVec
    rw [j_bvl]
    rfl
  rw [h1, h2]
  apply j_toIl _ (nb_shr hx)
  show (UInt64.ofNat x >>> (UInt64.ofNat p &&& Int64.toUInt64 63)).toBitVec = _
  apply BitVec.eq_of_toNat_eq
  show (UInt64.ofNat x >>> (UInt64.ofNat p &&& Int64.toUInt64 63)).toNat = _
  rw [UInt64.toNat_shiftRight, UInt64.toNat_and, show (Int64.toUInt64 63).toNat = 2 ^ 6 - 1 by decide, Nat.and_two_pow_sub_one_eq_mod, UInt64.toNat_ofNat', UInt64.toNat_ofNat', BitVec.toNat_ofNat]
  have h3 := nb_shr (k := p) hx
  rw [show p % 2 ^ 64 % 2 ^ 6 % 64 = p by omega, Nat.mod_eq_of_lt (by omega), Nat.mod_eq_of_lt (by omega)]
theorem cmpR (a b : Int) : -2147483648 ≤ j_cmp a b ∧ j_cmp a b < 2147483648 := by
  unfold j_cmp
  split
  · decide
  · split <;> decide
theorem cmp1t {b : Bool} (h : j_cmp ((b.toNat : Nat) : Int) 1 = 0) : b = true := by
  cases b
  · exact absurd h (by decide)
  · rfl
theorem cmp1f {b : Bool} (h : ¬ j_cmp ((b.toNat : Nat) : Int) 1 = 0) : b = false := by
  cases b
  · rfl
  · exact absurd (by decide) h
/-! links and duals -/
def lnB (n : Nat) (F : Nat → Nat) (x s : Nat) : Bool := decide (s &&& x = 0) && isF n F (s ||| x)
theorem and_z {a b : Nat} : a &&& b = 0 ↔ ∀ i, a.testBit i = true → b.testBit i = false := by
  constructor
  · intro h i hi
    have := Nat.testBit_and a b i
    rw [h, Nat.zero_testBit, hi, Bool.true_and] at this
    exact this.symm
  · intro h
    apply Nat.eq_of_testBit_eq
    intro i
    rw [Nat.testBit_and, Nat.zero_testBit]
    cases e : a.testBit i
    · rfl
    · rw [h i e]; rfl
theorem ln_eq (n : Nat) (F : Nat → Nat) (x s : Nat) : lnB n F x s = lkF n F x s := by
  apply beqB
  unfold lnB lkF isF
  rw [Bool.and_eq_true, decide_eq_true_eq, anyN_iff, anyN_iff, and_z]
  constructor
  · rintro ⟨h1, k, hk, h2⟩
    have hq : sbs x (F k) = true := sbs_iff.mpr (fun i hi => sbs_iff.mp h2 i (by rw [Nat.testBit_or, hi, Bool.or_true]))
    refine ⟨cntN k (fun k => sbs x (F k)), ?_, ?_⟩
    · have := cntN_mono (p := fun k => sbs x (F k)) (m := k + 1) (n := n) (by omega)
      rw [cntN_t (p := fun k => sbs x (F k)) hq] at this
      show cntN k (fun k => sbs x (F k)) < lkN n F x
      unfold lkN
      omega
    · show sbs s (lkG n F x (cntN k (fun k => sbs x (F k)))) = true
      unfold lkG
      rw [nthN_hit (p := fun k => sbs x (F k)) hq rfl hk, Int.toNat_natCast, sbs_iff]
      intro i hi
      rw [ndf_bit, h1 i hi, sbs_iff.mp h2 i (by rw [Nat.testBit_or, hi]; rfl)]
      rfl
  · rintro ⟨j, hj, h1⟩
    obtain ⟨k, hk, e1, e2, e3⟩ := nthN_spec (n := n) (p := fun k => sbs x (F k)) (i := j) hj
    unfold lkG at h1
    rw [e1, Int.toNat_natCast, sbs_iff] at h1
    refine ⟨fun i hi => ?_, k, hk, sbs_iff.mpr (fun i hi => ?_)⟩
    · have := h1 i hi
      rw [ndf_bit, Bool.and_eq_true, Bool.not_eq_true'] at this
      exact this.2
    · rw [Nat.testBit_or, Bool.or_eq_true] at hi
      rcases hi with hi | hi
      · have := h1 i hi
        rw [ndf_bit, Bool.and_eq_true] at this
        exact this.1
      · exact sbs_iff.mp e2 i hi
theorem lk_out {P D n : Nat} {F O : Nat → Nat} (h : WF P D n F O) {x s : Nat} (hs : lkF n F x s = true) : s < 2 ^ P := by
  rw [← ln_eq] at hs
  unfold lnB at hs
  rw [Bool.and_eq_true] at hs
  have := isF_lt h hs.2
  exact Nat.lt_of_le_of_lt Nat.left_le_or this
theorem miss_in {P n : Nat} {F : Nat → Nat} (h0 : 0 < n) : ∀ y, y < 2 ^ P → isF n F y = false → ∃ m, m < 2 ^ P ∧ sbs m y = true ∧ msg P (isF n F) m = true := by
  intro y
  induction y using Nat.strongRecOn with
  | _ y ih =>
    intro hy hf
    cases e : msg P (isF n F) y
    · have hz : isF n F 0 = true := anyN_iff.mpr ⟨0, h0, sbs_iff.mpr (fun i hi => by rw [Nat.zero_testBit] at hi; exact absurd hi (by decide))⟩
      have hy0 : ¬ y = 0 := by
        intro q
        rw [q, hz] at hf
        exact absurd hf (by decide)
      unfold msg at e
      rw [hf, beq_eq_false_iff_ne.mpr hy0, Bool.not_false, Bool.true_and, Bool.true_and] at e
      have h1 : ∃ p, p < P ∧ y.testBit p = true ∧ isF n F (ndf y (2 ^ p)) = false := by
        apply Classical.byContradiction
        intro hc
        have : allN P (fun p => !Nat.testBit y p || isF n F (ndf y (2 ^ p))) = true := by
          rw [allN_iff]
          intro p hp
          cases e1 : y.testBit p
          · rfl
          · cases e2 : isF n F (ndf y (2 ^ p))
            · exact absurd ⟨p, hp, e1, e2⟩ hc
            · rfl
        rw [e] at this
        exact absurd this (by decide)
      obtain ⟨p, hp, h2, h3⟩ := h1
      obtain ⟨m, m1, m2, m3⟩ := ih _ (ndf_bit_lt h2) (nb_ndf hy) h3
      refine ⟨m, m1, sbs_iff.mpr (fun i hi => ?_), m3⟩
      have := sbs_iff.mp m2 i hi
      rw [ndf_bit, Bool.and_eq_true] at this
      exact this.1
    · exact ⟨y, hy, sbs_iff.mpr (fun i hi => hi), e⟩
theorem du_eq {P n : Nat} {F : Nat → Nat} (h0 : 0 < n) {s : Nat} (hs : s < 2 ^ P) : (!isF n F (ndf (2 ^ P - 1) s)) = duF P n F s := by
  have hp := Nat.two_pow_pos P
  apply beqB
  unfold duF
  rw [Bool.not_eq_true', show isF (cntN (2 ^ P) (msg P (isF n F))) (duG P n F) s = anyN (cntN (2 ^ P) (msg P (isF n F))) (fun k => sbs s (duG P n F k)) from rfl, anyN_iff]
  constructor
  · intro h1
    obtain ⟨m, m1, m2, m3⟩ := miss_in (P := P) h0 _ (nb_ndf (by omega)) h1
    refine ⟨cntN m (msg P (isF n F)), ?_, ?_⟩
    · have := cntN_mono (p := msg P (isF n F)) (m := m + 1) (n := 2 ^ P) (by omega)
      rw [cntN_t m3] at this
      omega
    · unfold duG
      rw [nthN_hit m3 rfl m1, Int.toNat_natCast, sbs_iff]
      intro i hi
      rw [ndf_bit, all_bit, decide_eq_true (bit_lt hs hi), Bool.true_and, Bool.not_eq_true']
      cases e : m.testBit i
      · rfl
      · have := sbs_iff.mp m2 i e
        rw [ndf_bit, hi, Bool.not_true, Bool.and_false] at this
        exact absurd this (by decide)
  · rintro ⟨j, hj, h1⟩
    obtain ⟨m, hm, e1, e2, e3⟩ := nthN_spec hj
    unfold duG at h1
    rw [e1, Int.toNat_natCast, sbs_iff] at h1
    cases e : isF n F (ndf (2 ^ P - 1) s)
    · rfl
    · have hmf : isF n F m = true := by
        obtain ⟨k, hk, h2⟩ := anyN_iff.mp e
        refine anyN_iff.mpr ⟨k, hk, sbs_iff.mpr (fun i hi => sbs_iff.mp h2 i ?_)⟩
        rw [ndf_bit, all_bit, decide_eq_true (bit_lt hm hi), Bool.true_and, Bool.not_eq_true']
        cases e4 : s.testBit i
        · rfl
        · have := h1 i e4
          rw [ndf_bit, hi, Bool.not_true, Bool.and_false] at this
          exact absurd this (by decide)
      unfold msg at e2
      rw [hmf] at e2
      exact absurd e2 (by simp)
theorem du_out {P n : Nat} {F : Nat → Nat} {s : Nat} (hs : duF P n F s = true) : s < 2 ^ P := by
  obtain ⟨j, hj, h1⟩ := anyN_iff.mp hs
  have hp := Nat.two_pow_pos P
  have : duG P n F j < 2 ^ P := nb_ndf (by omega)
  exact Nat.lt_of_le_of_lt (sbs_le h1) this
def CC (M : jM) : Prop := ∀ t : Nat, t < 128 → M 12 (t : Int) = (col t : Int)
def HS (T : Nat → Nat × Nat) (M : jM) : Prop := ∀ i : Nat, i < 35 → M 14 (i : Int) = ((T i).1 : Int) ∧ (T i).1 < 9223372036854775808 ∧ M 15 (i : Int) = ((T i).2 : Int) ∧ (T i).2 < 2147483648
def IK (L : Nat) (G : Nat → Bool) (M : jM) : Prop := M 11 2 = (L : Int) ∧ ∀ s : Nat, s ≤ L → M 13 (s : Int) = (((G s).toNat : Nat) : Int)
theorem ik_congr {L : Nat} {G G' : Nat → Bool} {M : jM} (h : IK L G M) (e : ∀ s, s ≤ L → G s = G' s) : IK L G' M := ⟨h.1, fun s hs => by rw [← e s hs]; exact h.2 s hs⟩
set_option maxRecDepth 100000 in
set_option maxHeartbeats 4000000 in
theorem ev_X1_takeLink_L10 (P D n : Nat) (F O : Nat → Nat) (M : jM) (hR : KR P D n F O M) (x : Nat) (hx : x < 128)  : ∀ (fu : Nat) (M1 : jM) (s : Nat) (f1 : Ch [11, 13] M M1) (f2 : M1 11 2 = ((2 ^ P - 1 : Nat) : Int)) (f3 : ∀ t : Nat, t < s → M1 13 (t : Int) = ((((lnB n F x) t).toNat : Nat) : Int)) (f4 : s ≤ 2 ^ P) (hfu : 2 ^ P - s < fu), J none 3 mX1_takeLink 10 [(21, 0), (14, 0), (0, ((x : Nat) : Int)), (0, ((s : Nat) : Int))] [] M1 (j_ret mX1_takeLink (fun z M' => Ch [11, 13] M M' ∧ IK (2 ^ P - 1) (lnB n F x) M')) := by
  intro fu
  induction fu with
  | zero => intro M1 s f1 f2 f3 f4 hfu; exact absurd hfu (Nat.not_lt_zero _)
  | succ fu ih =>
    intro M1 s f1 f2 f3 f4 hfu
    have hn12 := KR.hn hR
    have hP7 := KR.hP hR
    have hD5 := KR.hD hR
    have h2P : 2 ^ P ≤ 128 := Nat.pow_le_pow_right (n := 2) (by decide) hP7
    have h2p := Nat.two_pow_pos P
    refine J_iload_n dX1_takeLink_10 rfl ?_
    refine J_aload_n dX1_takeLink_11 rfl ?_
    refine J_getI dX1_takeLink_12 flX1_42 rfl rfl (J_top (v := (((2 ^ P - 1) : Nat) : Int)) f2 ?_)
    refine J_icmp_gt (tgt := 51) dX1_takeLink_15 rfl (j_R (by omega)) (j_R (by omega)) (fun h15 => ?_) (fun h15 => ?_)
    ·
      refine J_return dX1_takeLink_51 rfl ?_
      have : s = 2 ^ P := by omega
      subst this
      exact ⟨f1, f2, fun t ht => f3 t (by omega)⟩
    ·
      refine J_aload_n dX1_takeLink_18 rfl ?_
      refine J_getR dX1_takeLink_19 flX1_15 rfl rfl ?_
      refine J_iload_n dX1_takeLink_22 rfl ?_
      refine J_iload_n dX1_takeLink_23 rfl ?_
      refine J_iload_n dX1_takeLink_24 rfl ?_
      refine J_iand dX1_takeLink_25 (J_top (v := (((s &&& x) : Nat) : Int)) (j_andN rfl rfl (by omega) (by omega)) ?_)
      refine J_if_ne (tgt := 43) dX1_takeLink_26 rfl (j_R (nb_and (by omega))) (fun h26 => ?_) (fun h26 => ?_)
      ·
        refine J_iconst dX1_takeLink_43 ?_
        refine J_bast dX1_takeLink_44 rfl (by decide) (by omega) (Or.inl rfl) ?_
        refine J_iinc (v := (((s + 1) : Nat) : Int)) (L' := [(21, 0), (14, 0), (0, ((x : Nat) : Int)), (0, (((s + 1) : Nat) : Int))]) dX1_takeLink_45 rfl (by omega) (by decide) rfl rfl ?_
        refine J_goto (tgt := 10) dX1_takeLink_48 rfl ?_
        exact ih _ _ (by exact Ch_up (by decide) f1) (by rw [j_up_ne (by decide)]; exact f2) (by intro t ht; by_cases e : t = s; rw [e, j_up_eq]; have a1 : ¬ s &&& x = 0 := (by omega); simp [lnB, a1]; rw [j_up_nz (by omega)]; exact f3 t (by omega)) (by omega) (by omega)
      ·
        refine J_aload_n dX1_takeLink_29 rfl ?_
        refine J_iload_n dX1_takeLink_30 rfl ?_
        refine J_iload_n dX1_takeLink_31 rfl ?_
        refine J_ior dX1_takeLink_32 (J_top (v := (((s ||| x) : Nat) : Int)) (j_orN rfl rfl (by omega) (by omega)) ?_)
        refine J_callViQ (cl := mX0_isFace) [(0, (((s ||| x) : Nat) : Int))] [(0, ((s : Nat) : Int)), (23, 0)] dX1_takeLink_33 mlX1_46 cvX0_isFace rfl rfl rfl rfl rfl (by decide) (Nat.le_of_ble_eq_true rfl) rfl (ev_X0_isFace P D n F O M1 (kr_ch f1 (by decide) hR) (s ||| x) (Nat.or_lt_two_pow (n := 7) (by omega : s < 128) hx)) ?_
        refine J_ifb_eq (tgt := 43) dX1_takeLink_36 rfl (fun h36 => ?_) (fun h36 => ?_)
        ·
          refine J_iconst dX1_takeLink_43 ?_
          refine J_bast dX1_takeLink_44 rfl (by decide) (by omega) (Or.inl rfl) ?_
          refine J_iinc (v := (((s + 1) : Nat) : Int)) (L' := [(21, 0), (14, 0), (0, ((x : Nat) : Int)), (0, (((s + 1) : Nat) : Int))]) dX1_takeLink_45 rfl (by omega) (by decide) rfl rfl ?_
          refine J_goto (tgt := 10) dX1_takeLink_48 rfl ?_
          exact ih _ _ (by exact Ch_up (by decide) f1) (by rw [j_up_ne (by decide)]; exact f2) (by intro t ht; by_cases e : t = s; rw [e, j_up_eq]; have a1 : s &&& x = 0 := (by omega); simp [lnB, a1, h36]; rw [j_up_nz (by omega)]; exact f3 t (by omega)) (by omega) (by omega)
        ·
          refine J_iconst dX1_takeLink_39 ?_
          refine J_goto (tgt := 44) dX1_takeLink_40 rfl ?_
          refine J_bast dX1_takeLink_44 rfl (by decide) (by omega) (Or.inr rfl) ?_
          refine J_iinc (v := (((s + 1) : Nat) : Int)) (L' := [(21, 0), (14, 0), (0, ((x : Nat) : Int)), (0, (((s + 1) : Nat) : Int))]) dX1_takeLink_45 rfl (by omega) (by decide) rfl rfl ?_
          refine J_goto (tgt := 10) dX1_takeLink_48 rfl ?_
          exact ih _ _ (by exact Ch_up (by decide) f1) (by rw [j_up_ne (by decide)]; exact f2) (by intro t ht; by_cases e : t = s; rw [e, j_up_eq]; have a1 : s &&& x = 0 := (by omega); simp [lnB, a1, h36]; rw [j_up_nz (by omega)]; exact f3 t (by omega)) (by omega) (by omega)
set_option maxRecDepth 100000 in
set_option maxHeartbeats 4000000 in
theorem ev_X1_takeLink (P D n : Nat) (F O : Nat → Nat) (M : jM) (hR : KR P D n F O M) (x : Nat) (hx : x < 128) : Ev 3 mX1_takeLink [(21, 0), (14, 0), (0, ((x : Nat) : Int))] M (fun z M' => Ch [11, 13] M M' ∧ IK (2 ^ P - 1) (lnB n F x) M') := by
  refine Ev_of (by decide +kernel) (Nat.le_of_ble_eq_true rfl) (L := [(21, 0), (14, 0), (0, ((x : Nat) : Int)), (9, 0)]) rfl ?_
  have hn12 := KR.hn hR
  have hP7 := KR.hP hR
  have hD5 := KR.hD hR
  have h2P : 2 ^ P ≤ 128 := Nat.pow_le_pow_right (n := 2) (by decide) hP7
  have h2p := Nat.two_pow_pos P
  refine J_aload_n dX1_takeLink_0 rfl ?_
  refine J_aload_n dX1_takeLink_1 rfl ?_
  refine J_callViQ (cl := mX0_everyPoint) [] [(21, 0)] dX1_takeLink_2 mlX1_36 cvX0_everyPoint rfl rfl rfl rfl rfl (by decide) (Nat.le_of_ble_eq_true rfl) rfl (ev_X0_everyPoint P D n F O M hR ) ?_
  refine J_putI dX1_takeLink_5 flX1_42 rfl rfl (Or.inl rfl) ?_
  refine J_iconst dX1_takeLink_8 ?_
  refine J_istore_n (L' := [(21, 0), (14, 0), (0, ((x : Nat) : Int)), (0, 0)]) dX1_takeLink_9 (by decide) rfl rfl ?_
  refine J_eq (L' := [(21, 0), (14, 0), (0, ((x : Nat) : Int)), (0, ((0 : Nat) : Int))]) rfl rfl rfl ?_
  exact ev_X1_takeLink_L10 P D n F O M hR x hx  _ _ _ (by exact Ch_up (by decide) Ch_rf) (by exact j_up_eq) (by intro t ht; omega) (by omega) (Nat.lt_succ_self _)
set_option maxRecDepth 100000 in
set_option maxHeartbeats 4000000 in
theorem ev_X1_takeFaces (P D n : Nat) (F O : Nat → Nat) (M : jM) (hR : KR P D n F O M) : Ev 4 mX1_takeFaces [(21, 0), (14, 0)] M (fun z M' => Ch [11, 13] M M' ∧ IK (2 ^ P - 1) (isF n F) M') := by
  refine Ev_of (by decide +kernel) (Nat.le_of_ble_eq_true rfl) (L := [(21, 0), (14, 0)]) rfl ?_
  have hn12 := KR.hn hR
  have hP7 := KR.hP hR
  have hD5 := KR.hD hR
  have h2P : 2 ^ P ≤ 128 := Nat.pow_le_pow_right (n := 2) (by decide) hP7
  have h2p := Nat.two_pow_pos P
  refine J_aload_n dX1_takeFaces_0 rfl ?_
  refine J_aload_n dX1_takeFaces_1 rfl ?_
  refine J_iconst dX1_takeFaces_2 ?_
  refine J_callVv (cl := mX1_takeLink) [(14, 0), (0, 0)] [] dX1_takeFaces_3 mlX1_32 cvX1_takeLink rfl rfl rfl rfl rfl (by decide) (Nat.le_of_ble_eq_true rfl) rfl (ev_X1_takeLink P D n F O M hR 0 (by decide)) (fun Ma hq3 => ?_)
  obtain ⟨a1, a2⟩ := hq3
  refine J_return dX1_takeFaces_6 rfl ?_
  exact ⟨a1, ik_congr a2 (fun s _ => by unfold lnB; rw [Nat.and_zero, Nat.or_zero]; rfl)⟩
set_option maxRecDepth 100000 in
set_option maxHeartbeats 4000000 in
theorem ev_X1_takeDual_L10 (P D n : Nat) (F O : Nat → Nat) (M : jM) (hR : KR P D n F O M) (h0 : 0 < n)  : ∀ (fu : Nat) (M1 : jM) (s : Nat) (f1 : Ch [11, 13] M M1) (f2 : M1 11 2 = ((2 ^ P - 1 : Nat) : Int)) (f3 : ∀ t : Nat, t < s → M1 13 (t : Int) = ((((fun s => !isF n F (ndf (2 ^ P - 1) s)) t).toNat : Nat) : Int)) (f4 : s ≤ 2 ^ P) (hfu : 2 ^ P - s < fu), J none 3 mX1_takeDual 10 [(21, 0), (14, 0), (0, ((s : Nat) : Int))] [] M1 (j_ret mX1_takeDual (fun z M' => Ch [11, 13] M M' ∧ IK (2 ^ P - 1) (duF P n F) M')) := by
  intro fu
  induction fu with
  | zero => intro M1 s f1 f2 f3 f4 hfu; exact absurd hfu (Nat.not_lt_zero _)
  | succ fu ih =>
    intro M1 s f1 f2 f3 f4 hfu
    have hn12 := KR.hn hR
    have hP7 := KR.hP hR
    have hD5 := KR.hD hR
    have h2P : 2 ^ P ≤ 128 := Nat.pow_le_pow_right (n := 2) (by decide) hP7
    have h2p := Nat.two_pow_pos P
    refine J_iload_n dX1_takeDual_10 rfl ?_
    refine J_aload_n dX1_takeDual_11 rfl ?_
    refine J_getI dX1_takeDual_12 flX1_42 rfl rfl (J_top (v := (((2 ^ P - 1) : Nat) : Int)) f2 ?_)
    refine J_icmp_gt (tgt := 50) dX1_takeDual_15 rfl (j_R (by omega)) (j_R (by omega)) (fun h15 => ?_) (fun h15 => ?_)
    ·
      refine J_return dX1_takeDual_50 rfl ?_
      have : s = 2 ^ P := by omega
      subst this
      exact ⟨f1, ik_congr (G := (fun s => !isF n F (ndf (2 ^ P - 1) s))) ⟨f2, fun t ht => f3 t (by omega)⟩ (fun t ht => du_eq h0 (by omega))⟩
    ·
      refine J_aload_n dX1_takeDual_18 rfl ?_
      refine J_getR dX1_takeDual_19 flX1_15 rfl rfl ?_
      refine J_iload_n dX1_takeDual_22 rfl ?_
      refine J_aload_n dX1_takeDual_23 rfl ?_
      refine J_aload_n dX1_takeDual_24 rfl ?_
      refine J_getI dX1_takeDual_25 flX1_42 rfl rfl (J_top (v := (((2 ^ P - 1) : Nat) : Int)) f2 ?_)
      refine J_iload_n dX1_takeDual_28 rfl ?_
      refine J_iconst dX1_takeDual_29 ?_
      refine J_ixor dX1_takeDual_30 (J_top (v := (-((s : Nat) : Int) - 1)) (j_notN rfl (by omega)) ?_)
      refine J_iand dX1_takeDual_31 (J_top (v := (((ndf (2 ^ P - 1) s) : Nat) : Int)) (j_ndfN rfl rfl (by omega)) ?_)
      refine J_callViQ (cl := mX0_isFace) [(0, (((ndf (2 ^ P - 1) s) : Nat) : Int))] [(0, ((s : Nat) : Int)), (23, 0)] dX1_takeDual_32 mlX1_46 cvX0_isFace rfl rfl rfl rfl rfl (by decide) (Nat.le_of_ble_eq_true rfl) rfl (ev_X0_isFace P D n F O M1 (kr_ch f1 (by decide) hR) (ndf (2 ^ P - 1) s) (by have := ndf_le (2 ^ P - 1) s; omega)) ?_
      refine J_ifb_ne (tgt := 42) dX1_takeDual_35 rfl (fun h35 => ?_) (fun h35 => ?_)
      ·
        refine J_iconst dX1_takeDual_42 ?_
        refine J_bast dX1_takeDual_43 rfl (by decide) (by omega) (Or.inl rfl) ?_
        refine J_iinc (v := (((s + 1) : Nat) : Int)) (L' := [(21, 0), (14, 0), (0, (((s + 1) : Nat) : Int))]) dX1_takeDual_44 rfl (by omega) (by decide) rfl rfl ?_
        refine J_goto (tgt := 10) dX1_takeDual_47 rfl ?_
        exact ih _ _ (by exact Ch_up (by decide) f1) (by rw [j_up_ne (by decide)]; exact f2) (by intro t ht; by_cases e : t = s; rw [e, j_up_eq]; dsimp only; rw [h35]; rfl; rw [j_up_nz (by omega)]; exact f3 t (by omega)) (by omega) (by omega)
      ·
        refine J_iconst dX1_takeDual_38 ?_
        refine J_goto (tgt := 43) dX1_takeDual_39 rfl ?_
        refine J_bast dX1_takeDual_43 rfl (by decide) (by omega) (Or.inr rfl) ?_
        refine J_iinc (v := (((s + 1) : Nat) : Int)) (L' := [(21, 0), (14, 0), (0, (((s + 1) : Nat) : Int))]) dX1_takeDual_44 rfl (by omega) (by decide) rfl rfl ?_
        refine J_goto (tgt := 10) dX1_takeDual_47 rfl ?_
        exact ih _ _ (by exact Ch_up (by decide) f1) (by rw [j_up_ne (by decide)]; exact f2) (by intro t ht; by_cases e : t = s; rw [e, j_up_eq]; dsimp only; rw [h35]; rfl; rw [j_up_nz (by omega)]; exact f3 t (by omega)) (by omega) (by omega)
set_option maxRecDepth 100000 in
set_option maxHeartbeats 4000000 in
theorem ev_X1_takeDual (P D n : Nat) (F O : Nat → Nat) (M : jM) (hR : KR P D n F O M) (h0 : 0 < n) : Ev 3 mX1_takeDual [(21, 0), (14, 0)] M (fun z M' => Ch [11, 13] M M' ∧ IK (2 ^ P - 1) (duF P n F) M') := by
  refine Ev_of (by decide +kernel) (Nat.le_of_ble_eq_true rfl) (L := [(21, 0), (14, 0), (9, 0)]) rfl ?_
  have hn12 := KR.hn hR
  have hP7 := KR.hP hR
  have hD5 := KR.hD hR
  have h2P : 2 ^ P ≤ 128 := Nat.pow_le_pow_right (n := 2) (by decide) hP7
  have h2p := Nat.two_pow_pos P
  refine J_aload_n dX1_takeDual_0 rfl ?_
  refine J_aload_n dX1_takeDual_1 rfl ?_
  refine J_callViQ (cl := mX0_everyPoint) [] [(21, 0)] dX1_takeDual_2 mlX1_36 cvX0_everyPoint rfl rfl rfl rfl rfl (by decide) (Nat.le_of_ble_eq_true rfl) rfl (ev_X0_everyPoint P D n F O M hR ) ?_
  refine J_putI dX1_takeDual_5 flX1_42 rfl rfl (Or.inl rfl) ?_
  refine J_iconst dX1_takeDual_8 ?_
  refine J_istore_n (L' := [(21, 0), (14, 0), (0, 0)]) dX1_takeDual_9 (by decide) rfl rfl ?_
  refine J_eq (L' := [(21, 0), (14, 0), (0, ((0 : Nat) : Int))]) rfl rfl rfl ?_
  exact ev_X1_takeDual_L10 P D n F O M hR h0  _ _ _ (by exact Ch_up (by decide) Ch_rf) (by exact j_up_eq) (by intro t ht; omega) (by omega) (Nat.lt_succ_self _)
set_option maxRecDepth 100000 in
set_option maxHeartbeats 4000000 in
theorem ev_X1_clear_L2 (M : jM)  : ∀ (fu : Nat) (M1 : jM) (i : Nat) (f1 : Ch [14, 15] M M1) (f2 : ∀ j : Nat, j < i → M1 14 (j : Int) = 0 ∧ M1 15 (j : Int) = 0) (f3 : i ≤ 35) (hfu : 35 - i < fu), J none 0 mX1_clear 2 [(21, 0), (0, ((i : Nat) : Int))] [] M1 (j_ret mX1_clear (fun z M' => Ch [14, 15] M M' ∧ HS (fun _ => (0, 0)) M')) := by
  intro fu
  induction fu with
  | zero => intro M1 i f1 f2 f3 hfu; exact absurd hfu (Nat.not_lt_zero _)
  | succ fu ih =>
    intro M1 i f1 f2 f3 hfu
    refine J_iload_n dX1_clear_2 rfl ?_
    refine J_bipush dX1_clear_3 (by decide) ?_
    refine J_icmp_ge (tgt := 28) dX1_clear_5 rfl (j_R (by omega)) (by decide) (fun h5 => ?_) (fun h5 => ?_)
    ·
      refine J_return dX1_clear_28 rfl ?_
      exact ⟨f1, fun j hj => ⟨(f2 j (by omega)).1, (by decide : 0 < 9223372036854775808), (f2 j (by omega)).2, (by decide : 0 < 2147483648)⟩⟩
    ·
      refine J_aload_n dX1_clear_8 rfl ?_
      refine J_getR dX1_clear_9 flX1_19 rfl rfl ?_
      refine J_iload_n dX1_clear_12 rfl ?_
      refine J_lconst0 dX1_clear_13 ?_
      refine J_last dX1_clear_14 rfl (by decide) (by omega) ?_
      refine J_aload_n dX1_clear_15 rfl ?_
      refine J_getR dX1_clear_16 flX1_23 rfl rfl ?_
      refine J_iload_n dX1_clear_19 rfl ?_
      refine J_iconst dX1_clear_20 ?_
      refine J_iast dX1_clear_21 rfl (by decide) (by omega) ?_
      refine J_iinc (v := (((i + 1) : Nat) : Int)) (L' := [(21, 0), (0, (((i + 1) : Nat) : Int))]) dX1_clear_22 rfl (by omega) (by decide) rfl rfl ?_
      refine J_goto (tgt := 2) dX1_clear_25 rfl ?_
      exact ih _ _ (by exact Ch_up (by decide) (Ch_up (by decide) f1)) (by intro j hj; by_cases e : j = i; rw [e, j_up_ne (by decide), j_up_eq, j_up_eq]; exact ⟨rfl, rfl⟩; rw [j_up_ne (by decide), j_up_nz (by omega), j_up_nz (by omega), j_up_ne (by decide)]; exact f2 j (by omega)) (by omega) (by omega)
set_option maxRecDepth 100000 in
set_option maxHeartbeats 4000000 in
theorem ev_X1_clear (M : jM) : Ev 0 mX1_clear [(21, 0)] M (fun z M' => Ch [14, 15] M M' ∧ HS (fun _ => (0, 0)) M') := by
  refine Ev_of (by decide +kernel) (Nat.le_of_ble_eq_true rfl) (L := [(21, 0), (9, 0)]) rfl ?_
  refine J_iconst dX1_clear_0 ?_
  refine J_istore_n (L' := [(21, 0), (0, 0)]) dX1_clear_1 (by decide) rfl rfl ?_
  refine J_eq (L' := [(21, 0), (0, ((0 : Nat) : Int))]) rfl rfl rfl ?_
  exact ev_X1_clear_L2 M  _ _ _ (by exact Ch_rf) (by intro j hj; omega) (by omega) (Nat.lt_succ_self _)
set_option maxRecDepth 100000 in
set_option maxHeartbeats 4000000 in
theorem ev_X1_rowOf_L5 (x : Nat) (hx : x < 128) (M : jM) (hC : CC M)  : ∀ (fu : Nat) (p : Nat) (h2 : p ≤ 7) (hfu : 7 - p < fu), J none 0 mX1_rowOf 5 [(21, 0), (0, ((x : Nat) : Int)), (1, (((crN x p) : Nat) : Int)), (9, 0), (0, ((p : Nat) : Int)), (9, 0)] [] M (j_ret mX1_rowOf (fun z M' => z = ((crN x 7 : Nat) : Int) ∧ M' = M)) := by
  intro fu
  induction fu with
  | zero => intro p h2 hfu; exact absurd hfu (Nat.not_lt_zero _)
  | succ fu ih =>
    intro p h2 hfu
    refine J_iload dX1_rowOf_5 rfl ?_
    refine J_bipush dX1_rowOf_7 (by decide) ?_
    refine J_icmp_ge (tgt := 47) dX1_rowOf_9 rfl (j_R (by omega)) (by decide) (fun h9 => ?_) (fun h9 => ?_)
    ·
      refine J_lload_n dX1_rowOf_47 rfl ?_
      refine J_lreturn dX1_rowOf_48 rfl ?_
      have : p = 7 := by omega
      subst this
      exact ⟨rfl, rfl⟩
    ·
      refine J_iconst dX1_rowOf_12 ?_
      refine J_iload dX1_rowOf_13 rfl ?_
      refine J_ishl dX1_rowOf_15 (J_top (v := (((2 ^ p) : Nat) : Int)) (j_shl1 rfl rfl (by omega)) ?_)
      refine J_istore (L' := [(21, 0), (0, ((x : Nat) : Int)), (1, (((crN x p) : Nat) : Int)), (9, 0), (0, ((p : Nat) : Int)), (0, (((2 ^ p) : Nat) : Int))]) dX1_rowOf_16 (by decide) rfl rfl ?_
      refine J_iload_n dX1_rowOf_18 rfl ?_
      refine J_iload dX1_rowOf_19 rfl ?_
      refine J_iand dX1_rowOf_21 (J_top (v := (((x &&& (2 ^ p)) : Nat) : Int)) (j_andN rfl rfl (by omega) (nb_p2 (by omega))) ?_)
      refine J_if_eq (tgt := 41) dX1_rowOf_22 rfl (j_R (nb_and (by omega))) (fun h22 => ?_) (fun h22 => ?_)
      ·
        refine J_eq (L' := [(21, 0), (0, ((x : Nat) : Int)), (1, (((crN x (p + 1)) : Nat) : Int)), (9, 0), (0, ((p : Nat) : Int)), (0, (((2 ^ p) : Nat) : Int))]) (by simp only [crN]; rw [and_p2z h22, if_neg (by decide), Nat.or_zero]) rfl rfl ?_
        refine J_iinc (v := (((p + 1) : Nat) : Int)) (L' := [(21, 0), (0, ((x : Nat) : Int)), (1, (((crN x (p + 1)) : Nat) : Int)), (9, 0), (0, (((p + 1) : Nat) : Int)), (0, (((2 ^ p) : Nat) : Int))]) dX1_rowOf_41 rfl (by omega) (by decide) rfl rfl ?_
        refine J_goto (tgt := 5) dX1_rowOf_44 rfl ?_
        refine J_unset 5 (L' := [(21, 0), (0, ((x : Nat) : Int)), (1, (((crN x (p + 1)) : Nat) : Int)), (9, 0), (0, (((p + 1) : Nat) : Int)), (9, 0)]) rfl ?_
        exact ih _ (by omega) (by omega)
      ·
        refine J_lload_n dX1_rowOf_25 rfl ?_
        refine J_lconst1 dX1_rowOf_26 ?_
        refine J_aload_n dX1_rowOf_27 rfl ?_
        refine J_getR dX1_rowOf_28 flX1_9 rfl rfl ?_
        refine J_iload_n dX1_rowOf_31 rfl ?_
        refine J_iload dX1_rowOf_32 rfl ?_
        refine J_iconst dX1_rowOf_34 ?_
        refine J_ixor dX1_rowOf_35 (J_top (v := (-(((2 ^ p) : Nat) : Int) - 1)) (j_notN rfl (nb_p2 (by omega))) ?_)
        refine J_iand dX1_rowOf_36 (J_top (v := (((ndf x (2 ^ p)) : Nat) : Int)) (j_ndfN rfl rfl (by omega)) ?_)
        refine J_iald dX1_rowOf_37 rfl (by decide) (by have := ndf_le x (2 ^ p); omega) (J_top (v := (((col (ndf x (2 ^ p))) : Nat) : Int)) (hC _ (by have := ndf_le x (2 ^ p); omega)) ?_)
        refine J_lshl dX1_rowOf_38 (J_top (v := (((2 ^ (col (ndf x (2 ^ p)))) : Nat) : Int)) (j_lshl1 rfl rfl (by have := col_lt (t := ndf x (2 ^ p)) (by have := ndf_le x (2 ^ p); omega); omega)) ?_)
        refine J_lor dX1_rowOf_39 (J_top (v := ((((crN x p) ||| (2 ^ (col (ndf x (2 ^ p))))) : Nat) : Int)) (j_lorN rfl rfl (by have := crN_lt hx p; omega) (nb_p263 (by have := col_lt (t := ndf x (2 ^ p)) (by have := ndf_le x (2 ^ p); omega); omega))) ?_)
        refine J_lstore_n (L' := [(21, 0), (0, ((x : Nat) : Int)), (1, ((((crN x p) ||| (2 ^ (col (ndf x (2 ^ p))))) : Nat) : Int)), (9, 0), (0, ((p : Nat) : Int)), (0, (((2 ^ p) : Nat) : Int))]) dX1_rowOf_40 (by decide) rfl rfl ?_
        refine J_eq (L' := [(21, 0), (0, ((x : Nat) : Int)), (1, (((crN x (p + 1)) : Nat) : Int)), (9, 0), (0, ((p : Nat) : Int)), (0, (((2 ^ p) : Nat) : Int))]) (by simp only [crN]; rw [if_pos (and_p2n h22)]) rfl rfl ?_
        refine J_iinc (v := (((p + 1) : Nat) : Int)) (L' := [(21, 0), (0, ((x : Nat) : Int)), (1, (((crN x (p + 1)) : Nat) : Int)), (9, 0), (0, (((p + 1) : Nat) : Int)), (0, (((2 ^ p) : Nat) : Int))]) dX1_rowOf_41 rfl (by omega) (by decide) rfl rfl ?_
        refine J_goto (tgt := 5) dX1_rowOf_44 rfl ?_
        refine J_unset 5 (L' := [(21, 0), (0, ((x : Nat) : Int)), (1, (((crN x (p + 1)) : Nat) : Int)), (9, 0), (0, (((p + 1) : Nat) : Int)), (9, 0)]) rfl ?_
        exact ih _ (by omega) (by omega)
set_option maxRecDepth 100000 in
set_option maxHeartbeats 4000000 in
theorem ev_X1_rowOf (x : Nat) (hx : x < 128) (M : jM) (hC : CC M) : Ev 0 mX1_rowOf [(21, 0), (0, ((x : Nat) : Int))] M (fun z M' => z = ((crN x 7 : Nat) : Int) ∧ M' = M) := by
  refine Ev_of (by decide +kernel) (Nat.le_of_ble_eq_true rfl) (L := [(21, 0), (0, ((x : Nat) : Int)), (9, 0), (9, 0), (9, 0), (9, 0)]) rfl ?_
  refine J_lconst0 dX1_rowOf_0 ?_
  refine J_lstore_n (L' := [(21, 0), (0, ((x : Nat) : Int)), (1, 0), (9, 0), (9, 0), (9, 0)]) dX1_rowOf_1 (by decide) rfl rfl ?_
  refine J_eq (L' := [(21, 0), (0, ((x : Nat) : Int)), (1, (((crN x 0) : Nat) : Int)), (9, 0), (9, 0), (9, 0)]) rfl rfl rfl ?_
  refine J_iconst dX1_rowOf_2 ?_
  refine J_istore (L' := [(21, 0), (0, ((x : Nat) : Int)), (1, (((crN x 0) : Nat) : Int)), (9, 0), (0, 0), (9, 0)]) dX1_rowOf_3 (by decide) rfl rfl ?_
  refine J_eq (L' := [(21, 0), (0, ((x : Nat) : Int)), (1, (((crN x 0) : Nat) : Int)), (9, 0), (0, ((0 : Nat) : Int)), (9, 0)]) rfl rfl rfl ?_
  exact ev_X1_rowOf_L5 x hx M hC  _ _ (by omega) (Nat.lt_succ_self _)
set_option maxRecDepth 100000 in
set_option maxHeartbeats 4000000 in
theorem ev_X1_settle_L12 (T : Nat → Nat × Nat) (l0 m0 : Nat) (hl0 : l0 < 9223372036854775808) (hm0 : m0 < 2147483648) (M : jM) (hT : HS T M)  : ∀ (fu : Nat) (M1 : jM) (i l m : Nat) (f1 : Ch [11] M M1) (f2 : M1 11 5 = ((m : Nat) : Int)) (f0 : M1 11 2 = M 11 2) (f3 : l < 9223372036854775808) (f4 : m < 2147483648) (f5 : i ≤ 35) (f6 : (stF T 35 l0 m0) = stF T i l m) (hfu : i < fu), J none 0 mX1_settle 12 [(21, 0), (1, ((l0 : Nat) : Int)), (9, 0), (0, ((m0 : Nat) : Int)), (1, ((l : Nat) : Int)), (9, 0), (0, (((i : Nat) : Int) - 1))] [] M1 (j_ret mX1_settle (fun z M' => z = ((Bool.toNat (stF T 35 l0 m0).1 : Nat) : Int) ∧ HS (stT T (stF T 35 l0 m0)) M' ∧ M' 11 5 = (((stF T 35 l0 m0).2.2.2 : Nat) : Int) ∧ M' 11 2 = M 11 2 ∧ Ch [11, 14, 15] M M' ∧ (stF T 35 l0 m0).2.2.2 < 2147483648)) := by
  intro fu
  induction fu with
  | zero => intro M1 i l m f1 f2 f0 f3 f4 f5 f6 hfu; exact absurd hfu (Nat.not_lt_zero _)
  | succ fu ih =>
    intro M1 i l m f1 f2 f0 f3 f4 f5 f6 hfu
    refine J_iload dX1_settle_12 rfl ?_
    refine J_if_lt (tgt := 104) dX1_settle_14 rfl (by omega) (fun h14 => ?_) (fun h14 => ?_)
    ·
      refine J_iconst dX1_settle_104 ?_
      refine J_zreturn dX1_settle_105 rfl (Or.inl rfl) ?_
      have hr : (stF T 35 l0 m0) = (false, 0, l, m) := by rw [f6, show i = 0 by omega]; rfl
      rw [hr]
      refine ⟨rfl, ?_, f2, f0, Ch_mo f1 (by decide), f4⟩
      rw [stT_eq rfl]
      intro j hj
      rw [f1 14 (by decide), f1 15 (by decide)]
      exact hT j hj
    ·
      refine J_lload dX1_settle_17 rfl ?_
      refine J_lconst0 dX1_settle_19 ?_
      refine J_lcmp dX1_settle_20 (j_R63 f3) (by decide) (J_top (v := ((Bool.toNat (decide (¬ l = 0)) : Nat) : Int)) (j_cmp0 _) ?_)
      refine J_ifb_eq (tgt := 104) dX1_settle_21 rfl (fun h21 => ?_) (fun h21 => ?_)
      ·
        refine J_iconst dX1_settle_104 ?_
        refine J_zreturn dX1_settle_105 rfl (Or.inl rfl) ?_
        have hr : (stF T 35 l0 m0) = (false, 0, l, m) := by rw [f6, stF_z (Decidable.not_not.mp (of_decide_eq_false h21))]
        rw [hr]
        refine ⟨rfl, ?_, f2, f0, Ch_mo f1 (by decide), f4⟩
        rw [stT_eq rfl]
        intro j hj
        rw [f1 14 (by decide), f1 15 (by decide)]
        exact hT j hj
      ·
        refine J_lload dX1_settle_24 rfl ?_
        refine J_iload dX1_settle_26 rfl (J_top (v := (((i - 1) : Nat) : Int)) (by omega) ?_)
        refine J_lushr dX1_settle_28 (J_top (v := (((l >>> (i - 1)) : Nat) : Int)) (j_lushrN rfl rfl f3 (by omega)) ?_)
        refine J_lconst1 dX1_settle_29 ?_
        refine J_land dX1_settle_30 (J_top (v := (((Bool.toNat (Nat.testBit l (i - 1))) : Nat) : Int)) ((j_landN rfl rfl (nb_shr f3) (by decide)).trans (congrArg Nat.cast (bit_one _ _))) ?_)
        refine J_lconst1 dX1_settle_31 ?_
        refine J_lcmp dX1_settle_32 (by cases Nat.testBit l (i - 1) <;> decide) (by decide) ?_
        refine J_if_ne (tgt := 98) dX1_settle_33 rfl (cmpR _ _) (fun h33 => ?_) (fun h33 => ?_)
        ·
          refine J_iinc (v := ((((i - 1) : Nat) : Int) - 1)) (L' := [(21, 0), (1, ((l0 : Nat) : Int)), (9, 0), (0, ((m0 : Nat) : Int)), (1, ((l : Nat) : Int)), (9, 0), (0, ((((i - 1) : Nat) : Int) - 1))]) dX1_settle_98 rfl (by omega) (by decide) rfl rfl ?_
          refine J_goto (tgt := 12) dX1_settle_101 rfl ?_
          exact ih _ _ _ _ (by exact f1) (by exact f2) (by exact f0) (by exact f3) (by exact f4) (by omega) (by rw [f6, stF_no (by omega) (of_decide_eq_true h21) (cmp1f h33)]) (by omega)
        ·
          refine J_aload_n dX1_settle_36 rfl ?_
          refine J_getR dX1_settle_37 flX1_19 rfl rfl ?_
          refine J_iload dX1_settle_40 rfl (J_top (v := (((i - 1) : Nat) : Int)) (by omega) ?_)
          refine J_lald dX1_settle_42 rfl (by decide) (by omega) (J_top (v := (((T (i - 1)).1 : Nat) : Int)) (by rw [f1 14 (by decide)]; exact (hT (i - 1) (by omega)).1) ?_)
          refine J_lconst0 dX1_settle_43 ?_
          refine J_lcmp dX1_settle_44 (j_R63 ((hT (i - 1) (by omega)).2.1)) (by decide) (J_top (v := ((Bool.toNat (decide (¬ (T (i - 1)).1 = 0)) : Nat) : Int)) (j_cmp0 _) ?_)
          refine J_ifb_ne (tgt := 70) dX1_settle_45 rfl (fun h45 => ?_) (fun h45 => ?_)
          ·
            refine J_lload dX1_settle_70 rfl ?_
            refine J_aload_n dX1_settle_72 rfl ?_
            refine J_getR dX1_settle_73 flX1_19 rfl rfl ?_
            refine J_iload dX1_settle_76 rfl (J_top (v := (((i - 1) : Nat) : Int)) (by omega) ?_)
            refine J_lald dX1_settle_78 rfl (by decide) (by omega) (J_top (v := (((T (i - 1)).1 : Nat) : Int)) (by rw [f1 14 (by decide)]; exact (hT (i - 1) (by omega)).1) ?_)
            refine J_lxor dX1_settle_79 (J_top (v := (((l ^^^ (T (i - 1)).1) : Nat) : Int)) (j_lxorN rfl rfl f3 ((hT (i - 1) (by omega)).2.1)) ?_)
            refine J_lstore (L' := [(21, 0), (1, ((l0 : Nat) : Int)), (9, 0), (0, ((m0 : Nat) : Int)), (1, (((l ^^^ (T (i - 1)).1) : Nat) : Int)), (9, 0), (0, (((i : Nat) : Int) - 1))]) dX1_settle_80 (by decide) rfl rfl ?_
            refine J_aload_n dX1_settle_82 rfl ?_
            refine J_dup dX1_settle_83 rfl ?_
            refine J_getI dX1_settle_84 flX1_50 rfl rfl (J_top (v := ((m : Nat) : Int)) f2 ?_)
            refine J_aload_n dX1_settle_87 rfl ?_
            refine J_getR dX1_settle_88 flX1_23 rfl rfl ?_
            refine J_iload dX1_settle_91 rfl (J_top (v := (((i - 1) : Nat) : Int)) (by omega) ?_)
            refine J_iald dX1_settle_93 rfl (by decide) (by omega) (J_top (v := (((T (i - 1)).2 : Nat) : Int)) (by rw [f1 15 (by decide)]; exact (hT (i - 1) (by omega)).2.2.1) ?_)
            refine J_ixor dX1_settle_94 (J_top (v := (((m ^^^ (T (i - 1)).2) : Nat) : Int)) (j_xorN rfl rfl f4 ((hT (i - 1) (by omega)).2.2.2)) ?_)
            refine J_putI dX1_settle_95 flX1_50 rfl rfl (Or.inl rfl) ?_
            refine J_iinc (v := ((((i - 1) : Nat) : Int) - 1)) (L' := [(21, 0), (1, ((l0 : Nat) : Int)), (9, 0), (0, ((m0 : Nat) : Int)), (1, (((l ^^^ (T (i - 1)).1) : Nat) : Int)), (9, 0), (0, ((((i - 1) : Nat) : Int) - 1))]) dX1_settle_98 rfl (by omega) (by decide) rfl rfl ?_
            refine J_goto (tgt := 12) dX1_settle_101 rfl ?_
            exact ih _ _ _ _ (by exact Ch_up (by decide) f1) (by exact j_up_eq) (by rw [j_up_nz (by decide)]; exact f0) (by exact nb_xor63 f3 (hT (i - 1) (by omega)).2.1) (by exact nb_xor f4 (hT (i - 1) (by omega)).2.2.2) (by omega) (by rw [f6, stF_go (by omega) (of_decide_eq_true h21) (cmp1t h33) (of_decide_eq_true h45)]) (by omega)
          ·
            refine J_aload_n dX1_settle_48 rfl ?_
            refine J_getR dX1_settle_49 flX1_19 rfl rfl ?_
            refine J_iload dX1_settle_52 rfl (J_top (v := (((i - 1) : Nat) : Int)) (by omega) ?_)
            refine J_lload dX1_settle_54 rfl ?_
            refine J_last dX1_settle_56 rfl (by decide) (by omega) ?_
            refine J_aload_n dX1_settle_57 rfl ?_
            refine J_getR dX1_settle_58 flX1_23 rfl rfl ?_
            refine J_iload dX1_settle_61 rfl (J_top (v := (((i - 1) : Nat) : Int)) (by omega) ?_)
            refine J_aload_n dX1_settle_63 rfl ?_
            refine J_getI dX1_settle_64 flX1_50 rfl rfl (J_top (v := ((m : Nat) : Int)) (ru_ne (by decide) f2) ?_)
            refine J_iast dX1_settle_67 rfl (by decide) (by omega) ?_
            refine J_iconst dX1_settle_68 ?_
            refine J_zreturn dX1_settle_69 rfl (Or.inr rfl) ?_
            have hr : (stF T 35 l0 m0) = (true, i - 1, l, m) := by rw [f6, stF_new (by omega) (of_decide_eq_true h21) (cmp1t h33) (Decidable.not_not.mp (of_decide_eq_false h45))]
            rw [hr]
            refine ⟨rfl, ?_, ru_ne (by decide) (ru_ne (by decide) f2), ?_, Ch_up (by decide) (Ch_up (by decide) (Ch_mo f1 (by decide))), f4⟩
            · intro j hj
              unfold stT
              by_cases e : j = i - 1
              · rw [if_pos ⟨rfl, e⟩, e, j_up_ne (by decide), j_up_eq, j_up_eq]
                exact ⟨rfl, f3, rfl, f4⟩
              · rw [if_neg (fun q => e q.2), j_up_ne (by decide), j_up_nz (by omega), j_up_nz (by omega), j_up_ne (by decide), f1 14 (by decide), f1 15 (by decide)]
                exact hT j hj
            · rw [j_up_ne (by decide), j_up_ne (by decide)]; exact f0
set_option maxRecDepth 100000 in
set_option maxHeartbeats 4000000 in
theorem ev_X1_settle (T : Nat → Nat × Nat) (l0 m0 : Nat) (hl0 : l0 < 9223372036854775808) (hm0 : m0 < 2147483648) (M : jM) (hT : HS T M) : Ev 0 mX1_settle [(21, 0), (1, ((l0 : Nat) : Int)), (0, ((m0 : Nat) : Int))] M (fun z M' => z = ((Bool.toNat (stF T 35 l0 m0).1 : Nat) : Int) ∧ HS (stT T (stF T 35 l0 m0)) M' ∧ M' 11 5 = (((stF T 35 l0 m0).2.2.2 : Nat) : Int) ∧ M' 11 2 = M 11 2 ∧ Ch [11, 14, 15] M M' ∧ (stF T 35 l0 m0).2.2.2 < 2147483648) := by
  refine Ev_of (by decide +kernel) (Nat.le_of_ble_eq_true rfl) (L := [(21, 0), (1, ((l0 : Nat) : Int)), (9, 0), (0, ((m0 : Nat) : Int)), (9, 0), (9, 0), (9, 0)]) rfl ?_
  refine J_lload_n dX1_settle_0 rfl ?_
  refine J_lstore (L' := [(21, 0), (1, ((l0 : Nat) : Int)), (9, 0), (0, ((m0 : Nat) : Int)), (1, ((l0 : Nat) : Int)), (9, 0), (9, 0)]) dX1_settle_1 (by decide) rfl rfl ?_
  refine J_aload_n dX1_settle_3 rfl ?_
  refine J_iload_n dX1_settle_4 rfl ?_
  refine J_putI dX1_settle_5 flX1_50 rfl rfl (Or.inl rfl) ?_
  refine J_bipush dX1_settle_8 (by decide) (J_top (v := (((35 : Nat) : Int) - 1)) (by decide) ?_)
  refine J_istore (L' := [(21, 0), (1, ((l0 : Nat) : Int)), (9, 0), (0, ((m0 : Nat) : Int)), (1, ((l0 : Nat) : Int)), (9, 0), (0, (((35 : Nat) : Int) - 1))]) dX1_settle_10 (by decide) rfl rfl ?_
  exact ev_X1_settle_L12 T l0 m0 hl0 hm0 M hT  _ _ _ _ _ (by exact Ch_up (by decide) Ch_rf) (by exact j_up_eq) (by rw [j_up_nz (by decide)]) (by exact hl0) (by exact hm0) (by omega) (by rfl) (Nat.lt_succ_self _)
