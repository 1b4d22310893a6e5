def ORD (F : Nat → Nat) (n : Nat) (M : jM) : Prop := M 16 0 = 1 ∧ ∀ t : Nat, t < 2 ^ n → M 17 (t : Int) = (wto F n t : Int) ∧ M 18 (t : Int) = (rdyM F n t : Int) ∧ M 19 (t : Int) = (onw F n t : Int)
def OQ (F : Nat → Nat) (n : Nat) (M : jM) : Prop := M 16 0 = 0 ∨ ORD F n M
theorem ord_ch {F : Nat → Nat} {n : Nat} {M M' : jM} {ks : List Nat} (hc : Ch ks M M') (hk : 16 ∉ ks ∧ 17 ∉ ks ∧ 18 ∉ ks ∧ 19 ∉ ks) (h : ORD F n M) : ORD F n M' := by
  unfold ORD at h ⊢
  rw [hc 16 hk.1, hc 17 hk.2.1, hc 18 hk.2.2.1, hc 19 hk.2.2.2]
  exact h
theorem oq_ch {F : Nat → Nat} {n : Nat} {M M' : jM} {ks : List Nat} (hc : Ch ks M M') (hk : 16 ∉ ks ∧ 17 ∉ ks ∧ 18 ∉ ks ∧ 19 ∉ ks) (h : OQ F n M) : OQ F n M' := by
  rcases h with h | h
  · left
    rw [hc 16 hk.1]
    exact h
  · exact Or.inr (ord_ch hc hk h)
theorem rdyM_all (F : Nat → Nat) (n : Nat) : rdyM F n (2 ^ n - 1) = 0 := by
  apply Nat.eq_of_testBit_eq
  intro i
  rw [rdyM_bit, Nat.zero_testBit, all_bit]
  by_cases h : i < n
  · simp [h]
  · simp [h]
theorem onw_none {F : Nat → Nat} {n s : Nat} (hs : s < 2 ^ n) (hne : ¬ s = 2 ^ n - 1) (h : rdyM F n s = 0) : onw F n s = 0 := by
  rw [← onw_sum hs hne, smN_zero]
  intro k _
  rw [h, Nat.zero_testBit]
  rfl
theorem onw_all (F : Nat → Nat) (n : Nat) : onw F n (2 ^ n - 1) = if wto F n (2 ^ n - 1) = 0 then 0 else 1 := by
  unfold onw
  rw [won_all]
def lsC (F : Nat → Nat) (n s i : Nat) : Bool := (rdyM F n s).testBit i && decide (¬ onw F n (s ||| 2 ^ i) = 0)
theorem lsC_eq {F : Nat → Nat} {n s i : Nat} (hw : ¬ wto F n s = 0) (hi : i < n) : lsC F n s i = lsP F n s i := by
  unfold lsC lsP
  rw [rdyM_bit, decide_eq_true hw, decide_eq_true hi, Bool.true_and, Bool.true_and]
  cases e1 : s.testBit i
  · cases e2 : jnS F i s
    · simp
    · have h1 := wto_next hi e1 e2 hw
      have h2 : onw F n (s ||| 2 ^ i) = won F n (s ||| 2 ^ i) := by unfold onw; rw [if_neg h1]
      rw [h2]
      by_cases e3 : won F n (s ||| 2 ^ i) = 0
      · simp [e3]
      · have : 0 < won F n (s ||| 2 ^ i) := by omega
        simp [e3, this]
  · simp
theorem lsC_fst {F : Nat → Nat} {n s : Nat} (hw : ¬ wto F n s = 0) (z : Int) : fstN n (lsC F n s) z = fstN n (lsP F n s) z := fstN_congr (fun k hk => lsC_eq hw hk)
theorem fst_def {n : Nat} {p : Nat → Bool} {y z : Int} (h : anyN n p = true) : fstN n p y = fstN n p z := by
  obtain ⟨k, k1, k2, k3, k4⟩ := fstN_get (z := y) h
  rw [k3, fstN_hit k4 k2 k1]
theorem ls_won {F : Nat → Nat} {n s k : Nat} (hs : s < 2 ^ n) (hk : k < n) (h : lsP F n s k = true) : 0 < won F n s := by
  unfold lsP at h
  simp only [Bool.and_eq_true, Bool.not_eq_true', decide_eq_true_eq] at h
  rw [won_eq hs]
  have h1 : wnF F n s k = won F n (s ||| 2 ^ k) := by unfold wnF; rw [if_pos ⟨h.1.1, h.2⟩]
  have h2 := smN_ge (f := wnF F n s) hk
  omega
theorem lsA_wto {F : Nat → Nat} {n : Nat} (hw : 0 < won F n 0) : ∀ i, i ≤ n → ¬ wto F n (lsA F n i) = 0 := by
  intro i
  induction i with
  | zero => intro _; rw [lsA, wto_0]; decide
  | succ i ih =>
    intro hi
    obtain ⟨a1, a2, a3⟩ := lsA_ok hw i (by omega)
    obtain ⟨k, k1, k2, k3, k4, k5, k6⟩ := ls_next a1 a2 (by omega)
    rw [lsA, k2, Int.toNat_natCast]
    exact wto_next k1 k3 k5 (ih (by omega))
theorem and_p2 (r k : Nat) : r &&& 2 ^ k = if r.testBit k = true then 2 ^ k else 0 := by
  apply Nat.eq_of_testBit_eq
  intro i
  rw [Nat.testBit_and, p2_bit]
  by_cases e : k = i
  · subst e
    cases r.testBit k
    · simp
    · simp
  · have : (if r.testBit k = true then 2 ^ k else 0).testBit i = false := by
      split
      · rw [p2_bit]; exact decide_eq_false e
      · exact Nat.zero_testBit i
    rw [this, decide_eq_false e, Bool.and_false]
theorem pl_eq {n k : Nat} (F : Nat → Nat) (hk : k < n) : (rdyM F n (ndf (2 ^ n - 1) (2 ^ k))).testBit k = plQ n F k := by
  rw [rdyM_bit, rem_bit, decide_eq_true hk]
  unfold plQ
  by_cases e : wto F n (ndf (2 ^ n - 1) (2 ^ k)) = 0
  · simp [e]
  · have : 0 < wto F n (ndf (2 ^ n - 1) (2 ^ k)) := by omega
    simp [e, this]
theorem skR {n : Nat} {F : Nat → Nat} (hn : n ≤ 12) {s : Nat} (hs : s ≤ 2 ^ n) : -2147483648 ≤ skN n F s ∧ skN n F s < 2147483648 := by
  have := p4096 hn
  rcases skN_r n F s with q | q <;> omega
theorem obR {P n : Nat} {F : Nat → Nat} {s : Nat} (hs : s ≤ 128) : -2147483648 ≤ obN n F s ∧ obN n F s < 2147483648 := by
  rcases obN_r n F s with q | q <;> omega
theorem smN_le9 {m n : Nat} {f : Nat → Nat} (h : m ≤ n) : smN m f ≤ smN n f := by
  induction n with
  | zero => rw [Nat.le_zero.mp h]; exact Nat.le_refl _
  | succ n ih =>
    by_cases e : m = n + 1
    · rw [e]; exact Nat.le_refl _
    · simp only [smN]; have := ih (by omega); omega
theorem ixn {n t : Nat} (hn : n ≤ 12) (ht : t < 2 ^ n) : 0 ≤ (t : Int) ∧ (t : Int) < ((4096 : Nat) : Int) := by have := p4096 hn; omega
theorem laR {n : Nat} {F : Nat → Nat} (hn : n ≤ 12) (s : Nat) : -2147483648 ≤ (if won F n 0 = 0 then -2 else lsF F n s) ∧ (if won F n 0 = 0 then -2 else lsF F n s) < 2147483648 := by
  split
  · decide
  · exact lsF_R hn s
set_option maxRecDepth 100000 in
set_option maxHeartbeats 4000000 in
theorem ev_X2_pushOn_L5 (P D n : Nat) (F O : Nat → Nat) (M : jM) (hR : KR P D n F O M) (s : Nat) (hs : s < 2 ^ n) (hW : ∀ t : Nat, t < 2 ^ n → M 17 (t : Int) = (wpS F n s 0 t : Int))  : ∀ (fu : Nat) (M1 : jM) (x j : Nat) (f1 : Ch [17] M M1) (f2 : ∀ t : Nat, t < 2 ^ n → M1 17 (t : Int) = (wpS F n s j t : Int)) (f3 : x = mskN j (fun i => !s.testBit i && jnS F i s)) (f4 : j ≤ n) (hfu : n - j < fu), J none 1 mX2_pushOn 5 [(26, 0), (14, 0), (0, ((s : Nat) : Int)), (0, ((x : Nat) : Int)), (0, ((j : Nat) : Int)), (9, 0)] [] M1 (j_ret mX2_pushOn (fun z M' => Ch [17, 18] M M' ∧ (∀ t : Nat, t < 2 ^ n → M' 17 (t : Int) = (wpS F n s n t : Int)) ∧ M' 18 (s : Int) = ((mskN n (fun i => !s.testBit i && jnS F i s) : Nat) : Int) ∧ ∀ t : Nat, ¬ t = s → M' 18 (t : Int) = M 18 (t : Int))) := by
  intro fu
  induction fu with
  | zero => intro M1 x j f1 f2 f3 f4 hfu; exact absurd hfu (Nat.not_lt_zero _)
  | succ fu ih =>
    intro M1 x j f1 f2 f3 f4 hfu
    have hn12 := KR.hn hR
    have hP7 := KR.hP hR
    have hD5 := KR.hD hR
    have h2P : 2 ^ P ≤ 128 := Nat.pow_le_pow_right (n := 2) (by decide) hP7
    have h2p := Nat.two_pow_pos P
    have h2n := Nat.two_pow_pos n
    have h4k := p4096 hn12
    refine J_iload dX2_pushOn_5 rfl ?_
    refine J_aload_n dX2_pushOn_7 rfl ?_
    refine J_getI dX2_pushOn_8 flX2_42 rfl rfl (J_top (v := ((n : Nat) : Int)) (KR.gn (kr_ch f1 (by decide) hR)) ?_)
    refine J_icmp_ge (tgt := 66) dX2_pushOn_11 rfl (j_R (by omega)) (j_R (by omega)) (fun h11 => ?_) (fun h11 => ?_)
    ·
      refine J_aload_n dX2_pushOn_66 rfl ?_
      refine J_getR dX2_pushOn_67 flX2_15 rfl rfl ?_
      refine J_iload_n dX2_pushOn_70 rfl ?_
      refine J_iload_n dX2_pushOn_71 rfl ?_
      refine J_iast dX2_pushOn_72 rfl (by decide) (by omega) ?_
      refine J_return dX2_pushOn_73 rfl ?_
      have : j = n := by omega
      subst this
      exact ⟨Ch_up (by decide) (Ch_mo f1 (by decide)), fun t ht => by rw [j_up_ne (by decide)]; exact f2 t ht, by rw [j_up_eq, f3], fun t ht => by rw [j_up_nz (by omega), f1 18 (by decide)]⟩
    ·
      refine J_iconst dX2_pushOn_14 ?_
      refine J_iload dX2_pushOn_15 rfl ?_
      refine J_ishl dX2_pushOn_17 (J_top (v := (((2 ^ j) : Nat) : Int)) (j_shl1 rfl rfl (by omega)) ?_)
      refine J_istore (L' := [(26, 0), (14, 0), (0, ((s : Nat) : Int)), (0, ((x : Nat) : Int)), (0, ((j : Nat) : Int)), (0, (((2 ^ j) : Nat) : Int))]) dX2_pushOn_18 (by decide) rfl rfl ?_
      refine J_iload_n dX2_pushOn_20 rfl ?_
      refine J_iload dX2_pushOn_21 rfl ?_
      refine J_iand dX2_pushOn_23 (J_top (v := (((s &&& (2 ^ j)) : Nat) : Int)) (j_andN rfl rfl (by omega) (nb_p2 (by omega))) ?_)
      refine J_if_ne (tgt := 60) dX2_pushOn_24 rfl (j_R (nb_and (by omega))) (fun h24 => ?_) (fun h24 => ?_)
      ·
        refine J_iinc (v := (((j + 1) : Nat) : Int)) (L' := [(26, 0), (14, 0), (0, ((s : Nat) : Int)), (0, ((x : Nat) : Int)), (0, (((j + 1) : Nat) : Int)), (0, (((2 ^ j) : Nat) : Int))]) dX2_pushOn_60 rfl (by omega) (by decide) rfl rfl ?_
        refine J_goto (tgt := 5) dX2_pushOn_63 rfl ?_
        refine J_unset 5 (L' := [(26, 0), (14, 0), (0, ((s : Nat) : Int)), (0, ((x : Nat) : Int)), (0, (((j + 1) : Nat) : Int)), (9, 0)]) rfl ?_
        exact ih _ _ _ (by exact f1) (by intro t ht; rw [wpS_skip (Or.inl (and_p2n h24))]; exact f2 t ht) (by have a1 := and_p2n h24; rw [mskN_f (by simp [a1]), f3]) (by omega) (by omega)
      ·
        refine J_aload_n dX2_pushOn_27 rfl ?_
        refine J_iload dX2_pushOn_28 rfl ?_
        refine J_iload_n dX2_pushOn_30 rfl ?_
        refine J_callViQ (cl := mX0_fits) [(0, ((j : Nat) : Int)), (0, ((s : Nat) : Int))] [] dX2_pushOn_31 mlX2_46 cvX0_fits rfl rfl rfl rfl rfl (by decide) (Nat.le_of_ble_eq_true rfl) rfl (ev_X0_fits P D n F O M1 (kr_ch f1 (by decide) hR) j s (by omega) hs) ?_
        refine J_ifb_eq (tgt := 60) dX2_pushOn_34 rfl (fun h34 => ?_) (fun h34 => ?_)
        ·
          refine J_iinc (v := (((j + 1) : Nat) : Int)) (L' := [(26, 0), (14, 0), (0, ((s : Nat) : Int)), (0, ((x : Nat) : Int)), (0, (((j + 1) : Nat) : Int)), (0, (((2 ^ j) : Nat) : Int))]) dX2_pushOn_60 rfl (by omega) (by decide) rfl rfl ?_
          refine J_goto (tgt := 5) dX2_pushOn_63 rfl ?_
          refine J_unset 5 (L' := [(26, 0), (14, 0), (0, ((s : Nat) : Int)), (0, ((x : Nat) : Int)), (0, (((j + 1) : Nat) : Int)), (9, 0)]) rfl ?_
          exact ih _ _ _ (by exact f1) (by intro t ht; rw [wpS_skip (Or.inr h34)]; exact f2 t ht) (by rw [mskN_f (by simp [h34]), f3]) (by omega) (by omega)
        ·
          refine J_iload_n dX2_pushOn_37 rfl ?_
          refine J_iload dX2_pushOn_38 rfl ?_
          refine J_ior dX2_pushOn_40 (J_top (v := (((x ||| (2 ^ j)) : Nat) : Int)) (j_orN rfl rfl (by rw [f3]; exact mskN_31 (by omega)) (nb_p2 (by omega))) ?_)
          refine J_istore_n (L' := [(26, 0), (14, 0), (0, ((s : Nat) : Int)), (0, (((x ||| (2 ^ j)) : Nat) : Int)), (0, ((j : Nat) : Int)), (0, (((2 ^ j) : Nat) : Int))]) dX2_pushOn_41 (by decide) rfl rfl ?_
          refine J_aload_n dX2_pushOn_42 rfl ?_
          refine J_getR dX2_pushOn_43 flX2_9 rfl rfl ?_
          refine J_iload_n dX2_pushOn_46 rfl ?_
          refine J_iload dX2_pushOn_47 rfl ?_
          refine J_ior dX2_pushOn_49 (J_top (v := (((s ||| (2 ^ j)) : Nat) : Int)) (j_orN rfl rfl (by omega) (nb_p2 (by omega))) ?_)
          refine J_dup2 dX2_pushOn_50 rfl rfl ?_
          refine J_iald dX2_pushOn_51 rfl (by decide) (by have := or_bit_lt hs (by omega : j < n); omega) (J_top (v := (((wpS F n s j (s ||| 2 ^ j)) : Nat) : Int)) (f2 _ (or_bit_lt hs (by omega))) ?_)
          refine J_aload_n dX2_pushOn_52 rfl ?_
          refine J_getR dX2_pushOn_53 flX2_9 rfl rfl ?_
          refine J_iload_n dX2_pushOn_56 rfl ?_
          refine J_iald dX2_pushOn_57 rfl (by decide) (by omega) (J_top (v := (((wto F n s) : Nat) : Int)) (by rw [f2 s hs, wpS_done (Nat.le_refl _)]) ?_)
          refine J_iadd dX2_pushOn_58 (J_top (v := ((((wpS F n s j (s ||| 2 ^ j)) + (wto F n s)) : Nat) : Int)) (by omega) ?_)
          refine J_iast dX2_pushOn_59 rfl (by decide) (by have := or_bit_lt hs (by omega : j < n); omega) ?_
          refine J_iinc (v := (((j + 1) : Nat) : Int)) (L' := [(26, 0), (14, 0), (0, ((s : Nat) : Int)), (0, (((x ||| (2 ^ j)) : Nat) : Int)), (0, (((j + 1) : Nat) : Int)), (0, (((2 ^ j) : Nat) : Int))]) dX2_pushOn_60 rfl (by omega) (by decide) rfl rfl ?_
          refine J_goto (tgt := 5) dX2_pushOn_63 rfl ?_
          refine J_unset 5 (L' := [(26, 0), (14, 0), (0, ((s : Nat) : Int)), (0, (((x ||| (2 ^ j)) : Nat) : Int)), (0, (((j + 1) : Nat) : Int)), (9, 0)]) rfl ?_
          exact ih _ _ _ (by exact Ch_up (by decide) f1) (by intro t ht; by_cases e : t = s ||| 2 ^ j; rw [e, j_up_eq, wpS_add (by omega) (and_p2z h24) h34]; rw [j_up_nz (by omega), wpS_other (and_p2z h24) e]; exact f2 t ht) (by have a1 := and_p2z h24; rw [mskN_t (by simp [a1, h34]), f3]) (by omega) (by omega)
set_option maxRecDepth 100000 in
set_option maxHeartbeats 4000000 in
theorem ev_X2_pushOn (P D n : Nat) (F O : Nat → Nat) (M : jM) (hR : KR P D n F O M) (s : Nat) (hs : s < 2 ^ n) (hW : ∀ t : Nat, t < 2 ^ n → M 17 (t : Int) = (wpS F n s 0 t : Int)) : Ev 1 mX2_pushOn [(26, 0), (14, 0), (0, ((s : Nat) : Int))] M (fun z M' => Ch [17, 18] M M' ∧ (∀ t : Nat, t < 2 ^ n → M' 17 (t : Int) = (wpS F n s n t : Int)) ∧ M' 18 (s : Int) = ((mskN n (fun i => !s.testBit i && jnS F i s) : Nat) : Int) ∧ ∀ t : Nat, ¬ t = s → M' 18 (t : Int) = M 18 (t : Int)) := by
  refine Ev_of (by decide +kernel) (Nat.le_of_ble_eq_true rfl) (L := [(26, 0), (14, 0), (0, ((s : Nat) : Int)), (9, 0), (9, 0), (9, 0)]) rfl ?_
  have hn12 := KR.hn hR
  have hP7 := KR.hP hR
  have hD5 := KR.hD hR
  have h2P : 2 ^ P ≤ 128 := Nat.pow_le_pow_right (n := 2) (by decide) hP7
  have h2p := Nat.two_pow_pos P
  have h2n := Nat.two_pow_pos n
  have h4k := p4096 hn12
  refine J_iconst dX2_pushOn_0 ?_
  refine J_istore_n (L' := [(26, 0), (14, 0), (0, ((s : Nat) : Int)), (0, 0), (9, 0), (9, 0)]) dX2_pushOn_1 (by decide) rfl rfl ?_
  refine J_iconst dX2_pushOn_2 ?_
  refine J_istore (L' := [(26, 0), (14, 0), (0, ((s : Nat) : Int)), (0, 0), (0, 0), (9, 0)]) dX2_pushOn_3 (by decide) rfl rfl ?_
  refine J_eq (L' := [(26, 0), (14, 0), (0, ((s : Nat) : Int)), (0, ((0 : Nat) : Int)), (0, ((0 : Nat) : Int)), (9, 0)]) rfl rfl rfl ?_
  exact ev_X2_pushOn_L5 P D n F O M hR s hs hW  _ _ _ _ (by exact Ch_rf) (by exact hW) (by rfl) (by omega) (Nat.lt_succ_self _)
set_option maxRecDepth 100000 in
set_option maxHeartbeats 4000000 in
theorem ev_X2_fillWays_L41 (P D n : Nat) (F O : Nat → Nat) (M : jM) (hR : KR P D n F O M)  : ∀ (fu : Nat) (M2 : jM) (s : Nat) (g1 : Ch [17, 18] M M2) (g2 : ∀ t : Nat, t < 2 ^ n → M2 17 (t : Int) = (wpS F n s 0 t : Int)) (g3 : ∀ t : Nat, t < 2 ^ n → M2 18 (t : Int) = (((if t < s then rdyM F n t else 0) : Nat) : Int)) (g4 : s ≤ 2 ^ n - 1) (hfu : 2 ^ n - s < fu), J none 2 mX2_fillWays 41 [(26, 0), (14, 0), (0, (((2 ^ n - 1) : Nat) : Int)), (0, ((s : Nat) : Int))] [] M2 (j_ret mX2_fillWays (fun z M' => Ch [17, 18] M M' ∧ ∀ t : Nat, t < 2 ^ n → M' 17 (t : Int) = (wto F n t : Int) ∧ M' 18 (t : Int) = (rdyM F n t : Int))) := by
  intro fu
  induction fu with
  | zero => intro M2 s g1 g2 g3 g4 hfu; exact absurd hfu (Nat.not_lt_zero _)
  | succ fu ih =>
    intro M2 s g1 g2 g3 g4 hfu
    have hn12 := KR.hn hR
    have hP7 := KR.hP hR
    have hD5 := KR.hD hR
    have h2P : 2 ^ P ≤ 128 := Nat.pow_le_pow_right (n := 2) (by decide) hP7
    have h2p := Nat.two_pow_pos P
    have h2n := Nat.two_pow_pos n
    have h4k := p4096 hn12
    refine J_iload_n dX2_fillWays_41 rfl ?_
    refine J_iload_n dX2_fillWays_42 rfl ?_
    refine J_icmp_ge (tgt := 67) dX2_fillWays_43 rfl (j_R (by omega)) (j_R (by omega)) (fun h43 => ?_) (fun h43 => ?_)
    ·
      refine J_return dX2_fillWays_67 rfl ?_
      have hs : s = 2 ^ n - 1 := by omega
      refine ⟨g1, fun t ht => ⟨by rw [g2 t ht, wpS_done (by omega)], ?_⟩⟩
      rw [g3 t ht]
      by_cases e : t < s
      · rw [if_pos e]
      · rw [if_neg e, show t = 2 ^ n - 1 by omega, rdyM_all]
    ·
      refine J_aload_n dX2_fillWays_46 rfl ?_
      refine J_getR dX2_fillWays_47 flX2_9 rfl rfl ?_
      refine J_iload_n dX2_fillWays_50 rfl ?_
      refine J_iald dX2_fillWays_51 rfl (by decide) (by omega) (J_top (v := (((wto F n s) : Nat) : Int)) (by rw [g2 s (by omega), wpS_done (Nat.le_refl _)]) ?_)
      refine J_if_eq (tgt := 61) dX2_fillWays_52 rfl (j_R (wto31 F hn12 (by omega))) (fun h52 => ?_) (fun h52 => ?_)
      ·
        refine J_iinc (v := (((s + 1) : Nat) : Int)) (L' := [(26, 0), (14, 0), (0, (((2 ^ n - 1) : Nat) : Int)), (0, (((s + 1) : Nat) : Int))]) dX2_fillWays_61 rfl (by omega) (by decide) rfl rfl ?_
        refine J_goto (tgt := 41) dX2_fillWays_64 rfl ?_
        exact ih _ _ (by exact g1) (by intro t ht; have e0 : wto F n s = 0 := (by omega); rw [← wpS_up, wpS_zero e0]; exact g2 t ht) (by intro t ht; have e0 : wto F n s = 0 := (by omega); rw [g3 t ht]; by_cases e : t = s; rw [if_neg (by omega), if_pos (by omega), e]; unfold rdyM; rw [if_pos e0]; by_cases e2 : t < s; rw [if_pos e2, if_pos (by omega)]; rw [if_neg e2, if_neg (by omega)]) (by omega) (by omega)
      ·
        refine J_aload_n dX2_fillWays_55 rfl ?_
        refine J_aload_n dX2_fillWays_56 rfl ?_
        refine J_iload_n dX2_fillWays_57 rfl ?_
        refine J_callVv (cl := mX2_pushOn) [(14, 0), (0, ((s : Nat) : Int))] [] dX2_fillWays_58 mlX2_38 cvX2_pushOn rfl rfl rfl rfl rfl (by decide) (Nat.le_of_ble_eq_true rfl) rfl (ev_X2_pushOn P D n F O M2 (kr_ch g1 (by decide) hR) s (by omega) g2) (fun Ma hq58 => ?_)
        obtain ⟨a1, a2, a3, a4⟩ := hq58
        refine J_iinc (v := (((s + 1) : Nat) : Int)) (L' := [(26, 0), (14, 0), (0, (((2 ^ n - 1) : Nat) : Int)), (0, (((s + 1) : Nat) : Int))]) dX2_fillWays_61 rfl (by omega) (by decide) rfl rfl ?_
        refine J_goto (tgt := 41) dX2_fillWays_64 rfl ?_
        exact ih _ _ (by exact Ch_tr g1 a1) (by intro t ht; rw [← wpS_up]; exact a2 t ht) (by intro t ht; by_cases e : t = s; rw [e, a3, if_pos (by omega)]; unfold rdyM; rw [if_neg (by omega)]; rw [a4 t e, g3 t ht]; by_cases e2 : t < s; rw [if_pos e2, if_pos (by omega)]; rw [if_neg e2, if_neg (by omega)]) (by omega) (by omega)
set_option maxRecDepth 100000 in
set_option maxHeartbeats 4000000 in
theorem ev_X2_fillWays_L7 (P D n : Nat) (F O : Nat → Nat) (M : jM) (hR : KR P D n F O M)  : ∀ (fu : Nat) (M1 : jM) (s : Nat) (f1 : Ch [17, 18] M M1) (f2 : ∀ t : Nat, t < s → M1 17 (t : Int) = 0 ∧ M1 18 (t : Int) = 0) (f3 : s ≤ 2 ^ n) (hfu : 2 ^ n - s < fu), J none 2 mX2_fillWays 7 [(26, 0), (14, 0), (0, (((2 ^ n - 1) : Nat) : Int)), (0, ((s : Nat) : Int))] [] M1 (j_ret mX2_fillWays (fun z M' => Ch [17, 18] M M' ∧ ∀ t : Nat, t < 2 ^ n → M' 17 (t : Int) = (wto F n t : Int) ∧ M' 18 (t : Int) = (rdyM F n t : Int))) := by
  intro fu
  induction fu with
  | zero => intro M1 s f1 f2 f3 hfu; exact absurd hfu (Nat.not_lt_zero _)
  | succ fu ih =>
    intro M1 s f1 f2 f3 hfu
    have hn12 := KR.hn hR
    have hP7 := KR.hP hR
    have hD5 := KR.hD hR
    have h2P : 2 ^ P ≤ 128 := Nat.pow_le_pow_right (n := 2) (by decide) hP7
    have h2p := Nat.two_pow_pos P
    have h2n := Nat.two_pow_pos n
    have h4k := p4096 hn12
    refine J_iload_n dX2_fillWays_7 rfl ?_
    refine J_iload_n dX2_fillWays_8 rfl ?_
    refine J_icmp_gt (tgt := 32) dX2_fillWays_9 rfl (j_R (by omega)) (j_R (by omega)) (fun h9 => ?_) (fun h9 => ?_)
    ·
      refine J_aload_n dX2_fillWays_32 rfl ?_
      refine J_getR dX2_fillWays_33 flX2_9 rfl rfl ?_
      refine J_iconst dX2_fillWays_36 ?_
      refine J_iconst dX2_fillWays_37 ?_
      refine J_iast dX2_fillWays_38 rfl (by decide) (by omega) ?_
      refine J_iconst dX2_fillWays_39 ?_
      refine J_istore_n (L' := [(26, 0), (14, 0), (0, (((2 ^ n - 1) : Nat) : Int)), (0, 0)]) dX2_fillWays_40 (by decide) rfl rfl ?_
      refine J_eq (L' := [(26, 0), (14, 0), (0, (((2 ^ n - 1) : Nat) : Int)), (0, ((0 : Nat) : Int))]) rfl rfl rfl ?_
      exact ev_X2_fillWays_L41 P D n F O M hR  _ _ _ (by exact Ch_up (by decide) f1) (by intro t ht; rw [wpS_00]; by_cases e : t = 0; rw [e, if_pos rfl]; exact j_up_eq; rw [if_neg e, j_up_nz (by omega)]; exact (f2 t (by omega)).1) (by intro t ht; rw [if_neg (by omega), j_up_ne (by decide)]; exact (f2 t (by omega)).2) (by omega) (Nat.lt_succ_self _)
    ·
      refine J_aload_n dX2_fillWays_12 rfl ?_
      refine J_getR dX2_fillWays_13 flX2_9 rfl rfl ?_
      refine J_iload_n dX2_fillWays_16 rfl ?_
      refine J_iconst dX2_fillWays_17 ?_
      refine J_iast dX2_fillWays_18 rfl (by decide) (by omega) ?_
      refine J_aload_n dX2_fillWays_19 rfl ?_
      refine J_getR dX2_fillWays_20 flX2_15 rfl rfl ?_
      refine J_iload_n dX2_fillWays_23 rfl ?_
      refine J_iconst dX2_fillWays_24 ?_
      refine J_iast dX2_fillWays_25 rfl (by decide) (by omega) ?_
      refine J_iinc (v := (((s + 1) : Nat) : Int)) (L' := [(26, 0), (14, 0), (0, (((2 ^ n - 1) : Nat) : Int)), (0, (((s + 1) : Nat) : Int))]) dX2_fillWays_26 rfl (by omega) (by decide) rfl rfl ?_
      refine J_goto (tgt := 7) dX2_fillWays_29 rfl ?_
      exact ih _ _ (by exact Ch_up (by decide) (Ch_up (by decide) f1)) (by intro t ht; by_cases e : t = s; rw [e, j_up_ne (by decide), j_up_eq, j_up_eq]; exact ⟨rfl, rfl⟩; rw [j_up_ne (by decide), j_up_nz (by omega), j_up_nz (by omega), j_up_ne (by decide)]; exact f2 t (by omega)) (by omega) (by omega)
set_option maxRecDepth 100000 in
set_option maxHeartbeats 4000000 in
theorem ev_X2_fillWays (P D n : Nat) (F O : Nat → Nat) (M : jM) (hR : KR P D n F O M) : Ev 2 mX2_fillWays [(26, 0), (14, 0)] M (fun z M' => Ch [17, 18] M M' ∧ ∀ t : Nat, t < 2 ^ n → M' 17 (t : Int) = (wto F n t : Int) ∧ M' 18 (t : Int) = (rdyM F n t : Int)) := by
  refine Ev_of (by decide +kernel) (Nat.le_of_ble_eq_true rfl) (L := [(26, 0), (14, 0), (9, 0), (9, 0)]) rfl ?_
  have hn12 := KR.hn hR
  have hP7 := KR.hP hR
  have hD5 := KR.hD hR
  have h2P : 2 ^ P ≤ 128 := Nat.pow_le_pow_right (n := 2) (by decide) hP7
  have h2p := Nat.two_pow_pos P
  have h2n := Nat.two_pow_pos n
  have h4k := p4096 hn12
  refine J_aload_n dX2_fillWays_0 rfl ?_
  refine J_callViQ (cl := mX0_everyFacet) [] [] dX2_fillWays_1 mlX2_32 cvX0_everyFacet rfl rfl rfl rfl rfl (by decide) (Nat.le_of_ble_eq_true rfl) rfl (ev_X0_everyFacet n (KR.hn hR) M (KR.gn hR)) ?_
  refine J_istore_n (L' := [(26, 0), (14, 0), (0, (((2 ^ n - 1) : Nat) : Int)), (9, 0)]) dX2_fillWays_4 (by decide) rfl rfl ?_
  refine J_iconst dX2_fillWays_5 ?_
  refine J_istore_n (L' := [(26, 0), (14, 0), (0, (((2 ^ n - 1) : Nat) : Int)), (0, 0)]) dX2_fillWays_6 (by decide) rfl rfl ?_
  refine J_eq (L' := [(26, 0), (14, 0), (0, (((2 ^ n - 1) : Nat) : Int)), (0, ((0 : Nat) : Int))]) rfl rfl rfl ?_
  exact ev_X2_fillWays_L7 P D n F O M hR  _ _ _ (by exact Ch_rf) (by intro t ht; omega) (by omega) (Nat.lt_succ_self _)
set_option maxRecDepth 100000 in
set_option maxHeartbeats 4000000 in
theorem ev_X2_sumOnward_L5 (P D n : Nat) (F O : Nat → Nat) (M : jM) (hR : KR P D n F O M) (s : Nat) (hs : s < 2 ^ n) (hne : ¬ s = 2 ^ n - 1) (hD : M 18 (s : Int) = (rdyM F n s : Int)) (hN : ∀ t : Nat, s < t → t < 2 ^ n → M 19 (t : Int) = (onw F n t : Int))  : ∀ (fu : Nat) (j : Nat) (f1 : j ≤ n) (hfu : n - j < fu), J none 0 mX2_sumOnward 5 [(26, 0), (14, 0), (0, ((s : Nat) : Int)), (0, (((smN j (fun i => if (rdyM F n s).testBit i = true then onw F n (s ||| 2 ^ i) else 0)) : Nat) : Int)), (0, ((j : Nat) : Int)), (9, 0)] [] M (j_ret mX2_sumOnward (fun z M' => z = ((onw F n s : Nat) : Int) ∧ M' = M)) := by
  intro fu
  induction fu with
  | zero => intro j f1 hfu; exact absurd hfu (Nat.not_lt_zero _)
  | succ fu ih =>
    intro j f1 hfu
    have hn12 := KR.hn hR
    have hP7 := KR.hP hR
    have hD5 := KR.hD hR
    have h2P : 2 ^ P ≤ 128 := Nat.pow_le_pow_right (n := 2) (by decide) hP7
    have h2p := Nat.two_pow_pos P
    have h2n := Nat.two_pow_pos n
    have h4k := p4096 hn12
    refine J_iload dX2_sumOnward_5 rfl ?_
    refine J_aload_n dX2_sumOnward_7 rfl ?_
    refine J_getI dX2_sumOnward_8 flX2_42 rfl rfl (J_top (v := ((n : Nat) : Int)) (KR.gn hR) ?_)
    refine J_icmp_ge (tgt := 50) dX2_sumOnward_11 rfl (j_R (by omega)) (j_R (by omega)) (fun h11 => ?_) (fun h11 => ?_)
    ·
      refine J_iload_n dX2_sumOnward_50 rfl ?_
      refine J_ireturn dX2_sumOnward_51 rfl ?_
      have : j = n := by omega
      subst this
      exact ⟨by rw [onw_sum hs hne], rfl⟩
    ·
      refine J_iconst dX2_sumOnward_14 ?_
      refine J_iload dX2_sumOnward_15 rfl ?_
      refine J_ishl dX2_sumOnward_17 (J_top (v := (((2 ^ j) : Nat) : Int)) (j_shl1 rfl rfl (by omega)) ?_)
      refine J_istore (L' := [(26, 0), (14, 0), (0, ((s : Nat) : Int)), (0, (((smN j (fun i => if (rdyM F n s).testBit i = true then onw F n (s ||| 2 ^ i) else 0)) : Nat) : Int)), (0, ((j : Nat) : Int)), (0, (((2 ^ j) : Nat) : Int))]) dX2_sumOnward_18 (by decide) rfl rfl ?_
      refine J_aload_n dX2_sumOnward_20 rfl ?_
      refine J_getR dX2_sumOnward_21 flX2_15 rfl rfl ?_
      refine J_iload_n dX2_sumOnward_24 rfl ?_
      refine J_iald dX2_sumOnward_25 rfl (by decide) (by omega) (J_top (v := (((rdyM F n s) : Nat) : Int)) hD ?_)
      refine J_iload dX2_sumOnward_26 rfl ?_
      refine J_iand dX2_sumOnward_28 (J_top (v := ((((rdyM F n s) &&& (2 ^ j)) : Nat) : Int)) (j_andN rfl rfl (rdyM31 hn12) (nb_p2 (by omega))) ?_)
      refine J_if_eq (tgt := 44) dX2_sumOnward_29 rfl (j_R (nb_and (rdyM31 hn12))) (fun h29 => ?_) (fun h29 => ?_)
      ·
        refine J_eq (L' := [(26, 0), (14, 0), (0, ((s : Nat) : Int)), (0, (((smN (j + 1) (fun i => if (rdyM F n s).testBit i = true then onw F n (s ||| 2 ^ i) else 0)) : Nat) : Int)), (0, ((j : Nat) : Int)), (0, (((2 ^ j) : Nat) : Int))]) (by simp only [smN]; rw [and_p2z h29, if_neg (by decide), Nat.add_zero]) rfl rfl ?_
        refine J_iinc (v := (((j + 1) : Nat) : Int)) (L' := [(26, 0), (14, 0), (0, ((s : Nat) : Int)), (0, (((smN (j + 1) (fun i => if (rdyM F n s).testBit i = true then onw F n (s ||| 2 ^ i) else 0)) : Nat) : Int)), (0, (((j + 1) : Nat) : Int)), (0, (((2 ^ j) : Nat) : Int))]) dX2_sumOnward_44 rfl (by omega) (by decide) rfl rfl ?_
        refine J_goto (tgt := 5) dX2_sumOnward_47 rfl ?_
        refine J_unset 5 (L' := [(26, 0), (14, 0), (0, ((s : Nat) : Int)), (0, (((smN (j + 1) (fun i => if (rdyM F n s).testBit i = true then onw F n (s ||| 2 ^ i) else 0)) : Nat) : Int)), (0, (((j + 1) : Nat) : Int)), (9, 0)]) rfl ?_
        exact ih _ (by omega) (by omega)
      ·
        have hb9 : s.testBit j = false := by have q := and_p2n h29; rw [rdyM_bit] at q; simp only [Bool.and_eq_true, Bool.not_eq_true'] at q; exact q.2.2.1
        refine J_iload_n dX2_sumOnward_32 rfl ?_
        refine J_aload_n dX2_sumOnward_33 rfl ?_
        refine J_getR dX2_sumOnward_34 flX2_18 rfl rfl ?_
        refine J_iload_n dX2_sumOnward_37 rfl ?_
        refine J_iload dX2_sumOnward_38 rfl ?_
        refine J_ior dX2_sumOnward_40 (J_top (v := (((s ||| (2 ^ j)) : Nat) : Int)) (j_orN rfl rfl (by omega) (nb_p2 (by omega))) ?_)
        refine J_iald dX2_sumOnward_41 rfl (by decide) (by have := or_bit_lt hs (by omega : j < n); omega) (J_top (v := (((onw F n (s ||| 2 ^ j)) : Nat) : Int)) (hN _ (or_bit_gt hb9) (or_bit_lt hs (by omega))) ?_)
        refine J_iadd dX2_sumOnward_42 (J_top (v := ((((smN j (fun i => if (rdyM F n s).testBit i = true then onw F n (s ||| 2 ^ i) else 0)) + (onw F n (s ||| 2 ^ j))) : Nat) : Int)) (by omega) ?_)
        refine J_istore_n (L' := [(26, 0), (14, 0), (0, ((s : Nat) : Int)), (0, ((((smN j (fun i => if (rdyM F n s).testBit i = true then onw F n (s ||| 2 ^ i) else 0)) + (onw F n (s ||| 2 ^ j))) : Nat) : Int)), (0, ((j : Nat) : Int)), (0, (((2 ^ j) : Nat) : Int))]) dX2_sumOnward_43 (by decide) rfl rfl ?_
        refine J_eq (L' := [(26, 0), (14, 0), (0, ((s : Nat) : Int)), (0, (((smN (j + 1) (fun i => if (rdyM F n s).testBit i = true then onw F n (s ||| 2 ^ i) else 0)) : Nat) : Int)), (0, ((j : Nat) : Int)), (0, (((2 ^ j) : Nat) : Int))]) (by simp only [smN]; rw [if_pos (and_p2n h29)]) rfl rfl ?_
        refine J_iinc (v := (((j + 1) : Nat) : Int)) (L' := [(26, 0), (14, 0), (0, ((s : Nat) : Int)), (0, (((smN (j + 1) (fun i => if (rdyM F n s).testBit i = true then onw F n (s ||| 2 ^ i) else 0)) : Nat) : Int)), (0, (((j + 1) : Nat) : Int)), (0, (((2 ^ j) : Nat) : Int))]) dX2_sumOnward_44 rfl (by omega) (by decide) rfl rfl ?_
        refine J_goto (tgt := 5) dX2_sumOnward_47 rfl ?_
        refine J_unset 5 (L' := [(26, 0), (14, 0), (0, ((s : Nat) : Int)), (0, (((smN (j + 1) (fun i => if (rdyM F n s).testBit i = true then onw F n (s ||| 2 ^ i) else 0)) : Nat) : Int)), (0, (((j + 1) : Nat) : Int)), (9, 0)]) rfl ?_
        exact ih _ (by omega) (by omega)
set_option maxRecDepth 100000 in
set_option maxHeartbeats 4000000 in
theorem ev_X2_sumOnward (P D n : Nat) (F O : Nat → Nat) (M : jM) (hR : KR P D n F O M) (s : Nat) (hs : s < 2 ^ n) (hne : ¬ s = 2 ^ n - 1) (hD : M 18 (s : Int) = (rdyM F n s : Int)) (hN : ∀ t : Nat, s < t → t < 2 ^ n → M 19 (t : Int) = (onw F n t : Int)) : Ev 0 mX2_sumOnward [(26, 0), (14, 0), (0, ((s : Nat) : Int))] M (fun z M' => z = ((onw F n s : Nat) : Int) ∧ M' = M) := by
  refine Ev_of (by decide +kernel) (Nat.le_of_ble_eq_true rfl) (L := [(26, 0), (14, 0), (0, ((s : Nat) : Int)), (9, 0), (9, 0), (9, 0)]) rfl ?_
  have hn12 := KR.hn hR
  have hP7 := KR.hP hR
  have hD5 := KR.hD hR
  have h2P : 2 ^ P ≤ 128 := Nat.pow_le_pow_right (n := 2) (by decide) hP7
  have h2p := Nat.two_pow_pos P
  have h2n := Nat.two_pow_pos n
  have h4k := p4096 hn12
  refine J_iconst dX2_sumOnward_0 ?_
  refine J_istore_n (L' := [(26, 0), (14, 0), (0, ((s : Nat) : Int)), (0, 0), (9, 0), (9, 0)]) dX2_sumOnward_1 (by decide) rfl rfl ?_
  refine J_eq (L' := [(26, 0), (14, 0), (0, ((s : Nat) : Int)), (0, (((smN 0 (fun i => if (rdyM F n s).testBit i = true then onw F n (s ||| 2 ^ i) else 0)) : Nat) : Int)), (9, 0), (9, 0)]) rfl rfl rfl ?_
  refine J_iconst dX2_sumOnward_2 ?_
  refine J_istore (L' := [(26, 0), (14, 0), (0, ((s : Nat) : Int)), (0, (((smN 0 (fun i => if (rdyM F n s).testBit i = true then onw F n (s ||| 2 ^ i) else 0)) : Nat) : Int)), (0, 0), (9, 0)]) dX2_sumOnward_3 (by decide) rfl rfl ?_
  refine J_eq (L' := [(26, 0), (14, 0), (0, ((s : Nat) : Int)), (0, (((smN 0 (fun i => if (rdyM F n s).testBit i = true then onw F n (s ||| 2 ^ i) else 0)) : Nat) : Int)), (0, ((0 : Nat) : Int)), (9, 0)]) rfl rfl rfl ?_
  exact ev_X2_sumOnward_L5 P D n F O M hR s hs hne hD hN  _ _ (by omega) (Nat.lt_succ_self _)
set_option maxRecDepth 100000 in
set_option maxHeartbeats 4000000 in
theorem ev_X2_fillOnward_L29 (P D n : Nat) (F O : Nat → Nat) (M : jM) (hR : KR P D n F O M) (hT : ∀ t : Nat, t < 2 ^ n → M 17 (t : Int) = (wto F n t : Int) ∧ M 18 (t : Int) = (rdyM F n t : Int))  : ∀ (fu : Nat) (M1 : jM) (c : Nat) (f1 : Ch [19] M M1) (f2 : ∀ t : Nat, c ≤ t → t < 2 ^ n → M1 19 (t : Int) = (onw F n t : Int)) (f3 : c ≤ 2 ^ n - 1) (hfu : c < fu), J none 1 mX2_fillOnward 29 [(26, 0), (14, 0), (0, (((2 ^ n - 1) : Nat) : Int)), (0, (((c : Nat) : Int) - 1))] [] M1 (j_ret mX2_fillOnward (fun z M' => Ch [19] M M' ∧ ∀ t : Nat, t < 2 ^ n → M' 19 (t : Int) = (onw F n t : Int))) := by
  intro fu
  induction fu with
  | zero => intro M1 c f1 f2 f3 hfu; exact absurd hfu (Nat.not_lt_zero _)
  | succ fu ih =>
    intro M1 c f1 f2 f3 hfu
    have hn12 := KR.hn hR
    have hP7 := KR.hP hR
    have hD5 := KR.hD hR
    have h2P : 2 ^ P ≤ 128 := Nat.pow_le_pow_right (n := 2) (by decide) hP7
    have h2p := Nat.two_pow_pos P
    have h2n := Nat.two_pow_pos n
    have h4k := p4096 hn12
    refine J_iload_n dX2_fillOnward_29 rfl ?_
    refine J_if_lt (tgt := 64) dX2_fillOnward_30 rfl (by omega) (fun h30 => ?_) (fun h30 => ?_)
    ·
      refine J_return dX2_fillOnward_64 rfl ?_
      have : c = 0 := by omega
      subst this
      exact ⟨f1, fun t ht => f2 t (Nat.zero_le _) ht⟩
    ·
      refine J_aload_n dX2_fillOnward_33 rfl ?_
      refine J_getR dX2_fillOnward_34 flX2_18 rfl rfl ?_
      refine J_iload_n dX2_fillOnward_37 rfl (J_top (v := (((c - 1) : Nat) : Int)) (by omega) ?_)
      refine J_aload_n dX2_fillOnward_38 rfl ?_
      refine J_getR dX2_fillOnward_39 flX2_15 rfl rfl ?_
      refine J_iload_n dX2_fillOnward_42 rfl (J_top (v := (((c - 1) : Nat) : Int)) (by omega) ?_)
      refine J_iald dX2_fillOnward_43 rfl (by decide) (by omega) (J_top (v := (((rdyM F n (c - 1)) : Nat) : Int)) (by rw [f1 18 (by decide)]; exact (hT _ (by omega)).2) ?_)
      refine J_if_ne (tgt := 51) dX2_fillOnward_44 rfl (j_R (rdyM31 hn12)) (fun h44 => ?_) (fun h44 => ?_)
      ·
        refine J_aload_n dX2_fillOnward_51 rfl ?_
        refine J_aload_n dX2_fillOnward_52 rfl ?_
        refine J_iload_n dX2_fillOnward_53 rfl (J_top (v := (((c - 1) : Nat) : Int)) (by omega) ?_)
        refine J_callViQ (cl := mX2_sumOnward) [(14, 0), (0, (((c - 1) : Nat) : Int))] [(0, (((c - 1) : Nat) : Int)), (29, 0)] dX2_fillOnward_54 mlX2_50 cvX2_sumOnward rfl rfl rfl rfl rfl (by decide) (Nat.le_of_ble_eq_true rfl) rfl (ev_X2_sumOnward P D n F O M1 (kr_ch f1 (by decide) hR) (c - 1) (by omega) (by omega) (by rw [f1 18 (by decide)]; exact (hT _ (by omega)).2) (fun t h1 h2 => f2 t (by omega) h2)) ?_
        refine J_iast dX2_fillOnward_57 rfl (by decide) (by omega) ?_
        refine J_iinc (v := ((((c - 1) : Nat) : Int) - 1)) (L' := [(26, 0), (14, 0), (0, (((2 ^ n - 1) : Nat) : Int)), (0, ((((c - 1) : Nat) : Int) - 1))]) dX2_fillOnward_58 rfl (by omega) (by decide) rfl rfl ?_
        refine J_goto (tgt := 29) dX2_fillOnward_61 rfl ?_
        exact ih _ _ (by exact Ch_up (by decide) f1) (by intro t h1 h2; by_cases e : t = c - 1; rw [e, j_up_eq]; rw [j_up_nz (by omega)]; exact f2 t (by omega) h2) (by omega) (by omega)
      ·
        refine J_iconst dX2_fillOnward_47 ?_
        refine J_goto (tgt := 57) dX2_fillOnward_48 rfl ?_
        refine J_iast dX2_fillOnward_57 rfl (by decide) (by omega) ?_
        refine J_iinc (v := ((((c - 1) : Nat) : Int) - 1)) (L' := [(26, 0), (14, 0), (0, (((2 ^ n - 1) : Nat) : Int)), (0, ((((c - 1) : Nat) : Int) - 1))]) dX2_fillOnward_58 rfl (by omega) (by decide) rfl rfl ?_
        refine J_goto (tgt := 29) dX2_fillOnward_61 rfl ?_
        exact ih _ _ (by exact Ch_up (by decide) f1) (by intro t h1 h2; by_cases e : t = c - 1; rw [e, j_up_eq]; rw [onw_none (by omega) (by omega) (by omega)]; rfl; rw [j_up_nz (by omega)]; exact f2 t (by omega) h2) (by omega) (by omega)
set_option maxRecDepth 100000 in
set_option maxHeartbeats 4000000 in
theorem ev_X2_fillOnward (P D n : Nat) (F O : Nat → Nat) (M : jM) (hR : KR P D n F O M) (hT : ∀ t : Nat, t < 2 ^ n → M 17 (t : Int) = (wto F n t : Int) ∧ M 18 (t : Int) = (rdyM F n t : Int)) : Ev 1 mX2_fillOnward [(26, 0), (14, 0)] M (fun z M' => Ch [19] M M' ∧ ∀ t : Nat, t < 2 ^ n → M' 19 (t : Int) = (onw F n t : Int)) := by
  refine Ev_of (by decide +kernel) (Nat.le_of_ble_eq_true rfl) (L := [(26, 0), (14, 0), (9, 0), (9, 0)]) rfl ?_
  have hn12 := KR.hn hR
  have hP7 := KR.hP hR
  have hD5 := KR.hD hR
  have h2P : 2 ^ P ≤ 128 := Nat.pow_le_pow_right (n := 2) (by decide) hP7
  have h2p := Nat.two_pow_pos P
  have h2n := Nat.two_pow_pos n
  have h4k := p4096 hn12
  refine J_aload_n dX2_fillOnward_0 rfl ?_
  refine J_callViQ (cl := mX0_everyFacet) [] [] dX2_fillOnward_1 mlX2_32 cvX0_everyFacet rfl rfl rfl rfl rfl (by decide) (Nat.le_of_ble_eq_true rfl) rfl (ev_X0_everyFacet n (KR.hn hR) M (KR.gn hR)) ?_
  refine J_istore_n (L' := [(26, 0), (14, 0), (0, (((2 ^ n - 1) : Nat) : Int)), (9, 0)]) dX2_fillOnward_4 (by decide) rfl rfl ?_
  refine J_aload_n dX2_fillOnward_5 rfl ?_
  refine J_getR dX2_fillOnward_6 flX2_18 rfl rfl ?_
  refine J_iload_n dX2_fillOnward_9 rfl ?_
  refine J_aload_n dX2_fillOnward_10 rfl ?_
  refine J_getR dX2_fillOnward_11 flX2_9 rfl rfl ?_
  refine J_iload_n dX2_fillOnward_14 rfl ?_
  refine J_iald dX2_fillOnward_15 rfl (by decide) (by omega) (J_top (v := (((wto F n (2 ^ n - 1)) : Nat) : Int)) (hT _ (by omega)).1 ?_)
  refine J_if_ne (tgt := 23) dX2_fillOnward_16 rfl (j_R (wto31 F hn12 (by omega))) (fun h16 => ?_) (fun h16 => ?_)
  ·
    refine J_iconst dX2_fillOnward_23 ?_
    refine J_iast dX2_fillOnward_24 rfl (by decide) (by omega) ?_
    refine J_iload_n dX2_fillOnward_25 rfl ?_
    refine J_iconst dX2_fillOnward_26 ?_
    refine J_isub dX2_fillOnward_27 (J_top (v := ((((2 ^ n - 1) : Nat) : Int) - 1)) rfl ?_)
    refine J_istore_n (L' := [(26, 0), (14, 0), (0, (((2 ^ n - 1) : Nat) : Int)), (0, ((((2 ^ n - 1) : Nat) : Int) - 1))]) dX2_fillOnward_28 (by decide) rfl rfl ?_
    exact ev_X2_fillOnward_L29 P D n F O M hR hT  _ _ _ (by exact Ch_up (by decide) Ch_rf) (by intro t h1 h2; rw [show t = 2 ^ n - 1 by omega, j_up_eq, onw_all]; rw [if_neg (by omega)]; rfl) (by omega) (Nat.lt_succ_self _)
  ·
    refine J_iconst dX2_fillOnward_19 ?_
    refine J_goto (tgt := 24) dX2_fillOnward_20 rfl ?_
    refine J_iast dX2_fillOnward_24 rfl (by decide) (by omega) ?_
    refine J_iload_n dX2_fillOnward_25 rfl ?_
    refine J_iconst dX2_fillOnward_26 ?_
    refine J_isub dX2_fillOnward_27 (J_top (v := ((((2 ^ n - 1) : Nat) : Int) - 1)) rfl ?_)
    refine J_istore_n (L' := [(26, 0), (14, 0), (0, (((2 ^ n - 1) : Nat) : Int)), (0, ((((2 ^ n - 1) : Nat) : Int) - 1))]) dX2_fillOnward_28 (by decide) rfl rfl ?_
    exact ev_X2_fillOnward_L29 P D n F O M hR hT  _ _ _ (by exact Ch_up (by decide) Ch_rf) (by intro t h1 h2; rw [show t = 2 ^ n - 1 by omega, j_up_eq, onw_all]; rw [if_pos (by omega)]; rfl) (by omega) (Nat.lt_succ_self _)
set_option maxRecDepth 100000 in
set_option maxHeartbeats 4000000 in
theorem ev_X2_fill (P D n : Nat) (F O : Nat → Nat) (M : jM) (hR : KR P D n F O M) (hO : OQ F n M) : Ev 7 mX2_fill [(26, 0), (14, 0)] M (fun z M' => ORD F n M' ∧ Ch [16, 17, 18, 19] M M') := by
  refine Ev_of (by decide +kernel) (Nat.le_of_ble_eq_true rfl) (L := [(26, 0), (14, 0)]) rfl ?_
  have hn12 := KR.hn hR
  have hP7 := KR.hP hR
  have hD5 := KR.hD hR
  have h2P : 2 ^ P ≤ 128 := Nat.pow_le_pow_right (n := 2) (by decide) hP7
  have h2p := Nat.two_pow_pos P
  have h2n := Nat.two_pow_pos n
  have h4k := p4096 hn12
  refine J_aload_n dX2_fill_0 rfl ?_
  refine J_getI dX2_fill_1 flX2_21 rfl rfl ?_
  refine J_if_ne (tgt := 22) dX2_fill_4 rfl (by rcases hO with e | e; omega; have := e.1; omega) (fun h4 => ?_) (fun h4 => ?_)
  ·
    refine J_return dX2_fill_22 rfl ?_
    rcases hO with e | e
    · exact absurd e h4
    · exact ⟨e, Ch_rf⟩
  ·
    refine J_aload_n dX2_fill_7 rfl ?_
    refine J_aload_n dX2_fill_8 rfl ?_
    refine J_callVv (cl := mX2_fillWays) [(14, 0)] [] dX2_fill_9 mlX2_25 cvX2_fillWays rfl rfl rfl rfl rfl (by decide) (Nat.le_of_ble_eq_true rfl) rfl (ev_X2_fillWays P D n F O M hR) (fun Ma hq9 => ?_)
    obtain ⟨a1, a2⟩ := hq9
    refine J_aload_n dX2_fill_12 rfl ?_
    refine J_aload_n dX2_fill_13 rfl ?_
    refine J_callVv (cl := mX2_fillOnward) [(14, 0)] [] dX2_fill_14 mlX2_29 cvX2_fillOnward rfl rfl rfl rfl rfl (by decide) (Nat.le_of_ble_eq_true rfl) rfl (ev_X2_fillOnward P D n F O Ma (kr_ch a1 (by decide) hR) a2) (fun Mb hq14 => ?_)
    obtain ⟨b1, b2⟩ := hq14
    refine J_aload_n dX2_fill_17 rfl ?_
    refine J_iconst dX2_fill_18 ?_
    refine J_putI dX2_fill_19 flX2_21 rfl rfl (Or.inr ⟨rfl, Or.inr rfl⟩) ?_
    refine J_return dX2_fill_22 rfl ?_
    refine ⟨⟨j_up_eq, fun t ht => ?_⟩, Ch_up (by decide) (Ch_tr (Ch_mo a1 (by decide)) (Ch_mo b1 (by decide)))⟩
    rw [j_up_ne (by decide), j_up_ne (by decide), j_up_ne (by decide), b1 17 (by decide), b1 18 (by decide)]
    exact ⟨(a2 t ht).1, (a2 t ht).2, b2 t ht⟩
set_option maxRecDepth 100000 in
set_option maxHeartbeats 4000000 in
theorem ev_X2_leastOnward_L2 (P D n : Nat) (F O : Nat → Nat) (M : jM) (hR : KR P D n F O M) (hO : ORD F n M) (s : Nat) (hs : s < 2 ^ n)  : ∀ (fu : Nat) (k : Nat) (h1 : anyN k (lsC F n s) = false) (h2 : k ≤ n) (hfu : n - k < fu), J none 0 mX2_leastOnward 2 [(26, 0), (14, 0), (0, ((s : Nat) : Int)), (0, ((k : Nat) : Int)), (9, 0)] [] M (j_ret mX2_leastOnward (fun z M' => z = fstN n (lsC F n s) (-2) ∧ M' = M)) := by
  intro fu
  induction fu with
  | zero => intro k h1 h2 hfu; exact absurd hfu (Nat.not_lt_zero _)
  | succ fu ih =>
    intro k h1 h2 hfu
    have hn12 := KR.hn hR
    have hP7 := KR.hP hR
    have hD5 := KR.hD hR
    have h2P : 2 ^ P ≤ 128 := Nat.pow_le_pow_right (n := 2) (by decide) hP7
    have h2p := Nat.two_pow_pos P
    have h2n := Nat.two_pow_pos n
    have h4k := p4096 hn12
    refine J_iload_n dX2_leastOnward_2 rfl ?_
    refine J_aload_n dX2_leastOnward_3 rfl ?_
    refine J_getI dX2_leastOnward_4 flX2_42 rfl rfl (J_top (v := ((n : Nat) : Int)) (KR.gn hR) ?_)
    refine J_icmp_ge (tgt := 47) dX2_leastOnward_7 rfl (j_R (by omega)) (j_R (by omega)) (fun h7 => ?_) (fun h7 => ?_)
    ·
      refine J_bipush dX2_leastOnward_47 (by decide) ?_
      refine J_ireturn dX2_leastOnward_49 rfl ?_
      have : k = n := by omega
      subst this
      exact ⟨by rw [fstN_none h1], rfl⟩
    ·
      refine J_iconst dX2_leastOnward_10 ?_
      refine J_iload_n dX2_leastOnward_11 rfl ?_
      refine J_ishl dX2_leastOnward_12 (J_top (v := (((2 ^ k) : Nat) : Int)) (j_shl1 rfl rfl (by omega)) ?_)
      refine J_istore (L' := [(26, 0), (14, 0), (0, ((s : Nat) : Int)), (0, ((k : Nat) : Int)), (0, (((2 ^ k) : Nat) : Int))]) dX2_leastOnward_13 (by decide) rfl rfl ?_
      refine J_aload_n dX2_leastOnward_15 rfl ?_
      refine J_getR dX2_leastOnward_16 flX2_15 rfl rfl ?_
      refine J_iload_n dX2_leastOnward_19 rfl ?_
      refine J_iald dX2_leastOnward_20 rfl (by decide) (ixn hn12 (by omega)) (J_top (v := (((rdyM F n s) : Nat) : Int)) (hO.2 s (by omega)).2.1 ?_)
      refine J_iload dX2_leastOnward_21 rfl ?_
      refine J_iand dX2_leastOnward_23 (J_top (v := ((((rdyM F n s) &&& (2 ^ k)) : Nat) : Int)) (j_andN rfl rfl (rdyM31 hn12) (nb_p2 (by omega))) ?_)
      refine J_if_eq (tgt := 41) dX2_leastOnward_24 rfl (j_R (nb_and (rdyM31 hn12))) (fun h24 => ?_) (fun h24 => ?_)
      ·
        refine J_iinc (v := (((k + 1) : Nat) : Int)) (L' := [(26, 0), (14, 0), (0, ((s : Nat) : Int)), (0, (((k + 1) : Nat) : Int)), (0, (((2 ^ k) : Nat) : Int))]) dX2_leastOnward_41 rfl (by omega) (by decide) rfl rfl ?_
        refine J_goto (tgt := 2) dX2_leastOnward_44 rfl ?_
        refine J_unset 4 (L' := [(26, 0), (14, 0), (0, ((s : Nat) : Int)), (0, (((k + 1) : Nat) : Int)), (9, 0)]) rfl ?_
        exact ih _ (by rw [anyN_f (by unfold lsC; rw [and_p2z h24]; rfl), h1]) (by omega) (by omega)
      ·
        refine J_aload_n dX2_leastOnward_27 rfl ?_
        refine J_getR dX2_leastOnward_28 flX2_18 rfl rfl ?_
        refine J_iload_n dX2_leastOnward_31 rfl ?_
        refine J_iload dX2_leastOnward_32 rfl ?_
        refine J_ior dX2_leastOnward_34 (J_top (v := (((s ||| (2 ^ k)) : Nat) : Int)) (j_orN rfl rfl (by omega) (nb_p2 (by omega))) ?_)
        refine J_iald dX2_leastOnward_35 rfl (by decide) (ixn hn12 (or_bit_lt hs (by omega : k < n))) (J_top (v := (((onw F n (s ||| (2 ^ k))) : Nat) : Int)) (hO.2 (s ||| (2 ^ k)) (or_bit_lt hs (by omega : k < n))).2.2 ?_)
        refine J_if_eq (tgt := 41) dX2_leastOnward_36 rfl (j_R (onw31 F hn12 _)) (fun h36 => ?_) (fun h36 => ?_)
        ·
          refine J_iinc (v := (((k + 1) : Nat) : Int)) (L' := [(26, 0), (14, 0), (0, ((s : Nat) : Int)), (0, (((k + 1) : Nat) : Int)), (0, (((2 ^ k) : Nat) : Int))]) dX2_leastOnward_41 rfl (by omega) (by decide) rfl rfl ?_
          refine J_goto (tgt := 2) dX2_leastOnward_44 rfl ?_
          refine J_unset 4 (L' := [(26, 0), (14, 0), (0, ((s : Nat) : Int)), (0, (((k + 1) : Nat) : Int)), (9, 0)]) rfl ?_
          exact ih _ (by rw [anyN_f (by unfold lsC; rw [decide_eq_false (by omega), Bool.and_false]), h1]) (by omega) (by omega)
        ·
          refine J_iload_n dX2_leastOnward_39 rfl ?_
          refine J_ireturn dX2_leastOnward_40 rfl ?_
          exact ⟨by rw [fstN_hit h1 (by unfold lsC; rw [and_p2n h24, decide_eq_true (by omega)]; rfl) (by omega)], rfl⟩
set_option maxRecDepth 100000 in
set_option maxHeartbeats 4000000 in
theorem ev_X2_leastOnward (P D n : Nat) (F O : Nat → Nat) (M : jM) (hR : KR P D n F O M) (hO : ORD F n M) (s : Nat) (hs : s < 2 ^ n) : Ev 0 mX2_leastOnward [(26, 0), (14, 0), (0, ((s : Nat) : Int))] M (fun z M' => z = fstN n (lsC F n s) (-2) ∧ M' = M) := by
  refine Ev_of (by decide +kernel) (Nat.le_of_ble_eq_true rfl) (L := [(26, 0), (14, 0), (0, ((s : Nat) : Int)), (9, 0), (9, 0)]) rfl ?_
  have hn12 := KR.hn hR
  have hP7 := KR.hP hR
  have hD5 := KR.hD hR
  have h2P : 2 ^ P ≤ 128 := Nat.pow_le_pow_right (n := 2) (by decide) hP7
  have h2p := Nat.two_pow_pos P
  have h2n := Nat.two_pow_pos n
  have h4k := p4096 hn12
  refine J_iconst dX2_leastOnward_0 ?_
  refine J_istore_n (L' := [(26, 0), (14, 0), (0, ((s : Nat) : Int)), (0, 0), (9, 0)]) dX2_leastOnward_1 (by decide) rfl rfl ?_
  refine J_eq (L' := [(26, 0), (14, 0), (0, ((s : Nat) : Int)), (0, ((0 : Nat) : Int)), (9, 0)]) rfl rfl rfl ?_
  exact ev_X2_leastOnward_L2 P D n F O M hR hO s hs  _ _ (by rfl) (by omega) (Nat.lt_succ_self _)
set_option maxRecDepth 100000 in
set_option maxHeartbeats 4000000 in
theorem ev_X2_leastAt_L9 (P D n : Nat) (F O : Nat → Nat) (M : jM) (hR : KR P D n F O M) (hO : ORD F n M) (pl : Nat) (hpl : pl < n)  : ∀ (fu : Nat) (t : Nat) (last : Int) (h1 : t ≤ pl + 1) (h2 : 0 < t → last = lsF F n (lsA F n (t - 1)) ∧ 0 < won F n 0) (h4 : lsA F n t < 2 ^ n ∧ ¬ wto F n (lsA F n t) = 0) (hfu : pl + 1 - t < fu), J none 1 mX2_leastAt 9 [(26, 0), (14, 0), (0, ((pl : Nat) : Int)), (0, (((lsA F n t) : Nat) : Int)), (0, last), (0, ((t : Nat) : Int))] [] M (j_ret mX2_leastAt (fun z M' => z = (if won F n 0 = 0 then -2 else lsF F n (lsA F n pl)) ∧ M' = M)) := by
  intro fu
  induction fu with
  | zero => intro t last h1 h2 h4 hfu; exact absurd hfu (Nat.not_lt_zero _)
  | succ fu ih =>
    intro t last h1 h2 h4 hfu
    have hn12 := KR.hn hR
    have hP7 := KR.hP hR
    have hD5 := KR.hD hR
    have h2P : 2 ^ P ≤ 128 := Nat.pow_le_pow_right (n := 2) (by decide) hP7
    have h2p := Nat.two_pow_pos P
    have h2n := Nat.two_pow_pos n
    have h4k := p4096 hn12
    refine J_iload dX2_leastAt_9 rfl ?_
    refine J_iload_n dX2_leastAt_11 rfl ?_
    refine J_icmp_gt (tgt := 51) dX2_leastAt_12 rfl (j_R (by omega)) (j_R (by omega)) (fun h12 => ?_) (fun h12 => ?_)
    ·
      refine J_iload dX2_leastAt_51 rfl ?_
      refine J_ireturn dX2_leastAt_53 rfl ?_
      have ht : t = pl + 1 := by omega
      have h9 := h2 (by omega)
      exact ⟨by rw [if_neg (by omega), h9.1, ht]; rfl, rfl⟩
    ·
      refine J_iload dX2_leastAt_15 rfl ?_
      refine J_bipush dX2_leastAt_17 (by decide) ?_
      refine J_icmp_ge (tgt := 51) dX2_leastAt_19 rfl (j_R (by omega)) (by decide) (fun h19 => ?_) (fun h19 => ?_)
      · omega
      ·
        refine J_aload_n dX2_leastAt_22 rfl ?_
        refine J_aload_n dX2_leastAt_23 rfl ?_
        refine J_iload_n dX2_leastAt_24 rfl ?_
        refine J_callViQ (cl := mX2_leastOnward) [(14, 0), (0, (((lsA F n t) : Nat) : Int))] [] dX2_leastAt_25 mlX2_54 cvX2_leastOnward rfl rfl rfl rfl rfl (by decide) (Nat.le_of_ble_eq_true rfl) rfl (ev_X2_leastOnward P D n F O M hR hO (lsA F n t) h4.1) ?_
        refine J_istore (L' := [(26, 0), (14, 0), (0, ((pl : Nat) : Int)), (0, (((lsA F n t) : Nat) : Int)), (0, (fstN n (lsC F n (lsA F n t)) (-2))), (0, ((t : Nat) : Int))]) dX2_leastAt_28 (by decide) rfl rfl ?_
        refine J_iload dX2_leastAt_30 rfl ?_
        refine J_if_ge (tgt := 38) dX2_leastAt_32 rfl (fstK hR _ _) (fun h32 => ?_) (fun h32 => ?_)
        ·
          have hany : anyN n (lsC F n (lsA F n t)) = true := by
            cases q : anyN n (lsC F n (lsA F n t))
            · rw [fstN_none q] at h32; omega
            · rfl
          have e9 : (fstN n (lsC F n (lsA F n t)) (-2)) = (lsF F n (lsA F n t)) := by
            rw [lsC_fst h4.2]
            unfold lsF
            exact fst_def (by rw [← hany]; exact anyN_congr (fun k hk => (lsC_eq h4.2 hk).symm))
          have hw : 0 < won F n 0 := by
            rcases Nat.eq_zero_or_pos t with q | q
            · obtain ⟨k, k1, k2⟩ := anyN_iff.mp hany
              rw [q] at k2 h4
              rw [lsC_eq h4.2 k1] at k2
              exact ls_won h4.1 k1 k2
            · exact (h2 q).2
          obtain ⟨a1, a2, a3⟩ := lsA_ok hw t (by omega)
          obtain ⟨k9, b1, b2, b3, b4, b5, b6⟩ := ls_next a1 a2 (by omega)
          refine J_eq (L' := [(26, 0), (14, 0), (0, ((pl : Nat) : Int)), (0, (((lsA F n t) : Nat) : Int)), (0, (lsF F n (lsA F n t))), (0, ((t : Nat) : Int))]) (by rw [e9]) rfl rfl ?_
          refine J_iload_n dX2_leastAt_38 rfl ?_
          refine J_iconst dX2_leastAt_39 ?_
          refine J_iload dX2_leastAt_40 rfl (J_top (v := (((Int.toNat (lsF F n (lsA F n t))) : Nat) : Int)) (by omega) ?_)
          refine J_ishl dX2_leastAt_42 (J_top (v := (((2 ^ (Int.toNat (lsF F n (lsA F n t)))) : Nat) : Int)) (j_shl1 rfl rfl (by omega)) ?_)
          refine J_ior dX2_leastAt_43 (J_top (v := ((((lsA F n t) ||| (2 ^ (Int.toNat (lsF F n (lsA F n t))))) : Nat) : Int)) (j_orN rfl rfl (p12 hn12 h4.1) (nb_p2 (by omega))) ?_)
          refine J_istore_n (L' := [(26, 0), (14, 0), (0, ((pl : Nat) : Int)), (0, ((((lsA F n t) ||| (2 ^ (Int.toNat (lsF F n (lsA F n t))))) : Nat) : Int)), (0, (lsF F n (lsA F n t))), (0, ((t : Nat) : Int))]) dX2_leastAt_44 (by decide) rfl rfl ?_
          refine J_eq (L' := [(26, 0), (14, 0), (0, ((pl : Nat) : Int)), (0, (((lsA F n (t + 1)) : Nat) : Int)), (0, (lsF F n (lsA F n t))), (0, ((t : Nat) : Int))]) rfl rfl rfl ?_
          refine J_iinc (v := (((t + 1) : Nat) : Int)) (L' := [(26, 0), (14, 0), (0, ((pl : Nat) : Int)), (0, (((lsA F n (t + 1)) : Nat) : Int)), (0, (lsF F n (lsA F n t))), (0, (((t + 1) : Nat) : Int))]) dX2_leastAt_45 rfl (by omega) (by decide) rfl rfl ?_
          refine J_goto (tgt := 9) dX2_leastAt_48 rfl ?_
          exact ih _ _ (by omega) (by intro _; exact ⟨rfl, hw⟩) (by exact ⟨(lsA_ok hw (t + 1) (by omega)).1, lsA_wto hw (t + 1) (by omega)⟩) (by omega)
        ·
          refine J_bipush dX2_leastAt_35 (by decide) ?_
          refine J_ireturn dX2_leastAt_37 rfl ?_
          refine ⟨?_, rfl⟩
          by_cases hw : won F n 0 = 0
          · rw [if_pos hw]
          · obtain ⟨a1, a2, a3⟩ := lsA_ok (by omega : 0 < won F n 0) t (by omega)
            obtain ⟨k, b1, b2, b3, b4, b5, b6⟩ := ls_next a1 a2 (by omega)
            have e8 : anyN n (lsP F n (lsA F n t)) = true := by
              cases q : anyN n (lsP F n (lsA F n t))
              · unfold lsF at b2; rw [fstN_none q] at b2; omega
              · rfl
            rw [lsC_fst h4.2, fst_def (z := -1) e8] at h32
            unfold lsF at b2
            omega
set_option maxRecDepth 100000 in
set_option maxHeartbeats 4000000 in
theorem ev_X2_leastAt (P D n : Nat) (F O : Nat → Nat) (M : jM) (hR : KR P D n F O M) (hO : ORD F n M) (pl : Nat) (hpl : pl < n) : Ev 1 mX2_leastAt [(26, 0), (14, 0), (0, ((pl : Nat) : Int))] M (fun z M' => z = (if won F n 0 = 0 then -2 else lsF F n (lsA F n pl)) ∧ M' = M) := by
  refine Ev_of (by decide +kernel) (Nat.le_of_ble_eq_true rfl) (L := [(26, 0), (14, 0), (0, ((pl : Nat) : Int)), (9, 0), (9, 0), (9, 0)]) rfl ?_
  have hn12 := KR.hn hR
  have hP7 := KR.hP hR
  have hD5 := KR.hD hR
  have h2P : 2 ^ P ≤ 128 := Nat.pow_le_pow_right (n := 2) (by decide) hP7
  have h2p := Nat.two_pow_pos P
  have h2n := Nat.two_pow_pos n
  have h4k := p4096 hn12
  refine J_iconst dX2_leastAt_0 ?_
  refine J_istore_n (L' := [(26, 0), (14, 0), (0, ((pl : Nat) : Int)), (0, 0), (9, 0), (9, 0)]) dX2_leastAt_1 (by decide) rfl rfl ?_
  refine J_eq (L' := [(26, 0), (14, 0), (0, ((pl : Nat) : Int)), (0, (((lsA F n 0) : Nat) : Int)), (9, 0), (9, 0)]) rfl rfl rfl ?_
  refine J_bipush dX2_leastAt_2 (by decide) ?_
  refine J_istore (L' := [(26, 0), (14, 0), (0, ((pl : Nat) : Int)), (0, (((lsA F n 0) : Nat) : Int)), (0, (-2)), (9, 0)]) dX2_leastAt_4 (by decide) rfl rfl ?_
  refine J_iconst dX2_leastAt_6 ?_
  refine J_istore (L' := [(26, 0), (14, 0), (0, ((pl : Nat) : Int)), (0, (((lsA F n 0) : Nat) : Int)), (0, (-2)), (0, 0)]) dX2_leastAt_7 (by decide) rfl rfl ?_
  refine J_eq (L' := [(26, 0), (14, 0), (0, ((pl : Nat) : Int)), (0, (((lsA F n 0) : Nat) : Int)), (0, (-2)), (0, ((0 : Nat) : Int))]) rfl rfl rfl ?_
  exact ev_X2_leastAt_L9 P D n F O M hR hO pl hpl  _ _ _ (by omega) (by intro q; omega) (by exact ⟨Nat.two_pow_pos n, by rw [lsA, wto_0]; decide⟩) (Nat.lt_succ_self _)
set_option maxRecDepth 100000 in
set_option maxHeartbeats 4000000 in
theorem ev_X2_lastOnes_L4 (P D n : Nat) (F O : Nat → Nat) (M : jM) (hR : KR P D n F O M) (hO : ORD F n M)  : ∀ (fu : Nat) (x k : Nat) (h1 : x = mskN k (plQ n F)) (h2 : k ≤ n) (hfu : n - k < fu), J none 1 mX2_lastOnes 4 [(26, 0), (14, 0), (0, ((x : Nat) : Int)), (0, ((k : Nat) : Int)), (9, 0)] [] M (j_ret mX2_lastOnes (fun z M' => z = ((mskN n (plQ n F) : Nat) : Int) ∧ M' = M)) := by
  intro fu
  induction fu with
  | zero => intro x k h1 h2 hfu; exact absurd hfu (Nat.not_lt_zero _)
  | succ fu ih =>
    intro x k h1 h2 hfu
    have hn12 := KR.hn hR
    have hP7 := KR.hP hR
    have hD5 := KR.hD hR
    have h2P : 2 ^ P ≤ 128 := Nat.pow_le_pow_right (n := 2) (by decide) hP7
    have h2p := Nat.two_pow_pos P
    have h2n := Nat.two_pow_pos n
    have h4k := p4096 hn12
    refine J_iload_n dX2_lastOnes_4 rfl ?_
    refine J_aload_n dX2_lastOnes_5 rfl ?_
    refine J_getI dX2_lastOnes_6 flX2_42 rfl rfl (J_top (v := ((n : Nat) : Int)) (KR.gn hR) ?_)
    refine J_icmp_ge (tgt := 43) dX2_lastOnes_9 rfl (j_R (by omega)) (j_R (by omega)) (fun h9 => ?_) (fun h9 => ?_)
    ·
      refine J_iload_n dX2_lastOnes_43 rfl ?_
      refine J_ireturn dX2_lastOnes_44 rfl ?_
      have : k = n := by omega
      subst this
      exact ⟨by rw [h1], rfl⟩
    ·
      refine J_iconst dX2_lastOnes_12 ?_
      refine J_iload_n dX2_lastOnes_13 rfl ?_
      refine J_ishl dX2_lastOnes_14 (J_top (v := (((2 ^ k) : Nat) : Int)) (j_shl1 rfl rfl (by omega)) ?_)
      refine J_istore (L' := [(26, 0), (14, 0), (0, ((x : Nat) : Int)), (0, ((k : Nat) : Int)), (0, (((2 ^ k) : Nat) : Int))]) dX2_lastOnes_15 (by decide) rfl rfl ?_
      refine J_iload_n dX2_lastOnes_17 rfl ?_
      refine J_aload_n dX2_lastOnes_18 rfl ?_
      refine J_getR dX2_lastOnes_19 flX2_15 rfl rfl ?_
      refine J_aload_n dX2_lastOnes_22 rfl ?_
      refine J_callViQ (cl := mX0_everyFacet) [] [(28, 0), (0, ((x : Nat) : Int))] dX2_lastOnes_23 mlX2_32 cvX0_everyFacet rfl rfl rfl rfl rfl (by decide) (Nat.le_of_ble_eq_true rfl) rfl (ev_X0_everyFacet n (KR.hn hR) M (KR.gn hR)) ?_
      refine J_iload dX2_lastOnes_26 rfl ?_
      refine J_iconst dX2_lastOnes_28 ?_
      refine J_ixor dX2_lastOnes_29 (J_top (v := (-(((2 ^ k) : Nat) : Int) - 1)) (j_notN rfl (nb_p2 (by omega))) ?_)
      refine J_iand dX2_lastOnes_30 (J_top (v := (((ndf (2 ^ n - 1) (2 ^ k)) : Nat) : Int)) (j_ndfN rfl rfl (kn31 hR)) ?_)
      refine J_iald dX2_lastOnes_31 rfl (by decide) (ixn hn12 (nb_ndf (by omega : 2 ^ n - 1 < 2 ^ n))) (J_top (v := (((rdyM F n (ndf (2 ^ n - 1) (2 ^ k))) : Nat) : Int)) (hO.2 (ndf (2 ^ n - 1) (2 ^ k)) (nb_ndf (by omega : 2 ^ n - 1 < 2 ^ n))).2.1 ?_)
      refine J_iload dX2_lastOnes_32 rfl ?_
      refine J_iand dX2_lastOnes_34 (J_top (v := ((((rdyM F n (ndf (2 ^ n - 1) (2 ^ k))) &&& (2 ^ k)) : Nat) : Int)) (j_andN rfl rfl (rdyM31 hn12) (nb_p2 (by omega))) ?_)
      refine J_ior dX2_lastOnes_35 (J_top (v := (((x ||| ((rdyM F n (ndf (2 ^ n - 1) (2 ^ k))) &&& (2 ^ k))) : Nat) : Int)) (j_orN rfl rfl (by rw [h1]; exact mskN_31 (by omega)) (nb_and (rdyM31 hn12))) ?_)
      refine J_istore_n (L' := [(26, 0), (14, 0), (0, (((x ||| ((rdyM F n (ndf (2 ^ n - 1) (2 ^ k))) &&& (2 ^ k))) : Nat) : Int)), (0, ((k : Nat) : Int)), (0, (((2 ^ k) : Nat) : Int))]) dX2_lastOnes_36 (by decide) rfl rfl ?_
      refine J_iinc (v := (((k + 1) : Nat) : Int)) (L' := [(26, 0), (14, 0), (0, (((x ||| ((rdyM F n (ndf (2 ^ n - 1) (2 ^ k))) &&& (2 ^ k))) : Nat) : Int)), (0, (((k + 1) : Nat) : Int)), (0, (((2 ^ k) : Nat) : Int))]) dX2_lastOnes_37 rfl (by omega) (by decide) rfl rfl ?_
      refine J_goto (tgt := 4) dX2_lastOnes_40 rfl ?_
      refine J_unset 4 (L' := [(26, 0), (14, 0), (0, (((x ||| ((rdyM F n (ndf (2 ^ n - 1) (2 ^ k))) &&& (2 ^ k))) : Nat) : Int)), (0, (((k + 1) : Nat) : Int)), (9, 0)]) rfl ?_
      exact ih _ _ (by rw [h1, and_p2, pl_eq F (by omega)]; simp only [mskN]) (by omega) (by omega)
set_option maxRecDepth 100000 in
set_option maxHeartbeats 4000000 in
theorem ev_X2_lastOnes (P D n : Nat) (F O : Nat → Nat) (M : jM) (hR : KR P D n F O M) (hO : ORD F n M) : Ev 1 mX2_lastOnes [(26, 0), (14, 0)] M (fun z M' => z = ((mskN n (plQ n F) : Nat) : Int) ∧ M' = M) := by
  refine Ev_of (by decide +kernel) (Nat.le_of_ble_eq_true rfl) (L := [(26, 0), (14, 0), (9, 0), (9, 0), (9, 0)]) rfl ?_
  have hn12 := KR.hn hR
  have hP7 := KR.hP hR
  have hD5 := KR.hD hR
  have h2P : 2 ^ P ≤ 128 := Nat.pow_le_pow_right (n := 2) (by decide) hP7
  have h2p := Nat.two_pow_pos P
  have h2n := Nat.two_pow_pos n
  have h4k := p4096 hn12
  refine J_iconst dX2_lastOnes_0 ?_
  refine J_istore_n (L' := [(26, 0), (14, 0), (0, 0), (9, 0), (9, 0)]) dX2_lastOnes_1 (by decide) rfl rfl ?_
  refine J_iconst dX2_lastOnes_2 ?_
  refine J_istore_n (L' := [(26, 0), (14, 0), (0, 0), (0, 0), (9, 0)]) dX2_lastOnes_3 (by decide) rfl rfl ?_
  refine J_eq (L' := [(26, 0), (14, 0), (0, ((0 : Nat) : Int)), (0, ((0 : Nat) : Int)), (9, 0)]) rfl rfl rfl ?_
  exact ev_X2_lastOnes_L4 P D n F O M hR hO  _ _ _ (by rfl) (by omega) (Nat.lt_succ_self _)
set_option maxRecDepth 100000 in
set_option maxHeartbeats 4000000 in
theorem ev_X2_deadEnd_L5 (P D n : Nat) (F O : Nat → Nat) (M : jM) (hR : KR P D n F O M) (hO : ORD F n M)  : ∀ (fu : Nat) (s : Nat) (h2 : s ≤ 2 ^ n) (hfu : 2 ^ n - s < fu), J none 1 mX2_deadEnd 5 [(26, 0), (14, 0), (0, (skN n F s)), (0, ((s : Nat) : Int))] [] M (j_ret mX2_deadEnd (fun z M' => z = skN n F (2 ^ n) ∧ M' = M)) := by
  intro fu
  induction fu with
  | zero => intro s h2 hfu; exact absurd hfu (Nat.not_lt_zero _)
  | succ fu ih =>
    intro s h2 hfu
    have hn12 := KR.hn hR
    have hP7 := KR.hP hR
    have hD5 := KR.hD hR
    have h2P : 2 ^ P ≤ 128 := Nat.pow_le_pow_right (n := 2) (by decide) hP7
    have h2p := Nat.two_pow_pos P
    have h2n := Nat.two_pow_pos n
    have h4k := p4096 hn12
    refine J_iload_n dX2_deadEnd_5 rfl ?_
    refine J_aload_n dX2_deadEnd_6 rfl ?_
    refine J_callViQ (cl := mX0_everyFacet) [] [(0, ((s : Nat) : Int))] dX2_deadEnd_7 mlX2_32 cvX0_everyFacet rfl rfl rfl rfl rfl (by decide) (Nat.le_of_ble_eq_true rfl) rfl (ev_X0_everyFacet n (KR.hn hR) M (KR.gn hR)) ?_
    refine J_icmp_gt (tgt := 54) dX2_deadEnd_10 rfl (j_R (by omega)) (j_R (kn31 hR)) (fun h10 => ?_) (fun h10 => ?_)
    ·
      refine J_iload_n dX2_deadEnd_54 rfl ?_
      refine J_ireturn dX2_deadEnd_55 rfl ?_
      have : s = 2 ^ n := by omega
      subst this
      exact ⟨rfl, rfl⟩
    ·
      refine J_aload_n dX2_deadEnd_13 rfl ?_
      refine J_getR dX2_deadEnd_14 flX2_9 rfl rfl ?_
      refine J_iload_n dX2_deadEnd_17 rfl ?_
      refine J_iald dX2_deadEnd_18 rfl (by decide) (ixn hn12 (by omega)) (J_top (v := (((wto F n s) : Nat) : Int)) (hO.2 s (by omega)).1 ?_)
      refine J_if_eq (tgt := 48) dX2_deadEnd_19 rfl (j_R (wto31 F hn12 (by omega))) (fun h19 => ?_) (fun h19 => ?_)
      ·
        refine J_eq (L' := [(26, 0), (14, 0), (0, (skN n F (s + 1))), (0, ((s : Nat) : Int))]) (by simp only [skN]; rw [if_neg (fun q => by omega)]) rfl rfl ?_
        refine J_iinc (v := (((s + 1) : Nat) : Int)) (L' := [(26, 0), (14, 0), (0, (skN n F (s + 1))), (0, (((s + 1) : Nat) : Int))]) dX2_deadEnd_48 rfl (by omega) (by decide) rfl rfl ?_
        refine J_goto (tgt := 5) dX2_deadEnd_51 rfl ?_
        exact ih _ (by omega) (by omega)
      ·
        refine J_aload_n dX2_deadEnd_22 rfl ?_
        refine J_getR dX2_deadEnd_23 flX2_18 rfl rfl ?_
        refine J_iload_n dX2_deadEnd_26 rfl ?_
        refine J_iald dX2_deadEnd_27 rfl (by decide) (ixn hn12 (by omega)) (J_top (v := (((onw F n s) : Nat) : Int)) (hO.2 s (by omega)).2.2 ?_)
        refine J_if_ne (tgt := 48) dX2_deadEnd_28 rfl (j_R (onw31 F hn12 _)) (fun h28 => ?_) (fun h28 => ?_)
        ·
          refine J_eq (L' := [(26, 0), (14, 0), (0, (skN n F (s + 1))), (0, ((s : Nat) : Int))]) (by simp only [skN]; rw [if_neg (fun q => by have e8 : onw F n s = won F n s := (by unfold onw; rw [if_neg (by omega)]); omega)]) rfl rfl ?_
          refine J_iinc (v := (((s + 1) : Nat) : Int)) (L' := [(26, 0), (14, 0), (0, (skN n F (s + 1))), (0, (((s + 1) : Nat) : Int))]) dX2_deadEnd_48 rfl (by omega) (by decide) rfl rfl ?_
          refine J_goto (tgt := 5) dX2_deadEnd_51 rfl ?_
          exact ih _ (by omega) (by omega)
        ·
          refine J_iload_n dX2_deadEnd_31 rfl ?_
          refine J_if_lt (tgt := 46) dX2_deadEnd_32 rfl (skR hn12 (by omega)) (fun h32 => ?_) (fun h32 => ?_)
          ·
            refine J_iload_n dX2_deadEnd_46 rfl ?_
            refine J_istore_n (L' := [(26, 0), (14, 0), (0, ((s : Nat) : Int)), (0, ((s : Nat) : Int))]) dX2_deadEnd_47 (by decide) rfl rfl ?_
            refine J_eq (L' := [(26, 0), (14, 0), (0, (skN n F (s + 1))), (0, ((s : Nat) : Int))]) (by simp only [skN]; rw [if_pos (by have e8 : onw F n s = won F n s := (by unfold onw; rw [if_neg (by omega)]); have e7 := skN_r n F s; omega)]) rfl rfl ?_
            refine J_iinc (v := (((s + 1) : Nat) : Int)) (L' := [(26, 0), (14, 0), (0, (skN n F (s + 1))), (0, (((s + 1) : Nat) : Int))]) dX2_deadEnd_48 rfl (by omega) (by decide) rfl rfl ?_
            refine J_goto (tgt := 5) dX2_deadEnd_51 rfl ?_
            exact ih _ (by omega) (by omega)
          ·
            refine J_iload_n dX2_deadEnd_35 rfl ?_
            refine J_callSiQ (cl := mJ6_bitCount_0f7a4) [(0, ((s : Nat) : Int))] [] dX2_deadEnd_36 mlX2_57 csJ6_bitCount_0f7a4 rfl rfl (by decide) (Nat.le_of_ble_eq_true rfl) rfl (ev_bitCount s (by omega) M) ?_
            refine J_iload_n dX2_deadEnd_39 rfl (J_top (v := (((Int.toNat (skN n F s)) : Nat) : Int)) (by omega) ?_)
            refine J_callSiQ (cl := mJ6_bitCount_0f7a4) [(0, (((Int.toNat (skN n F s)) : Nat) : Int))] [(0, (((popc s) : Nat) : Int))] dX2_deadEnd_40 mlX2_57 csJ6_bitCount_0f7a4 rfl rfl (by decide) (Nat.le_of_ble_eq_true rfl) rfl (ev_bitCount (Int.toNat (skN n F s)) (by rcases skN_r n F s with q | q <;> omega) M) ?_
            refine J_icmp_ge (tgt := 48) dX2_deadEnd_43 rfl (j_R (popc_lt (by omega))) (j_R (popc_lt (by have := skR (F := F) hn12 (s := s) (by omega); omega))) (fun h43 => ?_) (fun h43 => ?_)
            ·
              refine J_eq (L' := [(26, 0), (14, 0), (0, (skN n F (s + 1))), (0, ((s : Nat) : Int))]) (by simp only [skN]; rw [if_neg (fun q => by omega)]) rfl rfl ?_
              refine J_iinc (v := (((s + 1) : Nat) : Int)) (L' := [(26, 0), (14, 0), (0, (skN n F (s + 1))), (0, (((s + 1) : Nat) : Int))]) dX2_deadEnd_48 rfl (by omega) (by decide) rfl rfl ?_
              refine J_goto (tgt := 5) dX2_deadEnd_51 rfl ?_
              exact ih _ (by omega) (by omega)
            ·
              refine J_iload_n dX2_deadEnd_46 rfl ?_
              refine J_istore_n (L' := [(26, 0), (14, 0), (0, ((s : Nat) : Int)), (0, ((s : Nat) : Int))]) dX2_deadEnd_47 (by decide) rfl rfl ?_
              refine J_eq (L' := [(26, 0), (14, 0), (0, (skN n F (s + 1))), (0, ((s : Nat) : Int))]) (by simp only [skN]; rw [if_pos (by have e8 : onw F n s = won F n s := (by unfold onw; rw [if_neg (by omega)]); have e7 := skN_r n F s; omega)]) rfl rfl ?_
              refine J_iinc (v := (((s + 1) : Nat) : Int)) (L' := [(26, 0), (14, 0), (0, (skN n F (s + 1))), (0, (((s + 1) : Nat) : Int))]) dX2_deadEnd_48 rfl (by omega) (by decide) rfl rfl ?_
              refine J_goto (tgt := 5) dX2_deadEnd_51 rfl ?_
              exact ih _ (by omega) (by omega)
set_option maxRecDepth 100000 in
set_option maxHeartbeats 4000000 in
theorem ev_X2_deadEnd (P D n : Nat) (F O : Nat → Nat) (M : jM) (hR : KR P D n F O M) (hO : ORD F n M) : Ev 1 mX2_deadEnd [(26, 0), (14, 0)] M (fun z M' => z = skN n F (2 ^ n) ∧ M' = M) := by
  refine Ev_of (by decide +kernel) (Nat.le_of_ble_eq_true rfl) (L := [(26, 0), (14, 0), (9, 0), (9, 0)]) rfl ?_
  have hn12 := KR.hn hR
  have hP7 := KR.hP hR
  have hD5 := KR.hD hR
  have h2P : 2 ^ P ≤ 128 := Nat.pow_le_pow_right (n := 2) (by decide) hP7
  have h2p := Nat.two_pow_pos P
  have h2n := Nat.two_pow_pos n
  have h4k := p4096 hn12
  refine J_bipush dX2_deadEnd_0 (by decide) ?_
  refine J_istore_n (L' := [(26, 0), (14, 0), (0, (-2)), (9, 0)]) dX2_deadEnd_2 (by decide) rfl rfl ?_
  refine J_eq (L' := [(26, 0), (14, 0), (0, (skN n F 0)), (9, 0)]) rfl rfl rfl ?_
  refine J_iconst dX2_deadEnd_3 ?_
  refine J_istore_n (L' := [(26, 0), (14, 0), (0, (skN n F 0)), (0, 0)]) dX2_deadEnd_4 (by decide) rfl rfl ?_
  refine J_eq (L' := [(26, 0), (14, 0), (0, (skN n F 0)), (0, ((0 : Nat) : Int))]) rfl rfl rfl ?_
  exact ev_X2_deadEnd_L5 P D n F O M hR hO  _ _ (by omega) (Nat.lt_succ_self _)
set_option maxRecDepth 100000 in
set_option maxHeartbeats 4000000 in
theorem ev_X2_largestBad_L5 (P D n : Nat) (F O : Nat → Nat) (M : jM) (hR : KR P D n F O M) (hO : ORD F n M)  : ∀ (fu : Nat) (s : Nat) (h2 : s ≤ 2 ^ P) (hfu : 2 ^ P - s < fu), J none 3 mX2_largestBad 5 [(26, 0), (14, 0), (0, (obN n F s)), (0, ((s : Nat) : Int))] [] M (j_ret mX2_largestBad (fun z M' => z = obN n F (2 ^ P) ∧ M' = M)) := by
  intro fu
  induction fu with
  | zero => intro s h2 hfu; exact absurd hfu (Nat.not_lt_zero _)
  | succ fu ih =>
    intro s h2 hfu
    have hn12 := KR.hn hR
    have hP7 := KR.hP hR
    have hD5 := KR.hD hR
    have h2P : 2 ^ P ≤ 128 := Nat.pow_le_pow_right (n := 2) (by decide) hP7
    have h2p := Nat.two_pow_pos P
    have h2n := Nat.two_pow_pos n
    have h4k := p4096 hn12
    refine J_iload_n dX2_largestBad_5 rfl ?_
    refine J_aload_n dX2_largestBad_6 rfl ?_
    refine J_callViQ (cl := mX0_everyPoint) [] [(0, ((s : Nat) : Int))] dX2_largestBad_7 mlX2_63 cvX0_everyPoint rfl rfl rfl rfl rfl (by decide) (Nat.le_of_ble_eq_true rfl) rfl (ev_X0_everyPoint P D n F O M hR ) ?_
    refine J_icmp_gt (tgt := 58) dX2_largestBad_10 rfl (j_R (by omega)) (j_R (kp31 hR)) (fun h10 => ?_) (fun h10 => ?_)
    ·
      refine J_iload_n dX2_largestBad_58 rfl ?_
      refine J_ireturn dX2_largestBad_59 rfl ?_
      have : s = 2 ^ P := by omega
      subst this
      exact ⟨rfl, rfl⟩
    ·
      refine J_aload_n dX2_largestBad_13 rfl ?_
      refine J_iload_n dX2_largestBad_14 rfl ?_
      refine J_callViQ (cl := mX0_isFace) [(0, ((s : Nat) : Int))] [] dX2_largestBad_15 mlX2_66 cvX0_isFace rfl rfl rfl rfl rfl (by decide) (Nat.le_of_ble_eq_true rfl) rfl (ev_X0_isFace P D n F O M hR s (by omega)) ?_
      refine J_ifb_eq (tgt := 52) dX2_largestBad_18 rfl (fun h18 => ?_) (fun h18 => ?_)
      ·
        refine J_eq (L' := [(26, 0), (14, 0), (0, (obN n F (s + 1))), (0, ((s : Nat) : Int))]) (by have e5 := lyg_isF n F s; have e8 := lk_ways (n := n) (F := F) (x := s) hn12; have e7 := obN_r n F s; simp only [obN]; rw [if_neg (fun q => by rw [h18] at e5; have := of_decide_eq_false e5.symm; omega)]) rfl rfl ?_
        refine J_iinc (v := (((s + 1) : Nat) : Int)) (L' := [(26, 0), (14, 0), (0, (obN n F (s + 1))), (0, (((s + 1) : Nat) : Int))]) dX2_largestBad_52 rfl (by omega) (by decide) rfl rfl ?_
        refine J_goto (tgt := 5) dX2_largestBad_55 rfl ?_
        exact ih _ (by omega) (by omega)
      ·
        refine J_aload_n dX2_largestBad_21 rfl ?_
        refine J_getR dX2_largestBad_22 flX2_9 rfl rfl ?_
        refine J_aload_n dX2_largestBad_25 rfl ?_
        refine J_getR dX2_largestBad_26 flX2_70 rfl rfl ?_
        refine J_iload_n dX2_largestBad_29 rfl ?_
        refine J_iald dX2_largestBad_30 rfl (by decide) (i128 (by omega)) (J_top (v := (((lyg n F s) : Nat) : Int)) (KR.gL hR (by omega)) ?_)
        refine J_iald dX2_largestBad_31 rfl (by decide) (ixn hn12 (mskN_lt n _)) (J_top (v := (((wto F n (lyg n F s)) : Nat) : Int)) (hO.2 (lyg n F s) (mskN_lt n _)).1 ?_)
        refine J_if_ne (tgt := 52) dX2_largestBad_32 rfl (j_R (wto31 F hn12 (mskN_lt n _))) (fun h32 => ?_) (fun h32 => ?_)
        ·
          refine J_eq (L' := [(26, 0), (14, 0), (0, (obN n F (s + 1))), (0, ((s : Nat) : Int))]) (by have e5 := lyg_isF n F s; have e8 := lk_ways (n := n) (F := F) (x := s) hn12; have e7 := obN_r n F s; simp only [obN]; rw [if_neg (fun q => by omega)]) rfl rfl ?_
          refine J_iinc (v := (((s + 1) : Nat) : Int)) (L' := [(26, 0), (14, 0), (0, (obN n F (s + 1))), (0, (((s + 1) : Nat) : Int))]) dX2_largestBad_52 rfl (by omega) (by decide) rfl rfl ?_
          refine J_goto (tgt := 5) dX2_largestBad_55 rfl ?_
          exact ih _ (by omega) (by omega)
        ·
          refine J_iload_n dX2_largestBad_35 rfl ?_
          refine J_if_lt (tgt := 50) dX2_largestBad_36 rfl (obR (P := P) (by omega)) (fun h36 => ?_) (fun h36 => ?_)
          ·
            refine J_iload_n dX2_largestBad_50 rfl ?_
            refine J_istore_n (L' := [(26, 0), (14, 0), (0, ((s : Nat) : Int)), (0, ((s : Nat) : Int))]) dX2_largestBad_51 (by decide) rfl rfl ?_
            refine J_eq (L' := [(26, 0), (14, 0), (0, (obN n F (s + 1))), (0, ((s : Nat) : Int))]) (by have e5 := lyg_isF n F s; have e8 := lk_ways (n := n) (F := F) (x := s) hn12; have e7 := obN_r n F s; simp only [obN]; rw [if_pos ⟨⟨by rw [h18] at e5; exact of_decide_eq_true e5.symm, by omega⟩, by omega⟩]) rfl rfl ?_
            refine J_iinc (v := (((s + 1) : Nat) : Int)) (L' := [(26, 0), (14, 0), (0, (obN n F (s + 1))), (0, (((s + 1) : Nat) : Int))]) dX2_largestBad_52 rfl (by omega) (by decide) rfl rfl ?_
            refine J_goto (tgt := 5) dX2_largestBad_55 rfl ?_
            exact ih _ (by omega) (by omega)
          ·
            refine J_iload_n dX2_largestBad_39 rfl ?_
            refine J_callSiQ (cl := mJ6_bitCount_0f7a4) [(0, ((s : Nat) : Int))] [] dX2_largestBad_40 mlX2_57 csJ6_bitCount_0f7a4 rfl rfl (by decide) (Nat.le_of_ble_eq_true rfl) rfl (ev_bitCount s (by omega) M) ?_
            refine J_iload_n dX2_largestBad_43 rfl (J_top (v := (((Int.toNat (obN n F s)) : Nat) : Int)) (by omega) ?_)
            refine J_callSiQ (cl := mJ6_bitCount_0f7a4) [(0, (((Int.toNat (obN n F s)) : Nat) : Int))] [(0, (((popc s) : Nat) : Int))] dX2_largestBad_44 mlX2_57 csJ6_bitCount_0f7a4 rfl rfl (by decide) (Nat.le_of_ble_eq_true rfl) rfl (ev_bitCount (Int.toNat (obN n F s)) (by rcases obN_r n F s with q | q <;> omega) M) ?_
            refine J_icmp_le (tgt := 52) dX2_largestBad_47 rfl (j_R (popc_lt (by omega))) (j_R (popc_lt (by have := obR (P := P) (n := n) (F := F) (s := s) (by omega); omega))) (fun h47 => ?_) (fun h47 => ?_)
            ·
              refine J_eq (L' := [(26, 0), (14, 0), (0, (obN n F (s + 1))), (0, ((s : Nat) : Int))]) (by have e5 := lyg_isF n F s; have e8 := lk_ways (n := n) (F := F) (x := s) hn12; have e7 := obN_r n F s; simp only [obN]; rw [if_neg (fun q => by omega)]) rfl rfl ?_
              refine J_iinc (v := (((s + 1) : Nat) : Int)) (L' := [(26, 0), (14, 0), (0, (obN n F (s + 1))), (0, (((s + 1) : Nat) : Int))]) dX2_largestBad_52 rfl (by omega) (by decide) rfl rfl ?_
              refine J_goto (tgt := 5) dX2_largestBad_55 rfl ?_
              exact ih _ (by omega) (by omega)
            ·
              refine J_iload_n dX2_largestBad_50 rfl ?_
              refine J_istore_n (L' := [(26, 0), (14, 0), (0, ((s : Nat) : Int)), (0, ((s : Nat) : Int))]) dX2_largestBad_51 (by decide) rfl rfl ?_
              refine J_eq (L' := [(26, 0), (14, 0), (0, (obN n F (s + 1))), (0, ((s : Nat) : Int))]) (by have e5 := lyg_isF n F s; have e8 := lk_ways (n := n) (F := F) (x := s) hn12; have e7 := obN_r n F s; simp only [obN]; rw [if_pos ⟨⟨by rw [h18] at e5; exact of_decide_eq_true e5.symm, by omega⟩, by omega⟩]) rfl rfl ?_
              refine J_iinc (v := (((s + 1) : Nat) : Int)) (L' := [(26, 0), (14, 0), (0, (obN n F (s + 1))), (0, (((s + 1) : Nat) : Int))]) dX2_largestBad_52 rfl (by omega) (by decide) rfl rfl ?_
              refine J_goto (tgt := 5) dX2_largestBad_55 rfl ?_
              exact ih _ (by omega) (by omega)
set_option maxRecDepth 100000 in
set_option maxHeartbeats 4000000 in
theorem ev_X2_largestBad (P D n : Nat) (F O : Nat → Nat) (M : jM) (hR : KR P D n F O M) (hO : ORD F n M) : Ev 3 mX2_largestBad [(26, 0), (14, 0)] M (fun z M' => z = obN n F (2 ^ P) ∧ M' = M) := by
  refine Ev_of (by decide +kernel) (Nat.le_of_ble_eq_true rfl) (L := [(26, 0), (14, 0), (9, 0), (9, 0)]) rfl ?_
  have hn12 := KR.hn hR
  have hP7 := KR.hP hR
  have hD5 := KR.hD hR
  have h2P : 2 ^ P ≤ 128 := Nat.pow_le_pow_right (n := 2) (by decide) hP7
  have h2p := Nat.two_pow_pos P
  have h2n := Nat.two_pow_pos n
  have h4k := p4096 hn12
  refine J_bipush dX2_largestBad_0 (by decide) ?_
  refine J_istore_n (L' := [(26, 0), (14, 0), (0, (-2)), (9, 0)]) dX2_largestBad_2 (by decide) rfl rfl ?_
  refine J_eq (L' := [(26, 0), (14, 0), (0, (obN n F 0)), (9, 0)]) rfl rfl rfl ?_
  refine J_iconst dX2_largestBad_3 ?_
  refine J_istore_n (L' := [(26, 0), (14, 0), (0, (obN n F 0)), (0, 0)]) dX2_largestBad_4 (by decide) rfl rfl ?_
  refine J_eq (L' := [(26, 0), (14, 0), (0, (obN n F 0)), (0, ((0 : Nat) : Int))]) rfl rfl rfl ?_
  exact ev_X2_largestBad_L5 P D n F O M hR hO  _ _ (by omega) (Nat.lt_succ_self _)
