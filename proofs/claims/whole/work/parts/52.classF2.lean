theorem KF.row {P D n : Nat} {F O : Nat → Nat} {M : jM} (h : KF P D n F O M) : ∀ i : Nat, i < n → M 5 (i : Int) = (F i : Int) ∧ F i < 128 := fun i hi => ⟨h.gF hi, h.fb hi⟩
/-- the rows of facets alone -/
def KB (n : Nat) (F : Nat → Nat) (M : jM) : Prop := n ≤ 12 ∧ M 4 2 = (n : Int) ∧ ∀ i : Nat, i < n → M 5 (i : Int) = (F i : Int) ∧ F i < 128
theorem kb_ch {n : Nat} {F : Nat → Nat} {M M' : jM} {ks : List Nat} (hc : Ch ks M M') (hk : 4 ∉ ks ∧ 5 ∉ ks) (h : KB n F M) : KB n F M' := by
  unfold KB at h ⊢
  rw [hc 4 hk.1, hc 5 hk.2]
  exact h
theorem tr_eq {x p q : Nat} (hpq : ¬ p = q) (h : ¬ ((popc (x &&& (2 ^ p ||| 2 ^ q)) : Nat) : Int) = 1) : x.testBit p = x.testBit q := by
  rw [tr_pop hpq] at h
  cases h1 : x.testBit p <;> cases h2 : x.testBit q <;> simp_all
theorem tr_ne {x p q : Nat} (hpq : ¬ p = q) (h : ((popc (x &&& (2 ^ p ||| 2 ^ q)) : Nat) : Int) = 1) : ¬ x.testBit p = x.testBit q := by
  rw [tr_pop hpq] at h
  cases h1 : x.testBit p <;> cases h2 : x.testBit q <;> simp_all
set_option maxRecDepth 100000 in
set_option maxHeartbeats 4000000 in
theorem ev_X0_recountHaving_L17 (n : Nat) (F : Nat → Nat) (M : jM) (hB : KB n F M) (p : Nat) (hp : p < 7) (K0 : ∀ (M3 : jM) (c1 : Ch [6] M M3) (c2 : ∀ q : Nat, q < p + 1 → M3 6 (q : Int) = (hvg n F q : Int)), J none 0 mX0_recountHaving 52 [(14, 0), (0, ((p : Nat) : Int)), (9, 0)] [] M3 (j_ret mX0_recountHaving (fun z M' => Ch [6] M M' ∧ ∀ q : Nat, q < 7 → M' 6 (q : Int) = (hvg n F q : Int)))) : ∀ (fu : Nat) (M2 : jM) (i : Nat) (g1 : Ch [6] M M2) (g2 : ∀ q : Nat, q < p → M2 6 (q : Int) = (hvg n F q : Int)) (g3 : M2 6 (p : Int) = ((mskN i (fun i => (F i).testBit p) : Nat) : Int)) (g4 : i ≤ n) (hfu : n - i < fu), J none 0 mX0_recountHaving 17 [(14, 0), (0, ((p : Nat) : Int)), (0, ((i : Nat) : Int))] [] M2 (j_ret mX0_recountHaving (fun z M' => Ch [6] M M' ∧ ∀ q : Nat, q < 7 → M' 6 (q : Int) = (hvg n F q : Int))) := by
  intro fu
  induction fu with
  | zero => intro M2 i g1 g2 g3 g4 hfu; exact absurd hfu (Nat.not_lt_zero _)
  | succ fu ih =>
    intro M2 i g1 g2 g3 g4 hfu
    have hn12 := hB.1
    refine J_iload_n dX0_recountHaving_17 rfl ?_
    refine J_aload_n dX0_recountHaving_18 rfl ?_
    refine J_getI dX0_recountHaving_19 flX0_41 rfl rfl (J_top (v := ((n : Nat) : Int)) (by exact (kb_ch g1 (by decide) hB).2.1) ?_)
    refine J_icmp_ge (tgt := 52) dX0_recountHaving_22 rfl (j_R (by omega)) (j_R (by omega)) (fun h22 => ?_) (fun h22 => ?_)
    ·
      refine J_unset 2 (L' := [(14, 0), (0, ((p : Nat) : Int)), (9, 0)]) rfl ?_
      exact K0 _ (by exact g1) (by intro q hq; rcases Nat.lt_or_ge q p with e | e; exact g2 q e; rw [show q = p by omega, g3, show i = n by omega]; rfl)
    ·
      refine J_aload_n dX0_recountHaving_25 rfl ?_
      refine J_getR dX0_recountHaving_26 flX0_15 rfl rfl ?_
      refine J_iload_n dX0_recountHaving_29 rfl ?_
      refine J_dup2 dX0_recountHaving_30 rfl rfl ?_
      refine J_iald dX0_recountHaving_31 rfl (by decide) (by omega) (J_top (v := (((mskN i (fun i => (F i).testBit p)) : Nat) : Int)) g3 ?_)
      refine J_aload_n dX0_recountHaving_32 rfl ?_
      refine J_getR dX0_recountHaving_33 flX0_9 rfl rfl ?_
      refine J_iload_n dX0_recountHaving_36 rfl ?_
      refine J_iald dX0_recountHaving_37 rfl (by decide) (by omega) (J_top (v := (((F i) : Nat) : Int)) (by exact ((kb_ch g1 (by decide) hB).2.2 i (by omega)).1) ?_)
      refine J_iload_n dX0_recountHaving_38 rfl ?_
      refine J_ishr dX0_recountHaving_39 (J_top (v := ((((F i) >>> p) : Nat) : Int)) (j_shrN rfl rfl (by have := (hB.2.2 i (by omega)).2; omega) (by omega)) ?_)
      refine J_iconst dX0_recountHaving_40 ?_
      refine J_iand dX0_recountHaving_41 (J_top (v := ((Bool.toNat (Nat.testBit (F i) p) : Nat) : Int)) ((j_andN rfl rfl (nb_shr (by have := (hB.2.2 i (by omega)).2; omega)) (by decide)).trans (congrArg Nat.cast (bit_one _ _))) ?_)
      refine J_iload_n dX0_recountHaving_42 rfl ?_
      refine J_ishl dX0_recountHaving_43 (J_top (v := (((if Nat.testBit (F i) p = true then 2 ^ i else 0) : Nat) : Int)) (j_shlB (by omega)) ?_)
      refine J_ior dX0_recountHaving_44 (J_top (v := ((((mskN i (fun i => (F i).testBit p)) ||| (if Nat.testBit (F i) p = true then 2 ^ i else 0)) : Nat) : Int)) (j_orN rfl rfl (mskN_31 (by omega)) (if2 _ (by omega))) ?_)
      refine J_iast dX0_recountHaving_45 rfl (by decide) (by omega) ?_
      refine J_iinc (v := (((i + 1) : Nat) : Int)) (L' := [(14, 0), (0, ((p : Nat) : Int)), (0, (((i + 1) : Nat) : Int))]) dX0_recountHaving_46 rfl (by omega) (by decide) rfl rfl ?_
      refine J_goto (tgt := 17) dX0_recountHaving_49 rfl ?_
      exact ih _ _ (by exact Ch_up (by decide) g1) (by intro q hq; rw [j_up_nz (by omega)]; exact g2 q hq) (by rw [j_up_eq]; rfl) (by omega) (by omega)
set_option maxRecDepth 100000 in
set_option maxHeartbeats 4000000 in
theorem ev_X0_recountHaving_L2 (n : Nat) (F : Nat → Nat) (M : jM) (hB : KB n F M)  : ∀ (fu : Nat) (M1 : jM) (p : Nat) (f1 : Ch [6] M M1) (f2 : ∀ q : Nat, q < p → M1 6 (q : Int) = (hvg n F q : Int)) (f3 : p ≤ 7) (hfu : 7 - p < fu), J none 0 mX0_recountHaving 2 [(14, 0), (0, ((p : Nat) : Int)), (9, 0)] [] M1 (j_ret mX0_recountHaving (fun z M' => Ch [6] M M' ∧ ∀ q : Nat, q < 7 → M' 6 (q : Int) = (hvg n F q : Int))) := by
  intro fu
  induction fu with
  | zero => intro M1 p f1 f2 f3 hfu; exact absurd hfu (Nat.not_lt_zero _)
  | succ fu ih =>
    intro M1 p f1 f2 f3 hfu
    have hn12 := hB.1
    refine J_iload_n dX0_recountHaving_2 rfl ?_
    refine J_bipush dX0_recountHaving_3 (by decide) ?_
    refine J_icmp_ge (tgt := 58) dX0_recountHaving_5 rfl (j_R (by omega)) (by decide) (fun h5 => ?_) (fun h5 => ?_)
    ·
      refine J_return dX0_recountHaving_58 rfl ?_
      exact ⟨f1, fun q hq => f2 q (by omega)⟩
    ·
      refine J_aload_n dX0_recountHaving_8 rfl ?_
      refine J_getR dX0_recountHaving_9 flX0_15 rfl rfl ?_
      refine J_iload_n dX0_recountHaving_12 rfl ?_
      refine J_iconst dX0_recountHaving_13 ?_
      refine J_iast dX0_recountHaving_14 rfl (by decide) (by omega) ?_
      refine J_iconst dX0_recountHaving_15 ?_
      refine J_istore_n (L' := [(14, 0), (0, ((p : Nat) : Int)), (0, 0)]) dX0_recountHaving_16 (by decide) rfl rfl ?_
      refine J_eq (L' := [(14, 0), (0, ((p : Nat) : Int)), (0, ((0 : Nat) : Int))]) rfl rfl rfl ?_
      refine ev_X0_recountHaving_L17 n F M hB p (by omega) (fun M3 c1 c2 => ?_) _ _ _ (by exact Ch_up (by decide) f1) (by intro q hq; rw [j_up_nz (by omega)]; exact f2 q hq) (by rw [j_up_eq]; rfl) (by omega) (Nat.lt_succ_self _)
      ·
        refine J_iinc (v := (((p + 1) : Nat) : Int)) (L' := [(14, 0), (0, (((p + 1) : Nat) : Int)), (9, 0)]) dX0_recountHaving_52 rfl (by omega) (by decide) rfl rfl ?_
        refine J_goto (tgt := 2) dX0_recountHaving_55 rfl ?_
        exact ih _ _ (by exact c1) (by exact c2) (by omega) (by omega)
set_option maxRecDepth 100000 in
set_option maxHeartbeats 4000000 in
theorem ev_X0_recountHaving (n : Nat) (F : Nat → Nat) (M : jM) (hB : KB n F M) : Ev 0 mX0_recountHaving [(14, 0)] M (fun z M' => Ch [6] M M' ∧ ∀ q : Nat, q < 7 → M' 6 (q : Int) = (hvg n F q : Int)) := by
  refine Ev_of (by decide +kernel) (Nat.le_of_ble_eq_true rfl) (L := [(14, 0), (9, 0), (9, 0)]) rfl ?_
  have hn12 := hB.1
  refine J_iconst dX0_recountHaving_0 ?_
  refine J_istore_n (L' := [(14, 0), (0, 0), (9, 0)]) dX0_recountHaving_1 (by decide) rfl rfl ?_
  refine J_eq (L' := [(14, 0), (0, ((0 : Nat) : Int)), (9, 0)]) rfl rfl rfl ?_
  exact ev_X0_recountHaving_L2 n F M hB  _ _ _ (by exact Ch_rf) (by intro q hq; omega) (by omega) (Nat.lt_succ_self _)
set_option maxRecDepth 100000 in
set_option maxHeartbeats 4000000 in
theorem ev_X0_recountLying_L24 (n : Nat) (F : Nat → Nat) (M : jM) (hB : KB n F M) (hH : ∀ p : Nat, p < 7 → M 6 (p : Int) = (hvg n F p : Int)) (p : Nat) (hp : p < 7) (K0 : ∀ (M3 : jM) (c1 : Ch [7] M M3) (c2 : ∀ s : Nat, s < 2 ^ (p + 1) → M3 7 (s : Int) = (lyg n F s : Int)), J none 1 mX0_recountLying 56 [(14, 0), (0, ((p : Nat) : Int)), (9, 0), (9, 0)] [] M3 (j_ret mX0_recountLying (fun z M' => Ch [7] M M' ∧ ∀ s : Nat, s < 128 → M' 7 (s : Int) = (lyg n F s : Int)))) : ∀ (fu : Nat) (M2 : jM) (b : Nat) (g1 : Ch [7] M M2) (g2 : ∀ s : Nat, s < 2 ^ p + b → M2 7 (s : Int) = (lyg n F s : Int)) (g3 : b ≤ 2 ^ p) (hfu : 2 ^ p - b < fu), J none 1 mX0_recountLying 24 [(14, 0), (0, ((p : Nat) : Int)), (0, (((2 ^ p) : Nat) : Int)), (0, ((b : Nat) : Int))] [] M2 (j_ret mX0_recountLying (fun z M' => Ch [7] M M' ∧ ∀ s : Nat, s < 128 → M' 7 (s : Int) = (lyg n F s : Int))) := by
  intro fu
  induction fu with
  | zero => intro M2 b g1 g2 g3 hfu; exact absurd hfu (Nat.not_lt_zero _)
  | succ fu ih =>
    intro M2 b g1 g2 g3 hfu
    have hn12 := hB.1
    have h64 : 2 ^ p ≤ 64 := Nat.pow_le_pow_right (n := 2) (by decide) (by omega : p ≤ 6)
    refine J_iload_n dX0_recountLying_24 rfl ?_
    refine J_iload_n dX0_recountLying_25 rfl ?_
    refine J_icmp_ge (tgt := 56) dX0_recountLying_26 rfl (j_R (by omega)) (j_R (nb_p2 (by omega))) (fun h26 => ?_) (fun h26 => ?_)
    ·
      refine J_unset 2 (L' := [(14, 0), (0, ((p : Nat) : Int)), (9, 0), (0, ((b : Nat) : Int))]) rfl ?_
      refine J_unset 3 (L' := [(14, 0), (0, ((p : Nat) : Int)), (9, 0), (9, 0)]) rfl ?_
      exact K0 _ (by exact g1) (by intro s hs; have h9 : 2 ^ (p + 1) = 2 ^ p * 2 := Nat.pow_succ 2 p; exact g2 s (by omega))
    ·
      refine J_aload_n dX0_recountLying_29 rfl ?_
      refine J_getR dX0_recountLying_30 flX0_18 rfl rfl ?_
      refine J_iload_n dX0_recountLying_33 rfl ?_
      refine J_iload_n dX0_recountLying_34 rfl ?_
      refine J_ior dX0_recountLying_35 (J_top (v := (((2 ^ p + b) : Nat) : Int)) (j_orP (by omega) h64) ?_)
      refine J_aload_n dX0_recountLying_36 rfl ?_
      refine J_getR dX0_recountLying_37 flX0_18 rfl rfl ?_
      refine J_iload_n dX0_recountLying_40 rfl ?_
      refine J_iald dX0_recountLying_41 rfl (by decide) (by omega) (J_top (v := (((lyg n F b) : Nat) : Int)) (g2 b (by omega)) ?_)
      refine J_aload_n dX0_recountLying_42 rfl ?_
      refine J_getR dX0_recountLying_43 flX0_15 rfl rfl ?_
      refine J_iload_n dX0_recountLying_46 rfl ?_
      refine J_iald dX0_recountLying_47 rfl (by decide) (by omega) (J_top (v := (((hvg n F p) : Nat) : Int)) (by rw [g1 6 (by decide)]; exact hH p (by omega)) ?_)
      refine J_iand dX0_recountLying_48 (J_top (v := ((((lyg n F b) &&& (hvg n F p)) : Nat) : Int)) (j_andN rfl rfl (lyg31 hn12 F _) (hvg31 hn12 F _)) ?_)
      refine J_iast dX0_recountLying_49 rfl (by decide) (by omega) ?_
      refine J_iinc (v := (((b + 1) : Nat) : Int)) (L' := [(14, 0), (0, ((p : Nat) : Int)), (0, (((2 ^ p) : Nat) : Int)), (0, (((b + 1) : Nat) : Int))]) dX0_recountLying_50 rfl (by omega) (by decide) rfl rfl ?_
      refine J_goto (tgt := 24) dX0_recountLying_53 rfl ?_
      exact ih _ _ (by exact Ch_up (by decide) g1) (by intro s hs; by_cases e : s = 2 ^ p + b; rw [e, j_up_eq, lyg_or (by omega)]; rw [j_up_nz (by omega)]; exact g2 s (by omega)) (by omega) (by omega)
set_option maxRecDepth 100000 in
set_option maxHeartbeats 4000000 in
theorem ev_X0_recountLying_L12 (n : Nat) (F : Nat → Nat) (M : jM) (hB : KB n F M) (hH : ∀ p : Nat, p < 7 → M 6 (p : Int) = (hvg n F p : Int))  : ∀ (fu : Nat) (M1 : jM) (p : Nat) (f1 : Ch [7] M M1) (f2 : ∀ s : Nat, s < 2 ^ p → M1 7 (s : Int) = (lyg n F s : Int)) (f3 : p ≤ 7) (hfu : 7 - p < fu), J none 1 mX0_recountLying 12 [(14, 0), (0, ((p : Nat) : Int)), (9, 0), (9, 0)] [] M1 (j_ret mX0_recountLying (fun z M' => Ch [7] M M' ∧ ∀ s : Nat, s < 128 → M' 7 (s : Int) = (lyg n F s : Int))) := by
  intro fu
  induction fu with
  | zero => intro M1 p f1 f2 f3 hfu; exact absurd hfu (Nat.not_lt_zero _)
  | succ fu ih =>
    intro M1 p f1 f2 f3 hfu
    have hn12 := hB.1
    refine J_iload_n dX0_recountLying_12 rfl ?_
    refine J_bipush dX0_recountLying_13 (by decide) ?_
    refine J_icmp_ge (tgt := 62) dX0_recountLying_15 rfl (j_R (by omega)) (by decide) (fun h15 => ?_) (fun h15 => ?_)
    ·
      refine J_return dX0_recountLying_62 rfl ?_
      have : p = 7 := by omega
      subst this
      exact ⟨f1, f2⟩
    ·
      have h64 : 2 ^ p ≤ 64 := Nat.pow_le_pow_right (n := 2) (by decide) (by omega : p ≤ 6)
      refine J_iconst dX0_recountLying_18 ?_
      refine J_iload_n dX0_recountLying_19 rfl ?_
      refine J_ishl dX0_recountLying_20 (J_top (v := (((2 ^ p) : Nat) : Int)) (j_shl1 rfl rfl (by omega)) ?_)
      refine J_istore_n (L' := [(14, 0), (0, ((p : Nat) : Int)), (0, (((2 ^ p) : Nat) : Int)), (9, 0)]) dX0_recountLying_21 (by decide) rfl rfl ?_
      refine J_iconst dX0_recountLying_22 ?_
      refine J_istore_n (L' := [(14, 0), (0, ((p : Nat) : Int)), (0, (((2 ^ p) : Nat) : Int)), (0, 0)]) dX0_recountLying_23 (by decide) rfl rfl ?_
      refine J_eq (L' := [(14, 0), (0, ((p : Nat) : Int)), (0, (((2 ^ p) : Nat) : Int)), (0, ((0 : Nat) : Int))]) rfl rfl rfl ?_
      refine ev_X0_recountLying_L24 n F M hB hH p (by omega) (fun M3 c1 c2 => ?_) _ _ _ (by exact f1) (by intro s hs; exact f2 s (by omega)) (by exact Nat.zero_le _) (Nat.lt_succ_self _)
      ·
        refine J_iinc (v := (((p + 1) : Nat) : Int)) (L' := [(14, 0), (0, (((p + 1) : Nat) : Int)), (9, 0), (9, 0)]) dX0_recountLying_56 rfl (by omega) (by decide) rfl rfl ?_
        refine J_goto (tgt := 12) dX0_recountLying_59 rfl ?_
        exact ih _ _ (by exact c1) (by exact c2) (by omega) (by omega)
set_option maxRecDepth 100000 in
set_option maxHeartbeats 4000000 in
theorem ev_X0_recountLying (n : Nat) (F : Nat → Nat) (M : jM) (hB : KB n F M) (hH : ∀ p : Nat, p < 7 → M 6 (p : Int) = (hvg n F p : Int)) : Ev 1 mX0_recountLying [(14, 0)] M (fun z M' => Ch [7] M M' ∧ ∀ s : Nat, s < 128 → M' 7 (s : Int) = (lyg n F s : Int)) := by
  refine Ev_of (by decide +kernel) (Nat.le_of_ble_eq_true rfl) (L := [(14, 0), (9, 0), (9, 0), (9, 0)]) rfl ?_
  have hn12 := hB.1
  refine J_aload_n dX0_recountLying_0 rfl ?_
  refine J_getR dX0_recountLying_1 flX0_18 rfl rfl ?_
  refine J_iconst dX0_recountLying_4 ?_
  refine J_aload_n dX0_recountLying_5 rfl ?_
  refine J_callViQ (cl := mX0_everyFacet) [] [(0, 0), (17, 0)] dX0_recountLying_6 mlX0_58 cvX0_everyFacet rfl rfl rfl rfl rfl (by decide) (Nat.le_of_ble_eq_true rfl) rfl (ev_X0_everyFacet n hn12 M hB.2.1) ?_
  refine J_iast dX0_recountLying_9 rfl (by decide) (by omega) ?_
  refine J_iconst dX0_recountLying_10 ?_
  refine J_istore_n (L' := [(14, 0), (0, 0), (9, 0), (9, 0)]) dX0_recountLying_11 (by decide) rfl rfl ?_
  refine J_eq (L' := [(14, 0), (0, ((0 : Nat) : Int)), (9, 0), (9, 0)]) rfl rfl rfl ?_
  exact ev_X0_recountLying_L12 n F M hB hH  _ _ _ (by exact Ch_up (by decide) Ch_rf) (by intro s hs; rw [show s = 0 by omega]; rw [show ((0 : Nat) : Int) = 0 from rfl, j_up_eq, lyg_0]) (by omega) (Nat.lt_succ_self _)
set_option maxRecDepth 100000 in
set_option maxHeartbeats 4000000 in
theorem ev_X0_recountAcross_L12 (n : Nat) (F : Nat → Nat) (M : jM) (hB : KB n F M) (hH : ∀ p : Nat, p < 7 → M 6 (p : Int) = (hvg n F p : Int)) (hL : ∀ s : Nat, s < 128 → M 7 (s : Int) = (lyg n F s : Int)) (i : Nat) (hi : i < n) (K0 : ∀ (M3 : jM) (c1 : Ch [8] M M3) (c2 : ∀ j q : Nat, j < i + 1 → q < 7 → M3 8 ((j * 7 + q : Nat) : Int) = (acr n F j q : Int)), J none 0 mX0_recountAcross 90 [(14, 0), (0, ((i : Nat) : Int)), (9, 0), (9, 0), (9, 0)] [] M3 (j_ret mX0_recountAcross (fun z M' => Ch [8] M M' ∧ ∀ j q : Nat, j < n → q < 7 → M' 8 ((j * 7 + q : Nat) : Int) = (acr n F j q : Int)))) : ∀ (fu : Nat) (M2 : jM) (p : Nat) (g1 : Ch [8] M M2) (g2 : ∀ j q : Nat, j < i → q < 7 → M2 8 ((j * 7 + q : Nat) : Int) = (acr n F j q : Int)) (g3 : ∀ q : Nat, q < p → M2 8 ((i * 7 + q : Nat) : Int) = (acr n F i q : Int)) (g4 : p ≤ 7) (hfu : 7 - p < fu), J none 0 mX0_recountAcross 12 [(14, 0), (0, ((i : Nat) : Int)), (0, ((p : Nat) : Int)), (9, 0), (9, 0)] [] M2 (j_ret mX0_recountAcross (fun z M' => Ch [8] M M' ∧ ∀ j q : Nat, j < n → q < 7 → M' 8 ((j * 7 + q : Nat) : Int) = (acr n F j q : Int))) := by
  intro fu
  induction fu with
  | zero => intro M2 p g1 g2 g3 g4 hfu; exact absurd hfu (Nat.not_lt_zero _)
  | succ fu ih =>
    intro M2 p g1 g2 g3 g4 hfu
    have hn12 := hB.1
    refine J_iload_n dX0_recountAcross_12 rfl ?_
    refine J_bipush dX0_recountAcross_13 (by decide) ?_
    refine J_icmp_ge (tgt := 90) dX0_recountAcross_15 rfl (j_R (by omega)) (by decide) (fun h15 => ?_) (fun h15 => ?_)
    ·
      refine J_unset 2 (L' := [(14, 0), (0, ((i : Nat) : Int)), (9, 0), (9, 0), (9, 0)]) rfl ?_
      exact K0 _ (by exact g1) (by intro j q hj hq; by_cases e : j = i; rw [e]; exact g3 q (by omega); exact g2 j q (by omega) hq)
    ·
      refine J_iconst dX0_recountAcross_18 ?_
      refine J_iload_n dX0_recountAcross_19 rfl ?_
      refine J_ishl dX0_recountAcross_20 (J_top (v := (((2 ^ p) : Nat) : Int)) (j_shl1 rfl rfl (by omega)) ?_)
      refine J_istore_n (L' := [(14, 0), (0, ((i : Nat) : Int)), (0, ((p : Nat) : Int)), (0, (((2 ^ p) : Nat) : Int)), (9, 0)]) dX0_recountAcross_21 (by decide) rfl rfl ?_
      refine J_aload_n dX0_recountAcross_22 rfl ?_
      refine J_getR dX0_recountAcross_23 flX0_9 rfl rfl ?_
      refine J_iload_n dX0_recountAcross_26 rfl ?_
      refine J_iald dX0_recountAcross_27 rfl (by decide) (by omega) (J_top (v := (((F i) : Nat) : Int)) (by exact ((kb_ch g1 (by decide) hB).2.2 i (by omega)).1) ?_)
      refine J_iload_n dX0_recountAcross_28 rfl ?_
      refine J_iand dX0_recountAcross_29 (J_top (v := ((((F i) &&& (2 ^ p)) : Nat) : Int)) (j_andN rfl rfl (by have := (hB.2.2 i (by omega)).2; omega) (nb_p2 (by omega))) ?_)
      refine J_if_eq (tgt := 37) dX0_recountAcross_30 rfl (j_R (nb_and (by have := (hB.2.2 i (by omega)).2; omega))) (fun h30 => ?_) (fun h30 => ?_)
      ·
        refine J_iconst dX0_recountAcross_37 ?_
        refine J_istore (L' := [(14, 0), (0, ((i : Nat) : Int)), (0, ((p : Nat) : Int)), (0, (((2 ^ p) : Nat) : Int)), (0, 0)]) dX0_recountAcross_38 (by decide) rfl rfl ?_
        refine J_aload_n dX0_recountAcross_40 rfl ?_
        refine J_getR dX0_recountAcross_41 flX0_21 rfl rfl ?_
        refine J_iload_n dX0_recountAcross_44 rfl ?_
        refine J_bipush dX0_recountAcross_45 (by decide) ?_
        refine J_imul dX0_recountAcross_47 (J_top (v := (((i * 7) : Nat) : Int)) (Int.natCast_mul _ _).symm ?_)
        refine J_iload_n dX0_recountAcross_48 rfl ?_
        refine J_iadd dX0_recountAcross_49 (J_top (v := ((((i * 7) + p) : Nat) : Int)) (by omega) ?_)
        refine J_iload dX0_recountAcross_50 rfl ?_
        refine J_if_eq (tgt := 82) dX0_recountAcross_52 rfl (by decide) (fun h52 => ?_) (fun h52 => ?_)
        ·
          refine J_iconst dX0_recountAcross_82 ?_
          refine J_iast dX0_recountAcross_83 rfl (by decide) (by omega) ?_
          refine J_iinc (v := (((p + 1) : Nat) : Int)) (L' := [(14, 0), (0, ((i : Nat) : Int)), (0, (((p + 1) : Nat) : Int)), (0, (((2 ^ p) : Nat) : Int)), (0, 0)]) dX0_recountAcross_84 rfl (by omega) (by decide) rfl rfl ?_
          refine J_goto (tgt := 12) dX0_recountAcross_87 rfl ?_
          refine J_unset 3 (L' := [(14, 0), (0, ((i : Nat) : Int)), (0, (((p + 1) : Nat) : Int)), (9, 0), (0, 0)]) rfl ?_
          refine J_unset 4 (L' := [(14, 0), (0, ((i : Nat) : Int)), (0, (((p + 1) : Nat) : Int)), (9, 0), (9, 0)]) rfl ?_
          exact ih _ _ (by exact Ch_up (by decide) g1) (by intro j q hj hq; rw [j_up_nz (by omega)]; exact g2 j q hj hq) (by intro q hq; by_cases e : q = p; rw [e, j_up_eq]; unfold acr; rw [if_neg (by rw [and_p2z h30]; decide)]; rfl; rw [j_up_nz (by omega)]; exact g3 q (by omega)) (by omega) (by omega)
        · exact absurd h52 (by decide)
      ·
        refine J_iconst dX0_recountAcross_33 ?_
        refine J_goto (tgt := 38) dX0_recountAcross_34 rfl ?_
        refine J_istore (L' := [(14, 0), (0, ((i : Nat) : Int)), (0, ((p : Nat) : Int)), (0, (((2 ^ p) : Nat) : Int)), (0, 1)]) dX0_recountAcross_38 (by decide) rfl rfl ?_
        refine J_aload_n dX0_recountAcross_40 rfl ?_
        refine J_getR dX0_recountAcross_41 flX0_21 rfl rfl ?_
        refine J_iload_n dX0_recountAcross_44 rfl ?_
        refine J_bipush dX0_recountAcross_45 (by decide) ?_
        refine J_imul dX0_recountAcross_47 (J_top (v := (((i * 7) : Nat) : Int)) (Int.natCast_mul _ _).symm ?_)
        refine J_iload_n dX0_recountAcross_48 rfl ?_
        refine J_iadd dX0_recountAcross_49 (J_top (v := ((((i * 7) + p) : Nat) : Int)) (by omega) ?_)
        refine J_iload dX0_recountAcross_50 rfl ?_
        refine J_if_eq (tgt := 82) dX0_recountAcross_52 rfl (by decide) (fun h52 => ?_) (fun h52 => ?_)
        · exact absurd h52 (by decide)
        ·
          refine J_aload_n dX0_recountAcross_55 rfl ?_
          refine J_getR dX0_recountAcross_56 flX0_18 rfl rfl ?_
          refine J_aload_n dX0_recountAcross_59 rfl ?_
          refine J_getR dX0_recountAcross_60 flX0_9 rfl rfl ?_
          refine J_iload_n dX0_recountAcross_63 rfl ?_
          refine J_iald dX0_recountAcross_64 rfl (by decide) (by omega) (J_top (v := (((F i) : Nat) : Int)) (by exact ((kb_ch g1 (by decide) hB).2.2 i (by omega)).1) ?_)
          refine J_iload_n dX0_recountAcross_65 rfl ?_
          refine J_iconst dX0_recountAcross_66 ?_
          refine J_ixor dX0_recountAcross_67 (J_top (v := (-(((2 ^ p) : Nat) : Int) - 1)) (j_notN rfl (nb_p2 (by omega))) ?_)
          refine J_iand dX0_recountAcross_68 (J_top (v := (((ndf (F i) (2 ^ p)) : Nat) : Int)) (j_ndfN rfl rfl (by have := (hB.2.2 i (by omega)).2; omega)) ?_)
          refine J_iald dX0_recountAcross_69 rfl (by decide) (i128 (nb_ndf (hB.2.2 i (by omega)).2)) (J_top (v := (((lyg n F (ndf (F i) (2 ^ p))) : Nat) : Int)) (by rw [g1 7 (by decide)]; exact hL (ndf (F i) (2 ^ p)) (nb_ndf (hB.2.2 i (by omega)).2)) ?_)
          refine J_aload_n dX0_recountAcross_70 rfl ?_
          refine J_getR dX0_recountAcross_71 flX0_15 rfl rfl ?_
          refine J_iload_n dX0_recountAcross_74 rfl ?_
          refine J_iald dX0_recountAcross_75 rfl (by decide) (by omega) (J_top (v := (((hvg n F p) : Nat) : Int)) (by rw [g1 6 (by decide)]; exact hH p (by omega)) ?_)
          refine J_iconst dX0_recountAcross_76 ?_
          refine J_ixor dX0_recountAcross_77 (J_top (v := (-(((hvg n F p) : Nat) : Int) - 1)) (j_notN rfl (hvg31 hn12 F _)) ?_)
          refine J_iand dX0_recountAcross_78 (J_top (v := (((ndf (lyg n F (ndf (F i) (2 ^ p))) (hvg n F p)) : Nat) : Int)) (j_ndfN rfl rfl (lyg31 hn12 F _)) ?_)
          refine J_goto (tgt := 83) dX0_recountAcross_79 rfl ?_
          refine J_iast dX0_recountAcross_83 rfl (by decide) (by omega) ?_
          refine J_iinc (v := (((p + 1) : Nat) : Int)) (L' := [(14, 0), (0, ((i : Nat) : Int)), (0, (((p + 1) : Nat) : Int)), (0, (((2 ^ p) : Nat) : Int)), (0, 1)]) dX0_recountAcross_84 rfl (by omega) (by decide) rfl rfl ?_
          refine J_goto (tgt := 12) dX0_recountAcross_87 rfl ?_
          refine J_unset 3 (L' := [(14, 0), (0, ((i : Nat) : Int)), (0, (((p + 1) : Nat) : Int)), (9, 0), (0, 1)]) rfl ?_
          refine J_unset 4 (L' := [(14, 0), (0, ((i : Nat) : Int)), (0, (((p + 1) : Nat) : Int)), (9, 0), (9, 0)]) rfl ?_
          exact ih _ _ (by exact Ch_up (by decide) g1) (by intro j q hj hq; rw [j_up_nz (by omega)]; exact g2 j q hj hq) (by intro q hq; by_cases e : q = p; rw [e, j_up_eq]; unfold acr; rw [if_pos (and_p2n h30)]; rw [j_up_nz (by omega)]; exact g3 q (by omega)) (by omega) (by omega)
set_option maxRecDepth 100000 in
set_option maxHeartbeats 4000000 in
theorem ev_X0_recountAcross_L2 (n : Nat) (F : Nat → Nat) (M : jM) (hB : KB n F M) (hH : ∀ p : Nat, p < 7 → M 6 (p : Int) = (hvg n F p : Int)) (hL : ∀ s : Nat, s < 128 → M 7 (s : Int) = (lyg n F s : Int))  : ∀ (fu : Nat) (M1 : jM) (i : Nat) (f1 : Ch [8] M M1) (f2 : ∀ j q : Nat, j < i → q < 7 → M1 8 ((j * 7 + q : Nat) : Int) = (acr n F j q : Int)) (f3 : i ≤ n) (hfu : n - i < fu), J none 0 mX0_recountAcross 2 [(14, 0), (0, ((i : Nat) : Int)), (9, 0), (9, 0), (9, 0)] [] M1 (j_ret mX0_recountAcross (fun z M' => Ch [8] M M' ∧ ∀ j q : Nat, j < n → q < 7 → M' 8 ((j * 7 + q : Nat) : Int) = (acr n F j q : Int))) := by
  intro fu
  induction fu with
  | zero => intro M1 i f1 f2 f3 hfu; exact absurd hfu (Nat.not_lt_zero _)
  | succ fu ih =>
    intro M1 i f1 f2 f3 hfu
    have hn12 := hB.1
    refine J_iload_n dX0_recountAcross_2 rfl ?_
    refine J_aload_n dX0_recountAcross_3 rfl ?_
    refine J_getI dX0_recountAcross_4 flX0_41 rfl rfl (J_top (v := ((n : Nat) : Int)) (by exact (kb_ch f1 (by decide) hB).2.1) ?_)
    refine J_icmp_ge (tgt := 96) dX0_recountAcross_7 rfl (j_R (by omega)) (j_R (by omega)) (fun h7 => ?_) (fun h7 => ?_)
    ·
      refine J_return dX0_recountAcross_96 rfl ?_
      have : i = n := by omega
      subst this
      exact ⟨f1, f2⟩
    ·
      refine J_iconst dX0_recountAcross_10 ?_
      refine J_istore_n (L' := [(14, 0), (0, ((i : Nat) : Int)), (0, 0), (9, 0), (9, 0)]) dX0_recountAcross_11 (by decide) rfl rfl ?_
      refine J_eq (L' := [(14, 0), (0, ((i : Nat) : Int)), (0, ((0 : Nat) : Int)), (9, 0), (9, 0)]) rfl rfl rfl ?_
      refine ev_X0_recountAcross_L12 n F M hB hH hL i (by omega) (fun M3 c1 c2 => ?_) _ _ _ (by exact f1) (by exact f2) (by intro q hq; omega) (by omega) (Nat.lt_succ_self _)
      ·
        refine J_iinc (v := (((i + 1) : Nat) : Int)) (L' := [(14, 0), (0, (((i + 1) : Nat) : Int)), (9, 0), (9, 0), (9, 0)]) dX0_recountAcross_90 rfl (by omega) (by decide) rfl rfl ?_
        refine J_goto (tgt := 2) dX0_recountAcross_93 rfl ?_
        exact ih _ _ (by exact c1) (by exact c2) (by omega) (by omega)
set_option maxRecDepth 100000 in
set_option maxHeartbeats 4000000 in
theorem ev_X0_recountAcross (n : Nat) (F : Nat → Nat) (M : jM) (hB : KB n F M) (hH : ∀ p : Nat, p < 7 → M 6 (p : Int) = (hvg n F p : Int)) (hL : ∀ s : Nat, s < 128 → M 7 (s : Int) = (lyg n F s : Int)) : Ev 0 mX0_recountAcross [(14, 0)] M (fun z M' => Ch [8] M M' ∧ ∀ j q : Nat, j < n → q < 7 → M' 8 ((j * 7 + q : Nat) : Int) = (acr n F j q : Int)) := by
  refine Ev_of (by decide +kernel) (Nat.le_of_ble_eq_true rfl) (L := [(14, 0), (9, 0), (9, 0), (9, 0), (9, 0)]) rfl ?_
  have hn12 := hB.1
  refine J_iconst dX0_recountAcross_0 ?_
  refine J_istore_n (L' := [(14, 0), (0, 0), (9, 0), (9, 0), (9, 0)]) dX0_recountAcross_1 (by decide) rfl rfl ?_
  refine J_eq (L' := [(14, 0), (0, ((0 : Nat) : Int)), (9, 0), (9, 0), (9, 0)]) rfl rfl rfl ?_
  exact ev_X0_recountAcross_L2 n F M hB hH hL  _ _ _ (by exact Ch_rf) (by intro j q hj; omega) (by omega) (Nat.lt_succ_self _)
set_option maxRecDepth 100000 in
set_option maxHeartbeats 4000000 in
theorem ev_X0_recount (n : Nat) (F : Nat → Nat) (M : jM) (hB : KB n F M) : Ev 3 mX0_recount [(14, 0)] M (fun z M' => Ch [6, 7, 8] M M' ∧ KT n F M') := by
  refine Ev_of (by decide +kernel) (Nat.le_of_ble_eq_true rfl) (L := [(14, 0)]) rfl ?_
  refine J_aload_n dX0_recount_0 rfl ?_
  refine J_callVv (cl := mX0_recountHaving) [] [] dX0_recount_1 mlX0_49 cvX0_recountHaving rfl rfl rfl rfl rfl (by decide) (Nat.le_of_ble_eq_true rfl) rfl (ev_X0_recountHaving n F M hB) (fun Ma hq1 => ?_)
  obtain ⟨a1, a2⟩ := hq1
  refine J_aload_n dX0_recount_4 rfl ?_
  refine J_callVv (cl := mX0_recountLying) [] [] dX0_recount_5 mlX0_52 cvX0_recountLying rfl rfl rfl rfl rfl (by decide) (Nat.le_of_ble_eq_true rfl) rfl (ev_X0_recountLying n F Ma (kb_ch a1 (by decide) hB) a2) (fun Mb hq5 => ?_)
  obtain ⟨b1, b2⟩ := hq5
  refine J_aload_n dX0_recount_8 rfl ?_
  refine J_callVv (cl := mX0_recountAcross) [] [] dX0_recount_9 mlX0_55 cvX0_recountAcross rfl rfl rfl rfl rfl (by decide) (Nat.le_of_ble_eq_true rfl) rfl (ev_X0_recountAcross n F Mb (kb_ch b1 (by decide) (kb_ch a1 (by decide) hB)) (fun p hp => by rw [b1 6 (by decide)]; exact a2 p hp) b2) (fun Mc hq9 => ?_)
  obtain ⟨c1, c2⟩ := hq9
  refine J_return dX0_recount_12 rfl ?_
  refine ⟨Ch_tr (Ch_tr (Ch_mo a1 (by decide)) (Ch_mo b1 (by decide))) (Ch_mo c1 (by decide)), ?_, ?_, c2⟩
  · intro p hp
    rw [c1 6 (by decide), b1 6 (by decide)]
    exact a2 p hp
  · intro s hs
    rw [c1 7 (by decide)]
    exact b2 s hs
set_option maxRecDepth 100000 in
set_option maxHeartbeats 4000000 in
theorem ev_X0_take_L26 (P D m : Nat) (R : Nat → Nat) (hm : m ≤ 12) (hP : P ≤ 7) (hD : D ≤ 5) (M : jM) (t5 : M 1 5 = (P : Int)) (t6 : M 1 6 = (D : Int)) (t7 : M 1 7 = (m : Int)) (t3 : ∀ j : Nat, j < m → M 3 (j : Int) = (R j : Int) ∧ R j < 128)  : ∀ (fu : Nat) (M2 : jM) (i : Nat) (g1 : Ch [5] (j_up (j_up (j_up M 4 0 ((P : Nat) : Int)) 4 1 ((D : Nat) : Int)) 4 2 ((m : Nat) : Int)) M2) (g2 : ∀ j : Nat, j < i → M2 5 (j : Int) = (R j : Int)) (g3 : i ≤ m) (hfu : m - i < fu), J none 0 mX0_take 26 [(14, 0), (11, 0), (0, ((i : Nat) : Int))] [] M2 (j_ret mX0_take (fun z M' => Ch [4, 5] M M' ∧ M' 4 0 = (P : Int) ∧ M' 4 1 = (D : Int) ∧ M' 4 2 = (m : Int) ∧ ∀ j : Nat, j < m → M' 5 (j : Int) = (R j : Int))) := by
  intro fu
  induction fu with
  | zero => intro M2 i g1 g2 g3 hfu; exact absurd hfu (Nat.not_lt_zero _)
  | succ fu ih =>
    intro M2 i g1 g2 g3 hfu
    refine J_iload_n dX0_take_26 rfl ?_
    refine J_aload_n dX0_take_27 rfl ?_
    refine J_getI dX0_take_28 flX0_41 rfl rfl (J_top (v := ((m : Nat) : Int)) (by rw [g1 4 (by decide)]; exact j_up_eq) ?_)
    refine J_icmp_ge (tgt := 52) dX0_take_31 rfl (j_R (by omega)) (j_R (by omega)) (fun h31 => ?_) (fun h31 => ?_)
    ·
      refine J_return dX0_take_52 rfl ?_
      have : i = m := by omega
      subst this
      refine ⟨Ch_tr (Ch_up (by decide) (Ch_up (by decide) (Ch_up (by decide) Ch_rf))) (Ch_mo g1 (by decide)), ?_, ?_, ?_, g2⟩
      · rw [g1 4 (by decide), j_up_nz (by decide), j_up_nz (by decide), j_up_eq]
      · rw [g1 4 (by decide), j_up_nz (by decide), j_up_eq]
      · rw [g1 4 (by decide), j_up_eq]
    ·
      refine J_aload_n dX0_take_34 rfl ?_
      refine J_getR dX0_take_35 flX0_9 rfl rfl ?_
      refine J_iload_n dX0_take_38 rfl ?_
      refine J_aload_n dX0_take_39 rfl ?_
      refine J_getR dX0_take_40 flX0_42 rfl rfl ?_
      refine J_iload_n dX0_take_43 rfl ?_
      refine J_iald dX0_take_44 rfl (by decide) (by omega) (J_top (v := (((R i) : Nat) : Int)) (by rw [g1 3 (by decide), j_up_ne (by decide), j_up_ne (by decide), j_up_ne (by decide)]; exact (t3 i (by omega)).1) ?_)
      refine J_iast dX0_take_45 rfl (by decide) (by omega) ?_
      refine J_iinc (v := (((i + 1) : Nat) : Int)) (L' := [(14, 0), (11, 0), (0, (((i + 1) : Nat) : Int))]) dX0_take_46 rfl (by omega) (by decide) rfl rfl ?_
      refine J_goto (tgt := 26) dX0_take_49 rfl ?_
      exact ih _ _ (by exact Ch_up (by decide) g1) (by intro j hj; by_cases e : j = i; rw [e, j_up_eq]; rw [j_up_nz (by omega)]; exact g2 j (by omega)) (by omega) (by omega)
set_option maxRecDepth 100000 in
set_option maxHeartbeats 4000000 in
theorem ev_X0_take (P D m : Nat) (R : Nat → Nat) (hm : m ≤ 12) (hP : P ≤ 7) (hD : D ≤ 5) (M : jM) (t5 : M 1 5 = (P : Int)) (t6 : M 1 6 = (D : Int)) (t7 : M 1 7 = (m : Int)) (t3 : ∀ j : Nat, j < m → M 3 (j : Int) = (R j : Int) ∧ R j < 128) : Ev 0 mX0_take [(14, 0), (11, 0)] M (fun z M' => Ch [4, 5] M M' ∧ M' 4 0 = (P : Int) ∧ M' 4 1 = (D : Int) ∧ M' 4 2 = (m : Int) ∧ ∀ j : Nat, j < m → M' 5 (j : Int) = (R j : Int)) := by
  refine Ev_of (by decide +kernel) (Nat.le_of_ble_eq_true rfl) (L := [(14, 0), (11, 0), (9, 0)]) rfl ?_
  refine J_aload_n dX0_take_0 rfl ?_
  refine J_aload_n dX0_take_1 rfl ?_
  refine J_getI dX0_take_2 flX0_27 rfl rfl (J_top (v := ((P : Nat) : Int)) t5 ?_)
  refine J_putI dX0_take_5 flX0_33 rfl rfl (Or.inl rfl) ?_
  refine J_aload_n dX0_take_8 rfl ?_
  refine J_aload_n dX0_take_9 rfl ?_
  refine J_getI dX0_take_10 flX0_34 rfl rfl (J_top (v := ((D : Nat) : Int)) (by rw [j_up_ne (by decide)]; exact t6) ?_)
  refine J_putI dX0_take_13 flX0_37 rfl rfl (Or.inl rfl) ?_
  refine J_aload_n dX0_take_16 rfl ?_
  refine J_aload_n dX0_take_17 rfl ?_
  refine J_getI dX0_take_18 flX0_38 rfl rfl (J_top (v := ((m : Nat) : Int)) (by rw [j_up_ne (by decide)]; rw [j_up_ne (by decide)]; exact t7) ?_)
  refine J_putI dX0_take_21 flX0_41 rfl rfl (Or.inl rfl) ?_
  refine J_iconst dX0_take_24 ?_
  refine J_istore_n (L' := [(14, 0), (11, 0), (0, 0)]) dX0_take_25 (by decide) rfl rfl ?_
  refine J_eq (L' := [(14, 0), (11, 0), (0, ((0 : Nat) : Int))]) rfl rfl rfl ?_
  exact ev_X0_take_L26 P D m R hm hP hD M t5 t6 t7 t3  _ _ _ (by exact Ch_rf) (by intro j hj; omega) (by omega) (Nat.lt_succ_self _)
set_option maxRecDepth 100000 in
set_option maxHeartbeats 4000000 in
theorem ev_X0_append (n x : Nat) (hn : n < 12) (M : jM) (h4 : M 4 2 = (n : Int)) : Ev 0 mX0_append [(14, 0), (0, ((x : Nat) : Int))] M (fun z M' => M' = j_up (j_up M 5 ((n : Nat) : Int) ((x : Nat) : Int)) 4 2 (((n + 1 : Nat)) : Int)) := by
  refine Ev_of (by decide +kernel) (Nat.le_of_ble_eq_true rfl) (L := [(14, 0), (0, ((x : Nat) : Int))]) rfl ?_
  refine J_aload_n dX0_append_0 rfl ?_
  refine J_getI dX0_append_1 flX0_41 rfl rfl (J_top (v := ((n : Nat) : Int)) h4 ?_)
  refine J_bipush dX0_append_4 (by decide) ?_
  refine J_icmp_ge (tgt := 29) dX0_append_6 rfl (j_R (by omega)) (by decide) (fun h6 => ?_) (fun h6 => ?_)
  · omega
  ·
    refine J_aload_n dX0_append_9 rfl ?_
    refine J_getR dX0_append_10 flX0_9 rfl rfl ?_
    refine J_aload_n dX0_append_13 rfl ?_
    refine J_getI dX0_append_14 flX0_41 rfl rfl (J_top (v := ((n : Nat) : Int)) h4 ?_)
    refine J_iload_n dX0_append_17 rfl ?_
    refine J_iast dX0_append_18 rfl (by decide) (by omega) ?_
    refine J_aload_n dX0_append_19 rfl ?_
    refine J_dup dX0_append_20 rfl ?_
    refine J_getI dX0_append_21 flX0_41 rfl rfl (J_top (v := ((n : Nat) : Int)) (by rw [j_up_ne (by decide)]; exact h4) ?_)
    refine J_iconst dX0_append_24 ?_
    refine J_iadd dX0_append_25 (J_top (v := (((n + 1) : Nat) : Int)) (by omega) ?_)
    refine J_putI dX0_append_26 flX0_41 rfl rfl (Or.inl rfl) ?_
    refine J_return dX0_append_29 rfl ?_
    rfl
set_option maxRecDepth 100000 in
set_option maxHeartbeats 4000000 in
theorem ev_X0_remove_L2 (n : Nat) (F : Nat → Nat) (M : jM) (hB : KB n F M) (i : Nat) (hi : i < n)  : ∀ (fu : Nat) (M1 : jM) (k : Nat) (g1 : Ch [5] M M1) (g2 : ∀ j : Nat, j < k → j < n → M1 5 (j : Int) = (drF F i j : Int)) (g3 : ∀ j : Nat, k ≤ j → j < n → M1 5 (j : Int) = (F j : Int)) (g4 : i ≤ k ∧ k < n) (hfu : n - k < fu), J none 0 mX0_remove 2 [(14, 0), (0, ((i : Nat) : Int)), (0, ((k : Nat) : Int))] [] M1 (j_ret mX0_remove (fun z M' => Ch [4, 5] M M' ∧ M' 4 0 = M 4 0 ∧ M' 4 1 = M 4 1 ∧ M' 4 2 = ((n - 1 : Nat) : Int) ∧ ∀ j : Nat, j < n - 1 → M' 5 (j : Int) = (drF F i j : Int))) := by
  intro fu
  induction fu with
  | zero => intro M1 k g1 g2 g3 g4 hfu; exact absurd hfu (Nat.not_lt_zero _)
  | succ fu ih =>
    intro M1 k g1 g2 g3 g4 hfu
    have hn12 := hB.1
    refine J_iload_n dX0_remove_2 rfl ?_
    refine J_iconst dX0_remove_3 ?_
    refine J_iadd dX0_remove_4 (J_top (v := (((k + 1) : Nat) : Int)) (by omega) ?_)
    refine J_aload_n dX0_remove_5 rfl ?_
    refine J_getI dX0_remove_6 flX0_41 rfl rfl (J_top (v := ((n : Nat) : Int)) (by rw [g1 4 (by decide)]; exact hB.2.1) ?_)
    refine J_icmp_ge (tgt := 32) dX0_remove_9 rfl (j_R (by omega)) (j_R (by omega)) (fun h9 => ?_) (fun h9 => ?_)
    ·
      refine J_aload_n dX0_remove_32 rfl ?_
      refine J_dup dX0_remove_33 rfl ?_
      refine J_getI dX0_remove_34 flX0_41 rfl rfl (J_top (v := ((n : Nat) : Int)) (by rw [g1 4 (by decide)]; exact hB.2.1) ?_)
      refine J_iconst dX0_remove_37 ?_
      refine J_isub dX0_remove_38 (J_top (v := (((n - 1) : Nat) : Int)) (by omega) ?_)
      refine J_putI dX0_remove_39 flX0_41 rfl rfl (Or.inl rfl) ?_
      refine J_return dX0_remove_42 rfl ?_
      refine ⟨Ch_up (by decide) (Ch_mo g1 (by decide)), ?_, ?_, j_up_eq, fun j hj => ?_⟩
      · rw [j_up_nz (by decide), g1 4 (by decide)]
      · rw [j_up_nz (by decide), g1 4 (by decide)]
      · rw [j_up_ne (by decide)]
        exact g2 j (by omega) (by omega)
    ·
      refine J_aload_n dX0_remove_12 rfl ?_
      refine J_getR dX0_remove_13 flX0_9 rfl rfl ?_
      refine J_iload_n dX0_remove_16 rfl ?_
      refine J_aload_n dX0_remove_17 rfl ?_
      refine J_getR dX0_remove_18 flX0_9 rfl rfl ?_
      refine J_iload_n dX0_remove_21 rfl ?_
      refine J_iconst dX0_remove_22 ?_
      refine J_iadd dX0_remove_23 (J_top (v := (((k + 1) : Nat) : Int)) (by omega) ?_)
      refine J_iald dX0_remove_24 rfl (by decide) (by omega) (J_top (v := (((F (k + 1)) : Nat) : Int)) (g3 (k + 1) (by omega) (by omega)) ?_)
      refine J_iast dX0_remove_25 rfl (by decide) (by omega) ?_
      refine J_iinc (v := (((k + 1) : Nat) : Int)) (L' := [(14, 0), (0, ((i : Nat) : Int)), (0, (((k + 1) : Nat) : Int))]) dX0_remove_26 rfl (by omega) (by decide) rfl rfl ?_
      refine J_goto (tgt := 2) dX0_remove_29 rfl ?_
      exact ih _ _ (by exact Ch_up (by decide) g1) (by intro j hj hn; by_cases e : j = k; rw [e, j_up_eq]; unfold drF; rw [if_neg (by omega)]; rw [j_up_nz (by omega)]; exact g2 j (by omega) hn) (by intro j h1 h2; rw [j_up_nz (by omega)]; exact g3 j (by omega) h2) (by omega) (by omega)
set_option maxRecDepth 100000 in
set_option maxHeartbeats 4000000 in
theorem ev_X0_remove (n : Nat) (F : Nat → Nat) (M : jM) (hB : KB n F M) (i : Nat) (hi : i < n) : Ev 0 mX0_remove [(14, 0), (0, ((i : Nat) : Int))] M (fun z M' => Ch [4, 5] M M' ∧ M' 4 0 = M 4 0 ∧ M' 4 1 = M 4 1 ∧ M' 4 2 = ((n - 1 : Nat) : Int) ∧ ∀ j : Nat, j < n - 1 → M' 5 (j : Int) = (drF F i j : Int)) := by
  refine Ev_of (by decide +kernel) (Nat.le_of_ble_eq_true rfl) (L := [(14, 0), (0, ((i : Nat) : Int)), (9, 0)]) rfl ?_
  have hn12 := hB.1
  refine J_iload_n dX0_remove_0 rfl ?_
  refine J_istore_n (L' := [(14, 0), (0, ((i : Nat) : Int)), (0, ((i : Nat) : Int))]) dX0_remove_1 (by decide) rfl rfl ?_
  exact ev_X0_remove_L2 n F M hB i hi  _ _ _ (by exact Ch_rf) (by intro j hj hn; unfold drF; rw [if_pos hj]; exact (hB.2.2 j hn).1) (by intro j _ hn; exact (hB.2.2 j hn).1) (by omega) (Nat.lt_succ_self _)
set_option maxRecDepth 100000 in
set_option maxHeartbeats 4000000 in
theorem ev_X0_rename_L14 (n : Nat) (F : Nat → Nat) (M : jM) (hB : KB n F M) (p q : Nat) (hp : p < 7) (hq : q < 7) (hpq : ¬ p = q)  : ∀ (fu : Nat) (M1 : jM) (c k : Nat) (g1 : Ch [5] M M1) (g2 : ∀ j : Nat, j < k → M1 5 (j : Int) = (trF F p q j : Int)) (g3 : ∀ j : Nat, k ≤ j → j < n → M1 5 (j : Int) = (F j : Int)) (g4 : c = cntN k (trQ F p q)) (g5 : k ≤ n) (hfu : n - k < fu), J none 1 mX0_rename 14 [(14, 0), (0, ((p : Nat) : Int)), (0, ((q : Nat) : Int)), (0, (((2 ^ p ||| 2 ^ q) : Nat) : Int)), (0, ((c : Nat) : Int)), (0, ((k : Nat) : Int))] [] M1 (j_ret mX0_rename (fun z M' => z = ((cntN n (trQ F p q) : Nat) : Int) ∧ Ch [5] M M' ∧ ∀ j : Nat, j < n → M' 5 (j : Int) = (trF F p q j : Int))) := by
  intro fu
  induction fu with
  | zero => intro M1 c k g1 g2 g3 g4 g5 hfu; exact absurd hfu (Nat.not_lt_zero _)
  | succ fu ih =>
    intro M1 c k g1 g2 g3 g4 g5 hfu
    have hn12 := hB.1
    refine J_iload dX0_rename_14 rfl ?_
    refine J_aload_n dX0_rename_16 rfl ?_
    refine J_getI dX0_rename_17 flX0_41 rfl rfl (J_top (v := ((n : Nat) : Int)) (by rw [g1 4 (by decide)]; exact hB.2.1) ?_)
    refine J_icmp_ge (tgt := 59) dX0_rename_20 rfl (j_R (by omega)) (j_R (by omega)) (fun h20 => ?_) (fun h20 => ?_)
    ·
      refine J_iload dX0_rename_59 rfl ?_
      refine J_ireturn dX0_rename_61 rfl ?_
      have : k = n := by omega
      subst this
      exact ⟨by rw [g4], g1, g2⟩
    ·
      refine J_aload_n dX0_rename_23 rfl ?_
      refine J_getR dX0_rename_24 flX0_9 rfl rfl ?_
      refine J_iload dX0_rename_27 rfl ?_
      refine J_iald dX0_rename_29 rfl (by decide) (by omega) (J_top (v := (((F k) : Nat) : Int)) (g3 k (by omega) (by omega)) ?_)
      refine J_iload_n dX0_rename_30 rfl ?_
      refine J_iand dX0_rename_31 (J_top (v := ((((F k) &&& (2 ^ p ||| 2 ^ q)) : Nat) : Int)) (j_andN rfl rfl (by have := (hB.2.2 k (by omega)).2; omega) (nb_or (nb_p2 (by omega)) (nb_p2 (by omega)))) ?_)
      refine J_callSiQ (cl := mJ6_bitCount_0f7a4) [(0, ((((F k) &&& (2 ^ p ||| 2 ^ q)) : Nat) : Int))] [] dX0_rename_32 mlX0_43 csJ6_bitCount_0f7a4 rfl rfl (by decide) (Nat.le_of_ble_eq_true rfl) rfl (ev_bitCount ((F k) &&& (2 ^ p ||| 2 ^ q)) (by have := nb_and (b := 2 ^ p ||| 2 ^ q) (hB.2.2 k (by omega)).2; omega) M1) ?_
      refine J_iconst dX0_rename_35 ?_
      refine J_icmp_ne (tgt := 53) dX0_rename_36 rfl (j_R (popc_lt (nb_and (by have := (hB.2.2 k (by omega)).2; omega)))) (by decide) (fun h36 => ?_) (fun h36 => ?_)
      ·
        refine J_iinc (v := (((k + 1) : Nat) : Int)) (L' := [(14, 0), (0, ((p : Nat) : Int)), (0, ((q : Nat) : Int)), (0, (((2 ^ p ||| 2 ^ q) : Nat) : Int)), (0, ((c : Nat) : Int)), (0, (((k + 1) : Nat) : Int))]) dX0_rename_53 rfl (by omega) (by decide) rfl rfl ?_
        refine J_goto (tgt := 14) dX0_rename_56 rfl ?_
        exact ih _ _ _ (by exact g1) (by intro j hj; by_cases e : j = k; rw [e, g3 k (by omega) (by omega)]; unfold trF trX; rw [if_pos (tr_eq hpq h36)]; exact g2 j (by omega)) (by intro j h1 h2; exact g3 j (by omega) h2) (by rw [cntN_f (by unfold trQ; simpa using tr_eq hpq h36), g4]) (by omega) (by omega)
      ·
        refine J_aload_n dX0_rename_39 rfl ?_
        refine J_getR dX0_rename_40 flX0_9 rfl rfl ?_
        refine J_iload dX0_rename_43 rfl ?_
        refine J_dup2 dX0_rename_45 rfl rfl ?_
        refine J_iald dX0_rename_46 rfl (by decide) (by omega) (J_top (v := (((F k) : Nat) : Int)) (g3 k (by omega) (by omega)) ?_)
        refine J_iload_n dX0_rename_47 rfl ?_
        refine J_ixor dX0_rename_48 (J_top (v := ((((F k) ^^^ (2 ^ p ||| 2 ^ q)) : Nat) : Int)) (j_xorN rfl rfl (by have := (hB.2.2 k (by omega)).2; omega) (nb_or (nb_p2 (by omega)) (nb_p2 (by omega)))) ?_)
        refine J_iast dX0_rename_49 rfl (by decide) (by omega) ?_
        refine J_iinc (v := (((c + 1) : Nat) : Int)) (L' := [(14, 0), (0, ((p : Nat) : Int)), (0, ((q : Nat) : Int)), (0, (((2 ^ p ||| 2 ^ q) : Nat) : Int)), (0, (((c + 1) : Nat) : Int)), (0, ((k : Nat) : Int))]) dX0_rename_50 rfl (by omega) (by decide) rfl rfl ?_
        refine J_iinc (v := (((k + 1) : Nat) : Int)) (L' := [(14, 0), (0, ((p : Nat) : Int)), (0, ((q : Nat) : Int)), (0, (((2 ^ p ||| 2 ^ q) : Nat) : Int)), (0, (((c + 1) : Nat) : Int)), (0, (((k + 1) : Nat) : Int))]) dX0_rename_53 rfl (by omega) (by decide) rfl rfl ?_
        refine J_goto (tgt := 14) dX0_rename_56 rfl ?_
        exact ih _ _ _ (by exact Ch_up (by decide) g1) (by intro j hj; by_cases e : j = k; rw [e, j_up_eq]; unfold trF trX; rw [if_neg (tr_ne hpq h36)]; rw [j_up_nz (by omega)]; exact g2 j (by omega)) (by intro j h1 h2; rw [j_up_nz (by omega)]; exact g3 j (by omega) h2) (by rw [cntN_t (by unfold trQ; simpa using tr_ne hpq h36), g4]) (by omega) (by omega)
set_option maxRecDepth 100000 in
set_option maxHeartbeats 4000000 in
theorem ev_X0_rename (n : Nat) (F : Nat → Nat) (M : jM) (hB : KB n F M) (p q : Nat) (hp : p < 7) (hq : q < 7) (hpq : ¬ p = q) : Ev 1 mX0_rename [(14, 0), (0, ((p : Nat) : Int)), (0, ((q : Nat) : Int))] M (fun z M' => z = ((cntN n (trQ F p q) : Nat) : Int) ∧ Ch [5] M M' ∧ ∀ j : Nat, j < n → M' 5 (j : Int) = (trF F p q j : Int)) := by
  refine Ev_of (by decide +kernel) (Nat.le_of_ble_eq_true rfl) (L := [(14, 0), (0, ((p : Nat) : Int)), (0, ((q : Nat) : Int)), (9, 0), (9, 0), (9, 0)]) rfl ?_
  have hn12 := hB.1
  refine J_iconst dX0_rename_0 ?_
  refine J_iload_n dX0_rename_1 rfl ?_
  refine J_ishl dX0_rename_2 (J_top (v := (((2 ^ p) : Nat) : Int)) (j_shl1 rfl rfl (by omega)) ?_)
  refine J_iconst dX0_rename_3 ?_
  refine J_iload_n dX0_rename_4 rfl ?_
  refine J_ishl dX0_rename_5 (J_top (v := (((2 ^ q) : Nat) : Int)) (j_shl1 rfl rfl (by omega)) ?_)
  refine J_ior dX0_rename_6 (J_top (v := ((((2 ^ p) ||| (2 ^ q)) : Nat) : Int)) (j_orN rfl rfl (nb_p2 (by omega)) (nb_p2 (by omega))) ?_)
  refine J_istore_n (L' := [(14, 0), (0, ((p : Nat) : Int)), (0, ((q : Nat) : Int)), (0, ((((2 ^ p) ||| (2 ^ q)) : Nat) : Int)), (9, 0), (9, 0)]) dX0_rename_7 (by decide) rfl rfl ?_
  refine J_iconst dX0_rename_8 ?_
  refine J_istore (L' := [(14, 0), (0, ((p : Nat) : Int)), (0, ((q : Nat) : Int)), (0, ((((2 ^ p) ||| (2 ^ q)) : Nat) : Int)), (0, 0), (9, 0)]) dX0_rename_9 (by decide) rfl rfl ?_
  refine J_iconst dX0_rename_11 ?_
  refine J_istore (L' := [(14, 0), (0, ((p : Nat) : Int)), (0, ((q : Nat) : Int)), (0, ((((2 ^ p) ||| (2 ^ q)) : Nat) : Int)), (0, 0), (0, 0)]) dX0_rename_12 (by decide) rfl rfl ?_
  refine J_eq (L' := [(14, 0), (0, ((p : Nat) : Int)), (0, ((q : Nat) : Int)), (0, ((((2 ^ p) ||| (2 ^ q)) : Nat) : Int)), (0, ((0 : Nat) : Int)), (0, ((0 : Nat) : Int))]) rfl rfl rfl ?_
  exact ev_X0_rename_L14 n F M hB p q hp hq hpq  _ _ _ _ (by exact Ch_rf) (by intro j hj; omega) (by intro j _ hn; exact (hB.2.2 j hn).1) (by rfl) (by omega) (Nat.lt_succ_self _)
