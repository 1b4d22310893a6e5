theorem h_t {G : Nat → Bool} {D k i : Nat} (h : (k - i) % 2 = 0) : hT G D k i = ((fcs G i * wys (D - i) (k - i) : Nat) : Int) := by
  unfold hT
  rw [if_neg (by omega)]
theorem h_f {G : Nat → Bool} {D k i : Nat} (h : ¬ (k - i) % 2 = 0) : hT G D k i = -((fcs G i * wys (D - i) (k - i) : Nat) : Int) := by
  unfold hT
  rw [if_pos (by omega)]
/-- numbers of faces by restrictions -/
theorem smN_sum (n : Nat) (f : Nat → Nat) : ((smN n f : Nat) : Int) = sumN n (fun k => (f k : Int)) := by
  induction n with
  | zero => rfl
  | succ n ih => simp only [smN, sumN]; rw [← ih]; omega
theorem rb_eq {D n : Nat} {F O : Nat → Nat} {k : Nat} : sumN (k + 1) (fun i => ((wys (D - i) (k - i) : Nat) : Int) * (cntN n (fun j => true && decide ((popc (rst F O j) : Int) = (i : Int))) : Int)) = ((smN n (rbT D F O k) : Nat) : Int) := by
  rw [sum_by n (fun _ => true) (fun j => popc (rst F O j)) (fun i => ((wys (D - i) (k - i) : Nat) : Int)) (k + 1), smN_sum]
  refine sumN_congr (fun j _ => ?_)
  unfold rbT
  by_cases e : popc (rst F O j) ≤ k
  · rw [if_pos ⟨rfl, by omega⟩, if_pos e]
  · rw [if_neg (by omega), if_neg e]
    rfl
theorem eu_eq {P D n : Nat} {F O : Nat → Nat} (h : WF P D n F O) : sumN (D + 1) (fun k => (if k % 2 = 1 then (1 : Int) else -1) * (cntN 128 (fun s => isF n F s && decide ((popc s : Int) = (k : Int))) : Int)) = sumN 128 (fun s => if isF n F s = true then (if true = true ∧ popc s % 2 = 0 then -1 else 1) else 0) := by
  rw [sum_by 128 (isF n F) popc (fun k => if k % 2 = 1 then (1 : Int) else -1) (D + 1)]
  refine sumN_congr (fun s _ => ?_)
  cases e : isF n F s
  · simp
  · have := isF_pop h e
    rw [if_pos ⟨rfl, by omega⟩, if_pos rfl]
    by_cases q : popc s % 2 = 1
    · rw [if_pos q, if_neg (by omega)]
    · rw [if_neg q, if_pos ⟨rfl, by omega⟩]
theorem wt_pos {P D n : Nat} {F O : Nat → Nat} (h : WF P D n F O) : ∀ k, k ≤ n → (k : Int) ≤ gdN n F O → ¬ wto F n (ahd O k) = 0 := by
  intro k
  induction k with
  | zero => intro _ _; rw [ahd, wto_0]; decide
  | succ k ih =>
    intro hk hg
    have h1 := ih (by omega) (by omega)
    rw [ahd]
    refine wto_next (h.on (by omega)) ?_ ?_ h1
    · rw [ahd_bit, anyN_false]
      intro i hi
      rw [beq_eq_false_iff_ne]
      intro e
      have := h.oi (by omega) (by omega) e
      omega
    · cases e : jnS F (O k) (ahd O k)
      · exfalso
        unfold gdN at hg
        have e2 : (fun k => !jnA F O k) k = true := by show (!jnS F (O k) (ahd O k)) = true; rw [e]; rfl
        have h3 : anyN (k + 1) (fun k => !jnA F O k) = true := anyN_t e2
        have h4 := anyN_up h3 (show k + 1 ≤ n by omega)
        obtain ⟨m, m1, m2, m3, m4⟩ := fstN_get (z := (n : Int)) h4
        rw [m3] at hg
        rw [anyN_iff.mpr ⟨k, by omega, e2⟩] at m4
        exact absurd m4 (by decide)
      · rfl
theorem lkWz {P n : Nat} {F : Nat → Nat} {i : Int} (h : decide (¬ lkW P n F i = 0) = false) : lkW P n F i = 0 ∧ 0 < n ∧ 0 ≤ i ∧ i ≤ ((2 ^ P - 1 : Nat) : Int) ∧ ¬ lyg n F i.toNat = 0 := by
  have h0 := Decidable.not_not.mp (of_decide_eq_false h)
  refine ⟨h0, ?_⟩
  unfold lkW at h0
  split at h0
  · omega
  · split at h0
    · omega
    · split at h0
      · omega
      · rename_i a b c
        have b := Decidable.not_not.mp b
        exact ⟨by omega, b.1, b.2, c⟩
theorem lkW_4 {P n : Nat} {F : Nat → Nat} {i : Int} : lkW P n F i ≠ 4 := lkW4 P n F i
theorem ly_pop {P D n : Nat} {F O : Nat → Nat} (h : WF P D n F O) {x : Nat} (hx : ¬ lyg n F x = 0) : popc x ≤ D := isF_pop h (by rw [lyg_isF]; exact decide_eq_true hx)
theorem won_pos0 {n : Nat} {F : Nat → Nat} : onw F n 0 = won F n 0 := by
  unfold onw
  rw [wto_0, if_neg (by decide)]
set_option maxRecDepth 100000 in
set_option maxHeartbeats 4000000 in
theorem ev_X6_h_L22 (P D n : Nat) (F O : Nat → Nat) (tl : Nat) (tb : Nat → Nat) (fa tr wh : Int) (M : jM) (hS : KS P D n F O tl tb fa tr wh M) (k : Int) (hk : -2147483648 ≤ k ∧ k < 2147483648) (M1 : jM) (hM1 : M1 = j_up M 0 6 (u2 (bT n) (bK D k))) (h12 : (bT n && bK D k) = true) : ∀ (fu : Nat) (i : Nat) (f1 : i ≤ (Int.toNat k) + 1) (hfu : (Int.toNat k) + 1 - i < fu), J none 3 mX6_h 22 [(10, 0), (0, (((Int.toNat k) : Nat) : Int)), (0, (sumN i (hT (isF n F) D (Int.toNat k)))), (0, ((i : Nat) : Int)), (9, 0)] [] M1 (j_ret mX6_h (fun z M' => z = A_h D n F k ∧ KS P D n F O tl tb fa (u2 (bT n) (bK D k)) 0 M' ∧ KM M M')) := by
  intro fu
  induction fu with
  | zero => intro i f1 hfu; exact absurd hfu (Nat.not_lt_zero _)
  | succ fu ih =>
    intro i f1 hfu
    have hR := hS.1
    have hn12 := KR.hn hR
    have hP7 := KR.hP hR
    have hD5 := KR.hD hR
    have h2P : 2 ^ P ≤ 128 := Nat.pow_le_pow_right (n := 2) (by decide) hP7
    have h2p := Nat.two_pow_pos P
    have hR1 : KR P D n F O M1 := by rw [hM1]; exact kr_up (by decide) hR
    have hkn := bK_n h12
    refine J_iload_n dX6_h_22 rfl ?_
    refine J_iload_n dX6_h_23 rfl ?_
    refine J_icmp_gt (tgt := 78) dX6_h_24 rfl (j_R (by have := bK_n h12; omega)) (j_R (by have := bK_n h12; omega)) (fun h24 => ?_) (fun h24 => ?_)
    ·
      refine J_iload_n dX6_h_78 rfl ?_
      refine J_ireturn dX6_h_79 rfl ?_
      have e : i = (Int.toNat k) + 1 := by omega
      subst e
      subst hM1
      exact ⟨by unfold A_h; rw [if_pos h12], ks_tr u2_4 hS, km_up (by decide) km_rf⟩
    ·
      refine J_aload_n dX6_h_27 rfl ?_
      refine J_getR dX6_h_28 flX6_19 rfl rfl ?_
      refine J_iload_n dX6_h_31 rfl ?_
      refine J_callViQ (cl := mX0_countSized) [(0, ((i : Nat) : Int))] [] dX6_h_32 mlX6_136 cvX0_countSized rfl rfl rfl rfl rfl (by decide) (Nat.le_of_ble_eq_true rfl) rfl (ev_X0_countSized P D n F O M1 hR1 ((i : Nat) : Int) (j_R (by have := bK_n h12; omega))) ?_
      refine J_aload_n dX6_h_35 rfl ?_
      refine J_getR dX6_h_36 flX6_19 rfl rfl ?_
      refine J_getI dX6_h_39 flX6_99 rfl rfl (J_top (v := ((D : Nat) : Int)) (KR.gD hR1) ?_)
      refine J_iload_n dX6_h_42 rfl ?_
      refine J_isub dX6_h_43 (J_top (v := (((D - i) : Nat) : Int)) (by omega) ?_)
      refine J_iload_n dX6_h_44 rfl ?_
      refine J_iload_n dX6_h_45 rfl ?_
      refine J_isub dX6_h_46 (J_top (v := ((((Int.toNat k) - i) : Nat) : Int)) (by omega) ?_)
      refine J_callSiQ (cl := mX0_choose) [(0, (((D - i) : Nat) : Int)), (0, ((((Int.toNat k) - i) : Nat) : Int))] [(0, (((cntN 128 (fun s => isF n F s && decide ((popc s : Int) = ((i : Nat) : Int)))) : Nat) : Int))] dX6_h_47 mlX6_142 csX0_choose rfl rfl (by decide) (Nat.le_of_ble_eq_true rfl) rfl (ev_X0_choose (D - i) ((Int.toNat k) - i) (by omega) (by omega) M1) ?_
      refine J_imul dX6_h_50 (J_top (v := ((((cntN 128 (fun s => isF n F s && decide ((popc s : Int) = ((i : Nat) : Int)))) * (wys (D - i) ((Int.toNat k) - i))) : Nat) : Int)) (Int.natCast_mul _ _).symm ?_)
      refine J_istore (L' := [(10, 0), (0, (((Int.toNat k) : Nat) : Int)), (0, (sumN i (hT (isF n F) D (Int.toNat k)))), (0, ((i : Nat) : Int)), (0, ((((cntN 128 (fun s => isF n F s && decide ((popc s : Int) = ((i : Nat) : Int)))) * (wys (D - i) ((Int.toNat k) - i))) : Nat) : Int))]) dX6_h_51 (by decide) rfl rfl ?_
      refine J_iload_n dX6_h_53 rfl ?_
      refine J_iload_n dX6_h_54 rfl ?_
      refine J_iload_n dX6_h_55 rfl ?_
      refine J_isub dX6_h_56 (J_top (v := ((((Int.toNat k) - i) : Nat) : Int)) (by omega) ?_)
      refine J_iconst dX6_h_57 ?_
      refine J_irem dX6_h_58 (by decide) (by decide) (J_top (v := (((((Int.toNat k) - i) % 2) : Nat) : Int)) (j_remN rfl rfl (by omega) (by decide)) ?_)
      refine J_if_ne (tgt := 67) dX6_h_59 rfl (j_R (by omega)) (fun h59 => ?_) (fun h59 => ?_)
      ·
        refine J_iload dX6_h_67 rfl ?_
        refine J_ineg dX6_h_69 ?_
        refine J_iadd dX6_h_70 ?_
        refine J_istore_n (L' := [(10, 0), (0, (((Int.toNat k) : Nat) : Int)), (0, ((sumN i (hT (isF n F) D (Int.toNat k))) + (-((((cntN 128 (fun s => isF n F s && decide ((popc s : Int) = ((i : Nat) : Int)))) * (wys (D - i) ((Int.toNat k) - i))) : Nat) : Int)))), (0, ((i : Nat) : Int)), (0, ((((cntN 128 (fun s => isF n F s && decide ((popc s : Int) = ((i : Nat) : Int)))) * (wys (D - i) ((Int.toNat k) - i))) : Nat) : Int))]) dX6_h_71 (by decide) rfl rfl ?_
        refine J_eq (L' := [(10, 0), (0, (((Int.toNat k) : Nat) : Int)), (0, (sumN (i + 1) (hT (isF n F) D (Int.toNat k)))), (0, ((i : Nat) : Int)), (0, ((((cntN 128 (fun s => isF n F s && decide ((popc s : Int) = ((i : Nat) : Int)))) * (wys (D - i) ((Int.toNat k) - i))) : Nat) : Int))]) (by simp only [sumN]; rw [h_f (by omega)]; rfl) rfl rfl ?_
        refine J_iinc (v := (((i + 1) : Nat) : Int)) (L' := [(10, 0), (0, (((Int.toNat k) : Nat) : Int)), (0, (sumN (i + 1) (hT (isF n F) D (Int.toNat k)))), (0, (((i + 1) : Nat) : Int)), (0, ((((cntN 128 (fun s => isF n F s && decide ((popc s : Int) = ((i : Nat) : Int)))) * (wys (D - i) ((Int.toNat k) - i))) : Nat) : Int))]) dX6_h_72 rfl (by omega) (by decide) rfl rfl ?_
        refine J_goto (tgt := 22) dX6_h_75 rfl ?_
        refine J_unset 4 (L' := [(10, 0), (0, (((Int.toNat k) : Nat) : Int)), (0, (sumN (i + 1) (hT (isF n F) D (Int.toNat k)))), (0, (((i + 1) : Nat) : Int)), (9, 0)]) rfl ?_
        exact ih _ (by omega) (by omega)
      ·
        refine J_iload dX6_h_62 rfl ?_
        refine J_goto (tgt := 70) dX6_h_64 rfl ?_
        refine J_iadd dX6_h_70 ?_
        refine J_istore_n (L' := [(10, 0), (0, (((Int.toNat k) : Nat) : Int)), (0, ((sumN i (hT (isF n F) D (Int.toNat k))) + ((((cntN 128 (fun s => isF n F s && decide ((popc s : Int) = ((i : Nat) : Int)))) * (wys (D - i) ((Int.toNat k) - i))) : Nat) : Int))), (0, ((i : Nat) : Int)), (0, ((((cntN 128 (fun s => isF n F s && decide ((popc s : Int) = ((i : Nat) : Int)))) * (wys (D - i) ((Int.toNat k) - i))) : Nat) : Int))]) dX6_h_71 (by decide) rfl rfl ?_
        refine J_eq (L' := [(10, 0), (0, (((Int.toNat k) : Nat) : Int)), (0, (sumN (i + 1) (hT (isF n F) D (Int.toNat k)))), (0, ((i : Nat) : Int)), (0, ((((cntN 128 (fun s => isF n F s && decide ((popc s : Int) = ((i : Nat) : Int)))) * (wys (D - i) ((Int.toNat k) - i))) : Nat) : Int))]) (by simp only [sumN]; rw [h_t (by omega)]; rfl) rfl rfl ?_
        refine J_iinc (v := (((i + 1) : Nat) : Int)) (L' := [(10, 0), (0, (((Int.toNat k) : Nat) : Int)), (0, (sumN (i + 1) (hT (isF n F) D (Int.toNat k)))), (0, (((i + 1) : Nat) : Int)), (0, ((((cntN 128 (fun s => isF n F s && decide ((popc s : Int) = ((i : Nat) : Int)))) * (wys (D - i) ((Int.toNat k) - i))) : Nat) : Int))]) dX6_h_72 rfl (by omega) (by decide) rfl rfl ?_
        refine J_goto (tgt := 22) dX6_h_75 rfl ?_
        refine J_unset 4 (L' := [(10, 0), (0, (((Int.toNat k) : Nat) : Int)), (0, (sumN (i + 1) (hT (isF n F) D (Int.toNat k)))), (0, (((i + 1) : Nat) : Int)), (9, 0)]) rfl ?_
        exact ih _ (by omega) (by omega)
set_option maxRecDepth 100000 in
set_option maxHeartbeats 4000000 in
theorem ev_X6_h (P D n : Nat) (F O : Nat → Nat) (tl : Nat) (tb : Nat → Nat) (fa tr wh : Int) (M : jM) (hS : KS P D n F O tl tb fa tr wh M) (k : Int) (hk : -2147483648 ≤ k ∧ k < 2147483648) : Ev 3 mX6_h [(10, 0), (0, k)] M (fun z M' => z = A_h D n F k ∧ KS P D n F O tl tb fa (u2 (bT n) (bK D k)) 0 M' ∧ KM M M') := by
  refine Ev_of (by decide +kernel) (Nat.le_of_ble_eq_true rfl) (L := [(10, 0), (0, k), (9, 0), (9, 0), (9, 0)]) rfl ?_
  have hR := hS.1
  have hn12 := KR.hn hR
  have hP7 := KR.hP hR
  have hD5 := KR.hD hR
  have h2P : 2 ^ P ≤ 128 := Nat.pow_le_pow_right (n := 2) (by decide) hP7
  have h2p := Nat.two_pow_pos P
  refine J_aload_n dX6_h_0 rfl ?_
  refine J_iload_n dX6_h_1 rfl ?_
  refine J_aload_n dX6_h_2 rfl ?_
  refine J_getR dX6_h_3 flX6_19 rfl rfl ?_
  refine J_getI dX6_h_6 flX6_99 rfl rfl (J_top (v := ((D : Nat) : Int)) (KR.gD hR) ?_)
  refine J_callViQ (cl := mX6_refusesUpTo) [(0, k), (0, ((D : Nat) : Int))] [] dX6_h_9 mlX6_132 cvX6_refusesUpTo rfl rfl rfl rfl rfl (by decide) (Nat.le_of_ble_eq_true rfl) rfl (ev_X6_refusesUpTo P D n F O M hR k (by omega) D (by omega)) ?_
  refine J_ifn_eq (b := (bT n && bK D k)) (tgt := 18) dX6_h_12 rfl (fun h12 => ?_) (fun h12 => ?_)
  ·
    have hkn := bK_n h12
    refine J_eq (L' := [(10, 0), (0, (((Int.toNat k) : Nat) : Int)), (9, 0), (9, 0), (9, 0)]) (by have := bK_n h12; rw [Int.toNat_of_nonneg (by omega)]) rfl rfl ?_
    refine J_iconst dX6_h_18 ?_
    refine J_istore_n (L' := [(10, 0), (0, (((Int.toNat k) : Nat) : Int)), (0, 0), (9, 0), (9, 0)]) dX6_h_19 (by decide) rfl rfl ?_
    refine J_eq (L' := [(10, 0), (0, (((Int.toNat k) : Nat) : Int)), (0, (sumN 0 (hT (isF n F) D (Int.toNat k)))), (9, 0), (9, 0)]) rfl rfl rfl ?_
    refine J_iconst dX6_h_20 ?_
    refine J_istore_n (L' := [(10, 0), (0, (((Int.toNat k) : Nat) : Int)), (0, (sumN 0 (hT (isF n F) D (Int.toNat k)))), (0, 0), (9, 0)]) dX6_h_21 (by decide) rfl rfl ?_
    refine J_eq (L' := [(10, 0), (0, (((Int.toNat k) : Nat) : Int)), (0, (sumN 0 (hT (isF n F) D (Int.toNat k)))), (0, ((0 : Nat) : Int)), (9, 0)]) rfl rfl rfl ?_
    exact ev_X6_h_L22 P D n F O tl tb fa tr wh M hS k hk _ rfl h12 _ _ (by omega) (Nat.lt_succ_self _)
  ·
    refine J_ldc (n := -2147483648) dX6_h_15 kcX6_141 ?_
    refine J_ireturn dX6_h_17 rfl ?_
    exact ⟨by unfold A_h; rw [h12]; rfl, ks_tr u2_4 hS, km_up (by decide) km_rf⟩
set_option maxRecDepth 100000 in
set_option maxHeartbeats 4000000 in
theorem ev_X6_euler_L14 (P D n : Nat) (F O : Nat → Nat) (tl : Nat) (tb : Nat → Nat) (fa tr wh : Int) (M : jM) (hS : KS P D n F O tl tb fa tr wh M) (M1 : jM) (hM1 : M1 = j_up M 0 6 (u1 (bT n))) (h4 : bT n = true) : ∀ (fu : Nat) (c : Int) (k : Nat) (f1 : c = sumN k (fun k => (if k % 2 = 1 then (1 : Int) else -1) * (cntN 128 (fun s => isF n F s && decide ((popc s : Int) = (k : Int))) : Int))) (f2 : k ≤ D + 1) (hfu : D + 1 - k < fu), J none 2 mX6_euler 14 [(10, 0), (0, c), (0, ((k : Nat) : Int))] [] M1 (j_ret mX6_euler (fun z M' => z = A_euler n F ∧ KS P D n F O tl tb fa (u1 (bT n)) 0 M' ∧ KM M M')) := by
  intro fu
  induction fu with
  | zero => intro c k f1 f2 hfu; exact absurd hfu (Nat.not_lt_zero _)
  | succ fu ih =>
    intro c k f1 f2 hfu
    have hR := hS.1
    have hn12 := KR.hn hR
    have hP7 := KR.hP hR
    have hD5 := KR.hD hR
    have h2P : 2 ^ P ≤ 128 := Nat.pow_le_pow_right (n := 2) (by decide) hP7
    have h2p := Nat.two_pow_pos P
    have hR1 : KR P D n F O M1 := by rw [hM1]; exact kr_up (by decide) hR
    refine J_iload_n dX6_euler_14 rfl ?_
    refine J_aload_n dX6_euler_15 rfl ?_
    refine J_getR dX6_euler_16 flX6_19 rfl rfl ?_
    refine J_getI dX6_euler_19 flX6_99 rfl rfl (J_top (v := ((D : Nat) : Int)) (KR.gD hR1) ?_)
    refine J_icmp_gt (tgt := 61) dX6_euler_22 rfl (j_R (by omega)) (j_R (by omega)) (fun h22 => ?_) (fun h22 => ?_)
    ·
      refine J_iload_n dX6_euler_61 rfl ?_
      refine J_ireturn dX6_euler_62 rfl ?_
      have e : k = D + 1 := by omega
      subst e
      rw [f1, eu_eq hR.wf]
      subst hM1
      exact ⟨by unfold A_euler; rw [if_pos h4], ks_tr u1_4 hS, km_up (by decide) km_rf⟩
    ·
      refine J_iload_n dX6_euler_25 rfl ?_
      refine J_iload_n dX6_euler_26 rfl ?_
      refine J_iconst dX6_euler_27 ?_
      refine J_irem dX6_euler_28 (by decide) (by decide) (J_top (v := (((k % 2) : Nat) : Int)) (j_remN rfl rfl (by omega) (by decide)) ?_)
      refine J_iconst dX6_euler_29 ?_
      refine J_icmp_ne (tgt := 44) dX6_euler_30 rfl (j_R (by omega)) (by decide) (fun h30 => ?_) (fun h30 => ?_)
      ·
        refine J_aload_n dX6_euler_44 rfl ?_
        refine J_getR dX6_euler_45 flX6_19 rfl rfl ?_
        refine J_iload_n dX6_euler_48 rfl ?_
        refine J_callViQ (cl := mX0_countSized) [(0, ((k : Nat) : Int))] [(0, c)] dX6_euler_49 mlX6_136 cvX0_countSized rfl rfl rfl rfl rfl (by decide) (Nat.le_of_ble_eq_true rfl) rfl (ev_X0_countSized P D n F O M1 hR1 ((k : Nat) : Int) (j_R (by omega))) ?_
        refine J_ineg dX6_euler_52 ?_
        refine J_iadd dX6_euler_53 ?_
        refine J_istore_n (L' := [(10, 0), (0, (c + (-(((cntN 128 (fun s => isF n F s && decide ((popc s : Int) = ((k : Nat) : Int)))) : Nat) : Int)))), (0, ((k : Nat) : Int))]) dX6_euler_54 (by decide) rfl rfl ?_
        refine J_iinc (v := (((k + 1) : Nat) : Int)) (L' := [(10, 0), (0, (c + (-(((cntN 128 (fun s => isF n F s && decide ((popc s : Int) = ((k : Nat) : Int)))) : Nat) : Int)))), (0, (((k + 1) : Nat) : Int))]) dX6_euler_55 rfl (by omega) (by decide) rfl rfl ?_
        refine J_goto (tgt := 14) dX6_euler_58 rfl ?_
        exact ih _ _ (by rw [f1]; simp only [sumN]; rw [if_neg (by omega)]; omega) (by omega) (by omega)
      ·
        refine J_aload_n dX6_euler_33 rfl ?_
        refine J_getR dX6_euler_34 flX6_19 rfl rfl ?_
        refine J_iload_n dX6_euler_37 rfl ?_
        refine J_callViQ (cl := mX0_countSized) [(0, ((k : Nat) : Int))] [(0, c)] dX6_euler_38 mlX6_136 cvX0_countSized rfl rfl rfl rfl rfl (by decide) (Nat.le_of_ble_eq_true rfl) rfl (ev_X0_countSized P D n F O M1 hR1 ((k : Nat) : Int) (j_R (by omega))) ?_
        refine J_goto (tgt := 53) dX6_euler_41 rfl ?_
        refine J_iadd dX6_euler_53 ?_
        refine J_istore_n (L' := [(10, 0), (0, (c + (((cntN 128 (fun s => isF n F s && decide ((popc s : Int) = ((k : Nat) : Int)))) : Nat) : Int))), (0, ((k : Nat) : Int))]) dX6_euler_54 (by decide) rfl rfl ?_
        refine J_iinc (v := (((k + 1) : Nat) : Int)) (L' := [(10, 0), (0, (c + (((cntN 128 (fun s => isF n F s && decide ((popc s : Int) = ((k : Nat) : Int)))) : Nat) : Int))), (0, (((k + 1) : Nat) : Int))]) dX6_euler_55 rfl (by omega) (by decide) rfl rfl ?_
        refine J_goto (tgt := 14) dX6_euler_58 rfl ?_
        exact ih _ _ (by rw [f1]; simp only [sumN]; rw [if_pos (by omega)]; omega) (by omega) (by omega)
set_option maxRecDepth 100000 in
set_option maxHeartbeats 4000000 in
theorem ev_X6_euler (P D n : Nat) (F O : Nat → Nat) (tl : Nat) (tb : Nat → Nat) (fa tr wh : Int) (M : jM) (hS : KS P D n F O tl tb fa tr wh M) : Ev 2 mX6_euler [(10, 0)] M (fun z M' => z = A_euler n F ∧ KS P D n F O tl tb fa (u1 (bT n)) 0 M' ∧ KM M M') := by
  refine Ev_of (by decide +kernel) (Nat.le_of_ble_eq_true rfl) (L := [(10, 0), (9, 0), (9, 0)]) rfl ?_
  have hR := hS.1
  have hn12 := KR.hn hR
  have hP7 := KR.hP hR
  have hD5 := KR.hD hR
  have h2P : 2 ^ P ≤ 128 := Nat.pow_le_pow_right (n := 2) (by decide) hP7
  have h2p := Nat.two_pow_pos P
  refine J_aload_n dX6_euler_0 rfl ?_
  refine J_callViQ (cl := mX6_refusesEmpty) [] [] dX6_euler_1 mlX6_146 cvX6_refusesEmpty rfl rfl rfl rfl rfl (by decide) (Nat.le_of_ble_eq_true rfl) rfl (ev_X6_refusesEmpty P D n F O M hR) ?_
  refine J_ifn_eq (b := bT n) (tgt := 10) dX6_euler_4 rfl (fun h4 => ?_) (fun h4 => ?_)
  ·
    refine J_iconst dX6_euler_10 ?_
    refine J_istore_n (L' := [(10, 0), (0, 0), (9, 0)]) dX6_euler_11 (by decide) rfl rfl ?_
    refine J_iconst dX6_euler_12 ?_
    refine J_istore_n (L' := [(10, 0), (0, 0), (0, 0)]) dX6_euler_13 (by decide) rfl rfl ?_
    refine J_eq (L' := [(10, 0), (0, 0), (0, ((0 : Nat) : Int))]) rfl rfl rfl ?_
    exact ev_X6_euler_L14 P D n F O tl tb fa tr wh M hS _ rfl h4 _ _ _ (by rfl) (by omega) (Nat.lt_succ_self _)
  ·
    refine J_ldc (n := -2147483648) dX6_euler_7 kcX6_141 ?_
    refine J_ireturn dX6_euler_9 rfl ?_
    exact ⟨by unfold A_euler; rw [h4]; rfl, ks_tr u1_4 hS, km_up (by decide) km_rf⟩
set_option maxRecDepth 100000 in
set_option maxHeartbeats 4000000 in
theorem ev_X6_mean_L15 (P D n : Nat) (F O : Nat → Nat) (tl : Nat) (tb : Nat → Nat) (fa tr wh : Int) (M : jM) (hS : KS P D n F O tl tb fa tr wh M) (M1 : jM) (hM1 : M1 = j_up M 0 6 (u1 (bT n))) (h4 : bT n = true) : ∀ (fu : Nat) (k : Nat) (f2 : k ≤ n) (hfu : n - k < fu), J none 2 mX6_mean 15 [(10, 0), (0, (((smN k (fun k => popc (rst F O k))) : Nat) : Int)), (0, ((k : Nat) : Int))] [] M1 (j_ret mX6_mean (fun z M' => z = A_mean n F O ∧ KS P D n F O tl tb fa (u1 (bT n)) 0 M' ∧ KM M M')) := by
  intro fu
  induction fu with
  | zero => intro k f2 hfu; exact absurd hfu (Nat.not_lt_zero _)
  | succ fu ih =>
    intro k f2 hfu
    have hR := hS.1
    have hn12 := KR.hn hR
    have hP7 := KR.hP hR
    have hD5 := KR.hD hR
    have h2P : 2 ^ P ≤ 128 := Nat.pow_le_pow_right (n := 2) (by decide) hP7
    have h2p := Nat.two_pow_pos P
    have hR1 : KR P D n F O M1 := by rw [hM1]; exact kr_up (by decide) hR
    refine J_iload_n dX6_mean_15 rfl ?_
    refine J_aload_n dX6_mean_16 rfl ?_
    refine J_getR dX6_mean_17 flX6_19 rfl rfl ?_
    refine J_getI dX6_mean_20 flX6_84 rfl rfl (J_top (v := ((n : Nat) : Int)) (KR.gn hR1) ?_)
    refine J_icmp_ge (tgt := 50) dX6_mean_23 rfl (j_R (by omega)) (j_R (by omega)) (fun h23 => ?_) (fun h23 => ?_)
    ·
      refine J_aload_n dX6_mean_50 rfl ?_
      refine J_getR dX6_mean_51 flX6_19 rfl rfl ?_
      refine J_getI dX6_mean_54 flX6_84 rfl rfl (J_top (v := ((n : Nat) : Int)) (KR.gn hR1) ?_)
      refine J_if_ne (tgt := 66) dX6_mean_57 rfl (j_R (by omega)) (fun h57 => ?_) (fun h57 => ?_)
      ·
        refine J_eq (L' := [(10, 0), (0, (((smN n (fun k => popc (rst F O k))) : Nat) : Int)), (0, ((k : Nat) : Int))]) (by rw [show k = n by omega]) rfl rfl ?_
        refine J_iload_n dX6_mean_66 rfl ?_
        refine J_i2d dX6_mean_67 ?_
        refine J_aload_n dX6_mean_68 rfl ?_
        refine J_getR dX6_mean_69 flX6_19 rfl rfl ?_
        refine J_getI dX6_mean_72 flX6_84 rfl rfl (J_top (v := ((n : Nat) : Int)) (KR.gn hR1) ?_)
        refine J_i2d dX6_mean_75 ?_
        refine J_ddiv dX6_mean_76 (mn_ne hR.wf (bT_n h4)) ?_
        refine J_dreturn dX6_mean_77 rfl ?_
        subst hM1
        exact ⟨by unfold A_mean; rw [if_pos h4]; rfl, ks_tr u1_4 hS, km_up (by decide) km_rf⟩
      · have := bT_n h4; omega
    ·
      refine J_iload_n dX6_mean_26 rfl ?_
      refine J_aload_n dX6_mean_27 rfl ?_
      refine J_getR dX6_mean_28 flX6_26 rfl rfl ?_
      refine J_aload_n dX6_mean_31 rfl ?_
      refine J_getR dX6_mean_32 flX6_19 rfl rfl ?_
      refine J_iload_n dX6_mean_35 rfl ?_
      refine J_callViQ (cl := mX3_restriction) [(14, 0), (0, ((k : Nat) : Int))] [(0, (((smN k (fun k => popc (rst F O k))) : Nat) : Int))] dX6_mean_36 mlX6_181 cvX3_restriction rfl rfl rfl rfl rfl (by decide) (Nat.le_of_ble_eq_true rfl) rfl (ev_X3_restriction P D n F O M1 hR1 k (by omega)) ?_
      refine J_callSiQ (cl := mJ6_bitCount_0f7a4) [(0, (((rst F O k) : Nat) : Int))] [(0, (((smN k (fun k => popc (rst F O k))) : Nat) : Int))] dX6_mean_39 mlX6_207 csJ6_bitCount_0f7a4 rfl rfl (by decide) (Nat.le_of_ble_eq_true rfl) rfl (ev_bitCount (rst F O k) (by have := rst128 F O k; omega) M1) ?_
      refine J_iadd dX6_mean_42 (J_top (v := ((((smN k (fun k => popc (rst F O k))) + (popc (rst F O k))) : Nat) : Int)) (by omega) ?_)
      refine J_istore_n (L' := [(10, 0), (0, ((((smN k (fun k => popc (rst F O k))) + (popc (rst F O k))) : Nat) : Int)), (0, ((k : Nat) : Int))]) dX6_mean_43 (by decide) rfl rfl ?_
      refine J_eq (L' := [(10, 0), (0, (((smN (k + 1) (fun k => popc (rst F O k))) : Nat) : Int)), (0, ((k : Nat) : Int))]) rfl rfl rfl ?_
      refine J_iinc (v := (((k + 1) : Nat) : Int)) (L' := [(10, 0), (0, (((smN (k + 1) (fun k => popc (rst F O k))) : Nat) : Int)), (0, (((k + 1) : Nat) : Int))]) dX6_mean_44 rfl (by omega) (by decide) rfl rfl ?_
      refine J_goto (tgt := 15) dX6_mean_47 rfl ?_
      exact ih _ (by omega) (by omega)
set_option maxRecDepth 100000 in
set_option maxHeartbeats 4000000 in
theorem ev_X6_mean (P D n : Nat) (F O : Nat → Nat) (tl : Nat) (tb : Nat → Nat) (fa tr wh : Int) (M : jM) (hS : KS P D n F O tl tb fa tr wh M) : Ev 2 mX6_mean [(10, 0)] M (fun z M' => z = A_mean n F O ∧ KS P D n F O tl tb fa (u1 (bT n)) 0 M' ∧ KM M M') := by
  refine Ev_of (by decide +kernel) (Nat.le_of_ble_eq_true rfl) (L := [(10, 0), (9, 0), (9, 0)]) rfl ?_
  have hR := hS.1
  have hn12 := KR.hn hR
  have hP7 := KR.hP hR
  have hD5 := KR.hD hR
  have h2P : 2 ^ P ≤ 128 := Nat.pow_le_pow_right (n := 2) (by decide) hP7
  have h2p := Nat.two_pow_pos P
  refine J_aload_n dX6_mean_0 rfl ?_
  refine J_callViQ (cl := mX6_refusesEmpty) [] [] dX6_mean_1 mlX6_146 cvX6_refusesEmpty rfl rfl rfl rfl rfl (by decide) (Nat.le_of_ble_eq_true rfl) rfl (ev_X6_refusesEmpty P D n F O M hR) ?_
  refine J_ifn_eq (b := bT n) (tgt := 11) dX6_mean_4 rfl (fun h4 => ?_) (fun h4 => ?_)
  ·
    refine J_iconst dX6_mean_11 ?_
    refine J_istore_n (L' := [(10, 0), (0, 0), (9, 0)]) dX6_mean_12 (by decide) rfl rfl ?_
    refine J_eq (L' := [(10, 0), (0, (((smN 0 (fun k => popc (rst F O k))) : Nat) : Int)), (9, 0)]) rfl rfl rfl ?_
    refine J_iconst dX6_mean_13 ?_
    refine J_istore_n (L' := [(10, 0), (0, (((smN 0 (fun k => popc (rst F O k))) : Nat) : Int)), (0, 0)]) dX6_mean_14 (by decide) rfl rfl ?_
    refine J_eq (L' := [(10, 0), (0, (((smN 0 (fun k => popc (rst F O k))) : Nat) : Int)), (0, ((0 : Nat) : Int))]) rfl rfl rfl ?_
    exact ev_X6_mean_L15 P D n F O tl tb fa tr wh M hS _ rfl h4 _ _ (by omega) (Nat.lt_succ_self _)
  ·
    refine J_ldc2d (n := 13830554455654793216) dX6_mean_7 kdX6_205 ?_
    refine J_dreturn dX6_mean_10 rfl ?_
    exact ⟨by unfold A_mean; rw [h4]; rfl, ks_tr u1_4 hS, km_up (by decide) km_rf⟩
set_option maxRecDepth 100000 in
set_option maxHeartbeats 4000000 in
theorem ev_X6_fresh_L14 (P D n : Nat) (F O : Nat → Nat) (tl : Nat) (tb : Nat → Nat) (fa tr wh : Int) (M : jM) (hS : KS P D n F O tl tb fa tr wh M) (i : Int) (hi : -2147483648 ≤ i ∧ i < 2147483648) (M1 : jM) (hM1 : M1 = j_up M 0 6 (u1 (bI n i))) (h5 : bI n i = true) : ∀ (fu : Nat) (c s : Nat) (f1 : c = cntN s (fun s => decide (fstN n (fun k => sbs s (F (O k))) (-2) = i))) (f2 : s ≤ 2 ^ P) (hfu : 2 ^ P - s < fu), J none 2 mX6_fresh 14 [(10, 0), (0, i), (0, ((c : Nat) : Int)), (0, ((s : Nat) : Int))] [] M1 (j_ret mX6_fresh (fun z M' => z = A_fresh P n F O i ∧ KS P D n F O tl tb fa (u1 (bI n i)) 0 M' ∧ KM M M')) := by
  intro fu
  induction fu with
  | zero => intro c s f1 f2 hfu; exact absurd hfu (Nat.not_lt_zero _)
  | succ fu ih =>
    intro c s f1 f2 hfu
    have hR := hS.1
    have hn12 := KR.hn hR
    have hP7 := KR.hP hR
    have hD5 := KR.hD hR
    have h2P : 2 ^ P ≤ 128 := Nat.pow_le_pow_right (n := 2) (by decide) hP7
    have h2p := Nat.two_pow_pos P
    have hR1 : KR P D n F O M1 := by rw [hM1]; exact kr_up (by decide) hR
    refine J_iload_n dX6_fresh_14 rfl ?_
    refine J_aload_n dX6_fresh_15 rfl ?_
    refine J_getR dX6_fresh_16 flX6_19 rfl rfl ?_
    refine J_callViQ (cl := mX0_everyPoint) [] [(0, ((s : Nat) : Int))] dX6_fresh_19 mlX6_159 cvX0_everyPoint rfl rfl rfl rfl rfl (by decide) (Nat.le_of_ble_eq_true rfl) rfl (ev_X0_everyPoint P D n F O M1 hR1 ) ?_
    refine J_icmp_gt (tgt := 50) dX6_fresh_22 rfl (j_R (by omega)) (j_R (kp31 hR1)) (fun h22 => ?_) (fun h22 => ?_)
    ·
      refine J_iload_n dX6_fresh_50 rfl ?_
      refine J_ireturn dX6_fresh_51 rfl ?_
      have e : s = 2 ^ P := by omega
      subst e
      rw [f1]
      subst hM1
      exact ⟨by unfold A_fresh; rw [if_pos h5], ks_tr u1_4 hS, km_up (by decide) km_rf⟩
    ·
      refine J_aload_n dX6_fresh_25 rfl ?_
      refine J_getR dX6_fresh_26 flX6_26 rfl rfl ?_
      refine J_aload_n dX6_fresh_29 rfl ?_
      refine J_getR dX6_fresh_30 flX6_19 rfl rfl ?_
      refine J_iload_n dX6_fresh_33 rfl ?_
      refine J_callViQ (cl := mX3_firstWith) [(14, 0), (0, ((s : Nat) : Int))] [] dX6_fresh_34 mlX6_210 cvX3_firstWith rfl rfl rfl rfl rfl (by decide) (Nat.le_of_ble_eq_true rfl) rfl (ev_X3_firstWith P D n F O M1 hR1 s (by omega)) ?_
      refine J_iload_n dX6_fresh_37 rfl ?_
      refine J_icmp_ne (tgt := 44) dX6_fresh_38 rfl (fstK hR1 _ _) (by omega) (fun h38 => ?_) (fun h38 => ?_)
      ·
        refine J_iinc (v := (((s + 1) : Nat) : Int)) (L' := [(10, 0), (0, i), (0, ((c : Nat) : Int)), (0, (((s + 1) : Nat) : Int))]) dX6_fresh_44 rfl (by omega) (by decide) rfl rfl ?_
        refine J_goto (tgt := 14) dX6_fresh_47 rfl ?_
        exact ih _ _ (by rw [cntN_f (by exact decide_eq_false (by omega)), f1]) (by omega) (by omega)
      ·
        refine J_iinc (v := (((c + 1) : Nat) : Int)) (L' := [(10, 0), (0, i), (0, (((c + 1) : Nat) : Int)), (0, ((s : Nat) : Int))]) dX6_fresh_41 rfl (by omega) (by decide) rfl rfl ?_
        refine J_iinc (v := (((s + 1) : Nat) : Int)) (L' := [(10, 0), (0, i), (0, (((c + 1) : Nat) : Int)), (0, (((s + 1) : Nat) : Int))]) dX6_fresh_44 rfl (by omega) (by decide) rfl rfl ?_
        refine J_goto (tgt := 14) dX6_fresh_47 rfl ?_
        exact ih _ _ (by rw [cntN_t (by exact decide_eq_true (by omega)), f1]) (by omega) (by omega)
set_option maxRecDepth 100000 in
set_option maxHeartbeats 4000000 in
theorem ev_X6_fresh (P D n : Nat) (F O : Nat → Nat) (tl : Nat) (tb : Nat → Nat) (fa tr wh : Int) (M : jM) (hS : KS P D n F O tl tb fa tr wh M) (i : Int) (hi : -2147483648 ≤ i ∧ i < 2147483648) : Ev 2 mX6_fresh [(10, 0), (0, i)] M (fun z M' => z = A_fresh P n F O i ∧ KS P D n F O tl tb fa (u1 (bI n i)) 0 M' ∧ KM M M') := by
  refine Ev_of (by decide +kernel) (Nat.le_of_ble_eq_true rfl) (L := [(10, 0), (0, i), (9, 0), (9, 0)]) rfl ?_
  have hR := hS.1
  have hn12 := KR.hn hR
  have hP7 := KR.hP hR
  have hD5 := KR.hD hR
  have h2P : 2 ^ P ≤ 128 := Nat.pow_le_pow_right (n := 2) (by decide) hP7
  have h2p := Nat.two_pow_pos P
  refine J_aload_n dX6_fresh_0 rfl ?_
  refine J_iload_n dX6_fresh_1 rfl ?_
  refine J_callViQ (cl := mX6_refusesPlace) [(0, i)] [] dX6_fresh_2 mlX6_171 cvX6_refusesPlace rfl rfl rfl rfl rfl (by decide) (Nat.le_of_ble_eq_true rfl) rfl (ev_X6_refusesPlace P D n F O M hR i (by omega)) ?_
  refine J_ifn_eq (b := (bI n i)) (tgt := 10) dX6_fresh_5 rfl (fun h5 => ?_) (fun h5 => ?_)
  ·
    refine J_iconst dX6_fresh_10 ?_
    refine J_istore_n (L' := [(10, 0), (0, i), (0, 0), (9, 0)]) dX6_fresh_11 (by decide) rfl rfl ?_
    refine J_iconst dX6_fresh_12 ?_
    refine J_istore_n (L' := [(10, 0), (0, i), (0, 0), (0, 0)]) dX6_fresh_13 (by decide) rfl rfl ?_
    refine J_eq (L' := [(10, 0), (0, i), (0, ((0 : Nat) : Int)), (0, ((0 : Nat) : Int))]) rfl rfl rfl ?_
    exact ev_X6_fresh_L14 P D n F O tl tb fa tr wh M hS i hi _ rfl h5 _ _ _ (by rfl) (by omega) (Nat.lt_succ_self _)
  ·
    refine J_iconst dX6_fresh_8 ?_
    refine J_ireturn dX6_fresh_9 rfl ?_
    exact ⟨by unfold A_fresh; rw [h5]; rfl, ks_tr u1_4 hS, km_up (by decide) km_rf⟩
set_option maxRecDepth 100000 in
set_option maxHeartbeats 4000000 in
theorem ev_X6_unparted_L13 (P D n : Nat) (F O : Nat → Nat) (tl : Nat) (tb : Nat → Nat) (fa tr wh : Int) (M : jM) (hS : KS P D n F O tl tb fa tr wh M) (M1 : jM) (hM1 : M1 = j_up M 0 6 (u1 (bT n))) (h4 : bT n = true) : ∀ (fu : Nat) (c s : Nat) (f1 : c = cntN s (fun s => decide (¬ lyg n F s = 0) && decide (¬ cntN n (fun k => sbs s (F (O k)) && sbs (rst F O k) s) = 1))) (f2 : s ≤ 2 ^ P) (hfu : 2 ^ P - s < fu), J none 3 mX6_unparted 13 [(10, 0), (0, ((c : Nat) : Int)), (0, ((s : Nat) : Int))] [] M1 (j_ret mX6_unparted (fun z M' => z = A_unparted P n F O ∧ KS P D n F O tl tb fa (u1 (bT n)) 0 M' ∧ KM M M')) := by
  intro fu
  induction fu with
  | zero => intro c s f1 f2 hfu; exact absurd hfu (Nat.not_lt_zero _)
  | succ fu ih =>
    intro c s f1 f2 hfu
    have hR := hS.1
    have hn12 := KR.hn hR
    have hP7 := KR.hP hR
    have hD5 := KR.hD hR
    have h2P : 2 ^ P ≤ 128 := Nat.pow_le_pow_right (n := 2) (by decide) hP7
    have h2p := Nat.two_pow_pos P
    have hR1 : KR P D n F O M1 := by rw [hM1]; exact kr_up (by decide) hR
    refine J_iload_n dX6_unparted_13 rfl ?_
    refine J_aload_n dX6_unparted_14 rfl ?_
    refine J_getR dX6_unparted_15 flX6_19 rfl rfl ?_
    refine J_callViQ (cl := mX0_everyPoint) [] [(0, ((s : Nat) : Int))] dX6_unparted_18 mlX6_159 cvX0_everyPoint rfl rfl rfl rfl rfl (by decide) (Nat.le_of_ble_eq_true rfl) rfl (ev_X0_everyPoint P D n F O M1 hR1 ) ?_
    refine J_icmp_gt (tgt := 60) dX6_unparted_21 rfl (j_R (by omega)) (j_R (kp31 hR1)) (fun h21 => ?_) (fun h21 => ?_)
    ·
      refine J_iload_n dX6_unparted_60 rfl ?_
      refine J_ireturn dX6_unparted_61 rfl ?_
      have e : s = 2 ^ P := by omega
      subst e
      rw [f1]
      subst hM1
      exact ⟨by unfold A_unparted; rw [if_pos h4], ks_tr u1_4 hS, km_up (by decide) km_rf⟩
    ·
      refine J_aload_n dX6_unparted_24 rfl ?_
      refine J_getR dX6_unparted_25 flX6_19 rfl rfl ?_
      refine J_iload_n dX6_unparted_28 rfl ?_
      refine J_callViQ (cl := mX0_isFace) [(0, ((s : Nat) : Int))] [] dX6_unparted_29 mlX6_216 cvX0_isFace rfl rfl rfl rfl rfl (by decide) (Nat.le_of_ble_eq_true rfl) rfl (ev_X0_isFace P D n F O M1 hR1 s (by omega)) ?_
      refine J_ifb_eq (tgt := 54) dX6_unparted_32 rfl (fun h32 => ?_) (fun h32 => ?_)
      ·
        refine J_iinc (v := (((s + 1) : Nat) : Int)) (L' := [(10, 0), (0, ((c : Nat) : Int)), (0, (((s + 1) : Nat) : Int))]) dX6_unparted_54 rfl (by omega) (by decide) rfl rfl ?_
        refine J_goto (tgt := 13) dX6_unparted_57 rfl ?_
        exact ih _ _ (by have e5 := lyg_isF n F s; rw [h32] at e5; rw [cntN_f (by rw [← e5]; rfl), f1]) (by omega) (by omega)
      ·
        refine J_aload_n dX6_unparted_35 rfl ?_
        refine J_getR dX6_unparted_36 flX6_26 rfl rfl ?_
        refine J_aload_n dX6_unparted_39 rfl ?_
        refine J_getR dX6_unparted_40 flX6_19 rfl rfl ?_
        refine J_iload_n dX6_unparted_43 rfl ?_
        refine J_callViQ (cl := mX3_countBetween) [(14, 0), (0, ((s : Nat) : Int))] [] dX6_unparted_44 mlX6_213 cvX3_countBetween rfl rfl rfl rfl rfl (by decide) (Nat.le_of_ble_eq_true rfl) rfl (ev_X3_countBetween P D n F O M1 hR1 s (by omega)) ?_
        refine J_iconst dX6_unparted_47 ?_
        refine J_icmp_eq (tgt := 54) dX6_unparted_48 rfl (j_R (cntK31 hR1 _)) (by decide) (fun h48 => ?_) (fun h48 => ?_)
        ·
          refine J_iinc (v := (((s + 1) : Nat) : Int)) (L' := [(10, 0), (0, ((c : Nat) : Int)), (0, (((s + 1) : Nat) : Int))]) dX6_unparted_54 rfl (by omega) (by decide) rfl rfl ?_
          refine J_goto (tgt := 13) dX6_unparted_57 rfl ?_
          exact ih _ _ (by have e5 := lyg_isF n F s; rw [h32] at e5; rw [cntN_f (by rw [decide_eq_false (p := ¬ cntN n (fun k => sbs s (F (O k)) && sbs (rst F O k) s) = 1) (by omega), Bool.and_false]), f1]) (by omega) (by omega)
        ·
          refine J_iinc (v := (((c + 1) : Nat) : Int)) (L' := [(10, 0), (0, (((c + 1) : Nat) : Int)), (0, ((s : Nat) : Int))]) dX6_unparted_51 rfl (by omega) (by decide) rfl rfl ?_
          refine J_iinc (v := (((s + 1) : Nat) : Int)) (L' := [(10, 0), (0, (((c + 1) : Nat) : Int)), (0, (((s + 1) : Nat) : Int))]) dX6_unparted_54 rfl (by omega) (by decide) rfl rfl ?_
          refine J_goto (tgt := 13) dX6_unparted_57 rfl ?_
          exact ih _ _ (by have e5 := lyg_isF n F s; rw [h32] at e5; rw [cntN_t (by rw [← e5, Bool.true_and]; exact decide_eq_true (by omega)), f1]) (by omega) (by omega)
set_option maxRecDepth 100000 in
set_option maxHeartbeats 4000000 in
theorem ev_X6_unparted (P D n : Nat) (F O : Nat → Nat) (tl : Nat) (tb : Nat → Nat) (fa tr wh : Int) (M : jM) (hS : KS P D n F O tl tb fa tr wh M) : Ev 3 mX6_unparted [(10, 0)] M (fun z M' => z = A_unparted P n F O ∧ KS P D n F O tl tb fa (u1 (bT n)) 0 M' ∧ KM M M') := by
  refine Ev_of (by decide +kernel) (Nat.le_of_ble_eq_true rfl) (L := [(10, 0), (9, 0), (9, 0)]) rfl ?_
  have hR := hS.1
  have hn12 := KR.hn hR
  have hP7 := KR.hP hR
  have hD5 := KR.hD hR
  have h2P : 2 ^ P ≤ 128 := Nat.pow_le_pow_right (n := 2) (by decide) hP7
  have h2p := Nat.two_pow_pos P
  refine J_aload_n dX6_unparted_0 rfl ?_
  refine J_callViQ (cl := mX6_refusesEmpty) [] [] dX6_unparted_1 mlX6_146 cvX6_refusesEmpty rfl rfl rfl rfl rfl (by decide) (Nat.le_of_ble_eq_true rfl) rfl (ev_X6_refusesEmpty P D n F O M hR) ?_
  refine J_ifn_eq (b := bT n) (tgt := 9) dX6_unparted_4 rfl (fun h4 => ?_) (fun h4 => ?_)
  ·
    refine J_iconst dX6_unparted_9 ?_
    refine J_istore_n (L' := [(10, 0), (0, 0), (9, 0)]) dX6_unparted_10 (by decide) rfl rfl ?_
    refine J_iconst dX6_unparted_11 ?_
    refine J_istore_n (L' := [(10, 0), (0, 0), (0, 0)]) dX6_unparted_12 (by decide) rfl rfl ?_
    refine J_eq (L' := [(10, 0), (0, ((0 : Nat) : Int)), (0, ((0 : Nat) : Int))]) rfl rfl rfl ?_
    exact ev_X6_unparted_L13 P D n F O tl tb fa tr wh M hS _ rfl h4 _ _ _ (by rfl) (by omega) (Nat.lt_succ_self _)
  ·
    refine J_iconst dX6_unparted_7 ?_
    refine J_ireturn dX6_unparted_8 rfl ?_
    exact ⟨by unfold A_unparted; rw [h4]; rfl, ks_tr u1_4 hS, km_up (by decide) km_rf⟩
set_option maxRecDepth 100000 in
set_option maxHeartbeats 4000000 in
theorem ev_X6_linear_L11 (P D n : Nat) (F O : Nat → Nat) (tl : Nat) (tb : Nat → Nat) (fa tr wh : Int) (M : jM) (hS : KS P D n F O tl tb fa tr wh M) (M1 : jM) (hM1 : M1 = j_up M 0 6 (u1 (bT n))) (h4 : bT n = true) : ∀ (fu : Nat) (k : Nat) (f1 : allN k (liN P F O) = true) (f2 : k ≤ n) (hfu : n - k < fu), J none 3 mX6_linear 11 [(10, 0), (0, ((k : Nat) : Int))] [] M1 (j_ret mX6_linear (fun z M' => z = A_linear P n F O ∧ KS P D n F O tl tb fa (u1 (bT n)) 0 M' ∧ KM M M')) := by
  intro fu
  induction fu with
  | zero => intro k f1 f2 hfu; exact absurd hfu (Nat.not_lt_zero _)
  | succ fu ih =>
    intro k f1 f2 hfu
    have hR := hS.1
    have hn12 := KR.hn hR
    have hP7 := KR.hP hR
    have hD5 := KR.hD hR
    have h2P : 2 ^ P ≤ 128 := Nat.pow_le_pow_right (n := 2) (by decide) hP7
    have h2p := Nat.two_pow_pos P
    have hR1 : KR P D n F O M1 := by rw [hM1]; exact kr_up (by decide) hR
    refine J_iload_n dX6_linear_11 rfl ?_
    refine J_aload_n dX6_linear_12 rfl ?_
    refine J_getR dX6_linear_13 flX6_19 rfl rfl ?_
    refine J_getI dX6_linear_16 flX6_84 rfl rfl (J_top (v := ((n : Nat) : Int)) (KR.gn hR1) ?_)
    refine J_icmp_ge (tgt := 45) dX6_linear_19 rfl (j_R (by omega)) (j_R (by omega)) (fun h19 => ?_) (fun h19 => ?_)
    ·
      refine J_iconst dX6_linear_45 ?_
      refine J_ireturn dX6_linear_46 rfl ?_
      have e : k = n := by omega
      subst e
      subst hM1
      exact ⟨by unfold A_linear; rw [if_pos h4, f1]; rfl, ks_tr u1_4 hS, km_up (by decide) km_rf⟩
    ·
      refine J_aload_n dX6_linear_22 rfl ?_
      refine J_getR dX6_linear_23 flX6_26 rfl rfl ?_
      refine J_aload_n dX6_linear_26 rfl ?_
      refine J_getR dX6_linear_27 flX6_19 rfl rfl ?_
      refine J_iload_n dX6_linear_30 rfl ?_
      refine J_callViQ (cl := mX3_hasSingleLeaps) [(14, 0), (0, ((k : Nat) : Int))] [] dX6_linear_31 mlX6_231 cvX3_hasSingleLeaps rfl rfl rfl rfl rfl (by decide) (Nat.le_of_ble_eq_true rfl) rfl (ev_X3_hasSingleLeaps P D n F O M1 hR1 k (by omega)) ?_
      refine J_ifb_ne (tgt := 39) dX6_linear_34 rfl (fun h34 => ?_) (fun h34 => ?_)
      ·
        refine J_iinc (v := (((k + 1) : Nat) : Int)) (L' := [(10, 0), (0, (((k + 1) : Nat) : Int))]) dX6_linear_39 rfl (by omega) (by decide) rfl rfl ?_
        refine J_goto (tgt := 11) dX6_linear_42 rfl ?_
        exact ih _ (by rw [allN_t h34, f1]) (by omega) (by omega)
      ·
        refine J_iconst dX6_linear_37 ?_
        refine J_ireturn dX6_linear_38 rfl ?_
        subst hM1
        exact ⟨by unfold A_linear; rw [if_pos h4, allN_no h34 (by omega)]; rfl, ks_tr u1_4 hS, km_up (by decide) km_rf⟩
set_option maxRecDepth 100000 in
set_option maxHeartbeats 4000000 in
theorem ev_X6_linear (P D n : Nat) (F O : Nat → Nat) (tl : Nat) (tb : Nat → Nat) (fa tr wh : Int) (M : jM) (hS : KS P D n F O tl tb fa tr wh M) : Ev 3 mX6_linear [(10, 0)] M (fun z M' => z = A_linear P n F O ∧ KS P D n F O tl tb fa (u1 (bT n)) 0 M' ∧ KM M M') := by
  refine Ev_of (by decide +kernel) (Nat.le_of_ble_eq_true rfl) (L := [(10, 0), (9, 0)]) rfl ?_
  have hR := hS.1
  have hn12 := KR.hn hR
  have hP7 := KR.hP hR
  have hD5 := KR.hD hR
  have h2P : 2 ^ P ≤ 128 := Nat.pow_le_pow_right (n := 2) (by decide) hP7
  have h2p := Nat.two_pow_pos P
  refine J_aload_n dX6_linear_0 rfl ?_
  refine J_callViQ (cl := mX6_refusesEmpty) [] [] dX6_linear_1 mlX6_146 cvX6_refusesEmpty rfl rfl rfl rfl rfl (by decide) (Nat.le_of_ble_eq_true rfl) rfl (ev_X6_refusesEmpty P D n F O M hR) ?_
  refine J_ifn_eq (b := bT n) (tgt := 9) dX6_linear_4 rfl (fun h4 => ?_) (fun h4 => ?_)
  ·
    refine J_iconst dX6_linear_9 ?_
    refine J_istore_n (L' := [(10, 0), (0, 0)]) dX6_linear_10 (by decide) rfl rfl ?_
    refine J_eq (L' := [(10, 0), (0, ((0 : Nat) : Int))]) rfl rfl rfl ?_
    exact ev_X6_linear_L11 P D n F O tl tb fa tr wh M hS _ rfl h4 _ _ (by rfl) (by omega) (Nat.lt_succ_self _)
  ·
    refine J_iconst dX6_linear_7 ?_
    refine J_ireturn dX6_linear_8 rfl ?_
    exact ⟨by unfold A_linear; rw [h4]; rfl, ks_tr u1_4 hS, km_up (by decide) km_rf⟩
set_option maxRecDepth 100000 in
set_option maxHeartbeats 4000000 in
theorem ev_X6_shed_L13 (P D n : Nat) (F O : Nat → Nat) (tl : Nat) (tb : Nat → Nat) (fa tr wh : Int) (M : jM) (hS : KS P D n F O tl tb fa tr wh M) (M1 : jM) (hM1 : M1 = j_up M 0 6 (u1 (bT n))) (h4 : bT n = true) : ∀ (fu : Nat) (x p : Nat) (f1 : x = mskN p (fun p => csB n F (2 ^ n - 1) 0 p)) (f2 : p ≤ P) (hfu : P - p < fu), J none 2 mX6_shed 13 [(10, 0), (0, ((x : Nat) : Int)), (0, ((p : Nat) : Int))] [] M1 (j_ret mX6_shed (fun z M' => z = A_shed P n F ∧ KS P D n F O tl tb fa (u1 (bT n)) 0 M' ∧ KM M M')) := by
  intro fu
  induction fu with
  | zero => intro x p f1 f2 hfu; exact absurd hfu (Nat.not_lt_zero _)
  | succ fu ih =>
    intro x p f1 f2 hfu
    have hR := hS.1
    have hn12 := KR.hn hR
    have hP7 := KR.hP hR
    have hD5 := KR.hD hR
    have h2P : 2 ^ P ≤ 128 := Nat.pow_le_pow_right (n := 2) (by decide) hP7
    have h2p := Nat.two_pow_pos P
    have hR1 : KR P D n F O M1 := by rw [hM1]; exact kr_up (by decide) hR
    refine J_iload_n dX6_shed_13 rfl ?_
    refine J_aload_n dX6_shed_14 rfl ?_
    refine J_getR dX6_shed_15 flX6_19 rfl rfl ?_
    refine J_getI dX6_shed_18 flX6_96 rfl rfl (J_top (v := ((P : Nat) : Int)) (KR.gP hR1) ?_)
    refine J_icmp_ge (tgt := 54) dX6_shed_21 rfl (j_R (by omega)) (j_R (by omega)) (fun h21 => ?_) (fun h21 => ?_)
    ·
      refine J_iload_n dX6_shed_54 rfl ?_
      refine J_ireturn dX6_shed_55 rfl ?_
      have e : p = P := by omega
      subst e
      rw [f1]
      subst hM1
      exact ⟨by unfold A_shed; rw [if_pos h4], ks_tr u1_4 hS, km_up (by decide) km_rf⟩
    ·
      refine J_aload_n dX6_shed_24 rfl ?_
      refine J_getR dX6_shed_25 flX6_19 rfl rfl ?_
      refine J_aload_n dX6_shed_28 rfl ?_
      refine J_getR dX6_shed_29 flX6_19 rfl rfl ?_
      refine J_callViQ (cl := mX0_everyFacet) [] [(14, 0)] dX6_shed_32 mlX6_195 cvX0_everyFacet rfl rfl rfl rfl rfl (by decide) (Nat.le_of_ble_eq_true rfl) rfl (ev_X0_everyFacet n (KR.hn hR1) M1 (KR.gn hR1)) ?_
      refine J_iload_n dX6_shed_35 rfl ?_
      refine J_callViQ (cl := mX0_canLose) [(0, (((2 ^ n - 1) : Nat) : Int)), (0, ((p : Nat) : Int))] [] dX6_shed_36 mlX6_281 cvX0_canLose rfl rfl rfl rfl rfl (by decide) (Nat.le_of_ble_eq_true rfl) rfl (ev_X0_canLose P D n F O M1 hR1 (2 ^ n - 1) p (kn31 hR1) (by omega)) ?_
      refine J_ifb_eq (tgt := 48) dX6_shed_39 rfl (fun h39 => ?_) (fun h39 => ?_)
      ·
        refine J_iinc (v := (((p + 1) : Nat) : Int)) (L' := [(10, 0), (0, ((x : Nat) : Int)), (0, (((p + 1) : Nat) : Int))]) dX6_shed_48 rfl (by omega) (by decide) rfl rfl ?_
        refine J_goto (tgt := 13) dX6_shed_51 rfl ?_
        exact ih _ _ (by have e5 := clB_eq (n := n) (s := 2 ^ n - 1) (g := 0) (p := p) (F := F) (by have := Nat.two_pow_pos n; omega) (fun k _ => sbs_iff.mpr (fun i hi => by rw [Nat.zero_testBit] at hi; exact absurd hi (by decide))); rw [h39] at e5; rw [mskN_f (by exact e5.symm), f1]) (by omega) (by omega)
      ·
        refine J_iload_n dX6_shed_42 rfl ?_
        refine J_iconst dX6_shed_43 ?_
        refine J_iload_n dX6_shed_44 rfl ?_
        refine J_ishl dX6_shed_45 (J_top (v := (((2 ^ p) : Nat) : Int)) (j_shl1 rfl rfl (by omega)) ?_)
        refine J_ior dX6_shed_46 (J_top (v := (((x ||| (2 ^ p)) : Nat) : Int)) (j_orN rfl rfl (by rw [f1]; exact mskN_31 (by omega)) (nb_p2 (by omega))) ?_)
        refine J_istore_n (L' := [(10, 0), (0, (((x ||| (2 ^ p)) : Nat) : Int)), (0, ((p : Nat) : Int))]) dX6_shed_47 (by decide) rfl rfl ?_
        refine J_iinc (v := (((p + 1) : Nat) : Int)) (L' := [(10, 0), (0, (((x ||| (2 ^ p)) : Nat) : Int)), (0, (((p + 1) : Nat) : Int))]) dX6_shed_48 rfl (by omega) (by decide) rfl rfl ?_
        refine J_goto (tgt := 13) dX6_shed_51 rfl ?_
        exact ih _ _ (by have e5 := clB_eq (n := n) (s := 2 ^ n - 1) (g := 0) (p := p) (F := F) (by have := Nat.two_pow_pos n; omega) (fun k _ => sbs_iff.mpr (fun i hi => by rw [Nat.zero_testBit] at hi; exact absurd hi (by decide))); rw [h39] at e5; rw [mskN_t (by exact e5.symm), f1]) (by omega) (by omega)
set_option maxRecDepth 100000 in
set_option maxHeartbeats 4000000 in
theorem ev_X6_shed (P D n : Nat) (F O : Nat → Nat) (tl : Nat) (tb : Nat → Nat) (fa tr wh : Int) (M : jM) (hS : KS P D n F O tl tb fa tr wh M) : Ev 2 mX6_shed [(10, 0)] M (fun z M' => z = A_shed P n F ∧ KS P D n F O tl tb fa (u1 (bT n)) 0 M' ∧ KM M M') := by
  refine Ev_of (by decide +kernel) (Nat.le_of_ble_eq_true rfl) (L := [(10, 0), (9, 0), (9, 0)]) rfl ?_
  have hR := hS.1
  have hn12 := KR.hn hR
  have hP7 := KR.hP hR
  have hD5 := KR.hD hR
  have h2P : 2 ^ P ≤ 128 := Nat.pow_le_pow_right (n := 2) (by decide) hP7
  have h2p := Nat.two_pow_pos P
  refine J_aload_n dX6_shed_0 rfl ?_
  refine J_callViQ (cl := mX6_refusesEmpty) [] [] dX6_shed_1 mlX6_146 cvX6_refusesEmpty rfl rfl rfl rfl rfl (by decide) (Nat.le_of_ble_eq_true rfl) rfl (ev_X6_refusesEmpty P D n F O M hR) ?_
  refine J_ifn_eq (b := bT n) (tgt := 9) dX6_shed_4 rfl (fun h4 => ?_) (fun h4 => ?_)
  ·
    refine J_iconst dX6_shed_9 ?_
    refine J_istore_n (L' := [(10, 0), (0, 0), (9, 0)]) dX6_shed_10 (by decide) rfl rfl ?_
    refine J_iconst dX6_shed_11 ?_
    refine J_istore_n (L' := [(10, 0), (0, 0), (0, 0)]) dX6_shed_12 (by decide) rfl rfl ?_
    refine J_eq (L' := [(10, 0), (0, ((0 : Nat) : Int)), (0, ((0 : Nat) : Int))]) rfl rfl rfl ?_
    exact ev_X6_shed_L13 P D n F O tl tb fa tr wh M hS _ rfl h4 _ _ _ (by rfl) (by omega) (Nat.lt_succ_self _)
  ·
    refine J_iconst dX6_shed_7 ?_
    refine J_ireturn dX6_shed_8 rfl ?_
    exact ⟨by unfold A_shed; rw [h4]; rfl, ks_tr u1_4 hS, km_up (by decide) km_rf⟩
set_option maxRecDepth 100000 in
set_option maxHeartbeats 4000000 in
theorem ev_X6_rebuilt_L21 (P D n : Nat) (F O : Nat → Nat) (tl : Nat) (tb : Nat → Nat) (fa tr wh : Int) (M : jM) (hS : KS P D n F O tl tb fa tr wh M) (k : Int) (hk : -2147483648 ≤ k ∧ k < 2147483648) (M1 : jM) (hM1 : M1 = j_up M 0 6 (u2 (bT n) (bK D k))) (h12 : (bT n && bK D k) = true) : ∀ (fu : Nat) (c : Int) (i : Nat) (f0 : c = sumN i (fun i => ((wys (D - i) ((Int.toNat k) - i) : Nat) : Int) * (cntN n (fun j => true && decide ((popc (rst F O j) : Int) = (i : Int))) : Int))) (f1 : i ≤ (Int.toNat k) + 1) (hfu : (Int.toNat k) + 1 - i < fu), J none 3 mX6_rebuilt 21 [(10, 0), (0, (((Int.toNat k) : Nat) : Int)), (0, c), (0, ((i : Nat) : Int))] [] M1 (j_ret mX6_rebuilt (fun z M' => z = A_rebuilt D n F O k ∧ KS P D n F O tl tb fa (u2 (bT n) (bK D k)) 0 M' ∧ KM M M')) := by
  intro fu
  induction fu with
  | zero => intro c i f0 f1 hfu; exact absurd hfu (Nat.not_lt_zero _)
  | succ fu ih =>
    intro c i f0 f1 hfu
    have hR := hS.1
    have hn12 := KR.hn hR
    have hP7 := KR.hP hR
    have hD5 := KR.hD hR
    have h2P : 2 ^ P ≤ 128 := Nat.pow_le_pow_right (n := 2) (by decide) hP7
    have h2p := Nat.two_pow_pos P
    have hR1 : KR P D n F O M1 := by rw [hM1]; exact kr_up (by decide) hR
    have hkn := bK_n h12
    refine J_iload_n dX6_rebuilt_21 rfl ?_
    refine J_iload_n dX6_rebuilt_22 rfl ?_
    refine J_icmp_gt (tgt := 63) dX6_rebuilt_23 rfl (j_R (by have := bK_n h12; omega)) (j_R (by have := bK_n h12; omega)) (fun h23 => ?_) (fun h23 => ?_)
    ·
      refine J_iload_n dX6_rebuilt_63 rfl ?_
      refine J_ireturn dX6_rebuilt_64 rfl ?_
      have e : i = (Int.toNat k) + 1 := by omega
      subst e
      rw [f0, rb_eq]
      subst hM1
      exact ⟨by unfold A_rebuilt; rw [if_pos h12], ks_tr u2_4 hS, km_up (by decide) km_rf⟩
    ·
      refine J_iload_n dX6_rebuilt_26 rfl ?_
      refine J_aload_n dX6_rebuilt_27 rfl ?_
      refine J_getR dX6_rebuilt_28 flX6_26 rfl rfl ?_
      refine J_aload_n dX6_rebuilt_31 rfl ?_
      refine J_getR dX6_rebuilt_32 flX6_19 rfl rfl ?_
      refine J_iload_n dX6_rebuilt_35 rfl ?_
      refine J_callViQ (cl := mX3_countRestrictions) [(14, 0), (0, ((i : Nat) : Int))] [(0, c)] dX6_rebuilt_36 mlX6_189 cvX3_countRestrictions rfl rfl rfl rfl rfl (by decide) (Nat.le_of_ble_eq_true rfl) rfl (ev_X3_countRestrictions P D n F O M1 hR1 ((i : Nat) : Int) (j_R (by have := bK_n h12; omega))) ?_
      refine J_aload_n dX6_rebuilt_39 rfl ?_
      refine J_getR dX6_rebuilt_40 flX6_19 rfl rfl ?_
      refine J_getI dX6_rebuilt_43 flX6_99 rfl rfl (J_top (v := ((D : Nat) : Int)) (KR.gD hR1) ?_)
      refine J_iload_n dX6_rebuilt_46 rfl ?_
      refine J_isub dX6_rebuilt_47 (J_top (v := (((D - i) : Nat) : Int)) (by omega) ?_)
      refine J_iload_n dX6_rebuilt_48 rfl ?_
      refine J_iload_n dX6_rebuilt_49 rfl ?_
      refine J_isub dX6_rebuilt_50 (J_top (v := ((((Int.toNat k) - i) : Nat) : Int)) (by omega) ?_)
      refine J_callSiQ (cl := mX0_choose) [(0, (((D - i) : Nat) : Int)), (0, ((((Int.toNat k) - i) : Nat) : Int))] [(0, (((cntN n (fun j => decide ((popc (rst F O j) : Int) = ((i : Nat) : Int)))) : Nat) : Int)), (0, c)] dX6_rebuilt_51 mlX6_142 csX0_choose rfl rfl (by decide) (Nat.le_of_ble_eq_true rfl) rfl (ev_X0_choose (D - i) ((Int.toNat k) - i) (by omega) (by omega) M1) ?_
      refine J_imul dX6_rebuilt_54 (J_top (v := ((((cntN n (fun j => decide ((popc (rst F O j) : Int) = ((i : Nat) : Int)))) * (wys (D - i) ((Int.toNat k) - i))) : Nat) : Int)) (Int.natCast_mul _ _).symm ?_)
      refine J_iadd dX6_rebuilt_55 ?_
      refine J_istore_n (L' := [(10, 0), (0, (((Int.toNat k) : Nat) : Int)), (0, (c + ((((cntN n (fun j => decide ((popc (rst F O j) : Int) = ((i : Nat) : Int)))) * (wys (D - i) ((Int.toNat k) - i))) : Nat) : Int))), (0, ((i : Nat) : Int))]) dX6_rebuilt_56 (by decide) rfl rfl ?_
      refine J_iinc (v := (((i + 1) : Nat) : Int)) (L' := [(10, 0), (0, (((Int.toNat k) : Nat) : Int)), (0, (c + ((((cntN n (fun j => decide ((popc (rst F O j) : Int) = ((i : Nat) : Int)))) * (wys (D - i) ((Int.toNat k) - i))) : Nat) : Int))), (0, (((i + 1) : Nat) : Int))]) dX6_rebuilt_57 rfl (by omega) (by decide) rfl rfl ?_
      refine J_goto (tgt := 21) dX6_rebuilt_60 rfl ?_
      exact ih _ _ (by rw [f0]; simp only [sumN, Bool.true_and]; rw [Int.natCast_mul, Int.mul_comm]) (by omega) (by omega)
set_option maxRecDepth 100000 in
set_option maxHeartbeats 4000000 in
theorem ev_X6_rebuilt (P D n : Nat) (F O : Nat → Nat) (tl : Nat) (tb : Nat → Nat) (fa tr wh : Int) (M : jM) (hS : KS P D n F O tl tb fa tr wh M) (k : Int) (hk : -2147483648 ≤ k ∧ k < 2147483648) : Ev 3 mX6_rebuilt [(10, 0), (0, k)] M (fun z M' => z = A_rebuilt D n F O k ∧ KS P D n F O tl tb fa (u2 (bT n) (bK D k)) 0 M' ∧ KM M M') := by
  refine Ev_of (by decide +kernel) (Nat.le_of_ble_eq_true rfl) (L := [(10, 0), (0, k), (9, 0), (9, 0)]) rfl ?_
  have hR := hS.1
  have hn12 := KR.hn hR
  have hP7 := KR.hP hR
  have hD5 := KR.hD hR
  have h2P : 2 ^ P ≤ 128 := Nat.pow_le_pow_right (n := 2) (by decide) hP7
  have h2p := Nat.two_pow_pos P
  refine J_aload_n dX6_rebuilt_0 rfl ?_
  refine J_iload_n dX6_rebuilt_1 rfl ?_
  refine J_aload_n dX6_rebuilt_2 rfl ?_
  refine J_getR dX6_rebuilt_3 flX6_19 rfl rfl ?_
  refine J_getI dX6_rebuilt_6 flX6_99 rfl rfl (J_top (v := ((D : Nat) : Int)) (KR.gD hR) ?_)
  refine J_callViQ (cl := mX6_refusesUpTo) [(0, k), (0, ((D : Nat) : Int))] [] dX6_rebuilt_9 mlX6_132 cvX6_refusesUpTo rfl rfl rfl rfl rfl (by decide) (Nat.le_of_ble_eq_true rfl) rfl (ev_X6_refusesUpTo P D n F O M hR k (by omega) D (by omega)) ?_
  refine J_ifn_eq (b := (bT n && bK D k)) (tgt := 17) dX6_rebuilt_12 rfl (fun h12 => ?_) (fun h12 => ?_)
  ·
    have hkn := bK_n h12
    refine J_eq (L' := [(10, 0), (0, (((Int.toNat k) : Nat) : Int)), (9, 0), (9, 0)]) (by have := bK_n h12; rw [Int.toNat_of_nonneg (by omega)]) rfl rfl ?_
    refine J_iconst dX6_rebuilt_17 ?_
    refine J_istore_n (L' := [(10, 0), (0, (((Int.toNat k) : Nat) : Int)), (0, 0), (9, 0)]) dX6_rebuilt_18 (by decide) rfl rfl ?_
    refine J_iconst dX6_rebuilt_19 ?_
    refine J_istore_n (L' := [(10, 0), (0, (((Int.toNat k) : Nat) : Int)), (0, 0), (0, 0)]) dX6_rebuilt_20 (by decide) rfl rfl ?_
    refine J_eq (L' := [(10, 0), (0, (((Int.toNat k) : Nat) : Int)), (0, 0), (0, ((0 : Nat) : Int))]) rfl rfl rfl ?_
    exact ev_X6_rebuilt_L21 P D n F O tl tb fa tr wh M hS k hk _ rfl h12 _ _ _ (by rfl) (by omega) (Nat.lt_succ_self _)
  ·
    refine J_iconst dX6_rebuilt_15 ?_
    refine J_ireturn dX6_rebuilt_16 rfl ?_
    exact ⟨by unfold A_rebuilt; rw [h12]; rfl, ks_tr u2_4 hS, km_up (by decide) km_rf⟩
set_option maxRecDepth 100000 in
set_option maxHeartbeats 4000000 in
theorem ev_X6_shellings (P D n : Nat) (F O : Nat → Nat) (tl : Nat) (tb : Nat → Nat) (fa tr wh : Int) (M : jM) (hS : KS P D n F O tl tb fa tr wh M) : Ev 9 mX6_shellings [(10, 0)] M (fun z M' => z = A_shellings n F ∧ KS P D n F O tl tb fa (u1 (bT n)) 0 M' ∧ KM M M') := by
  refine Ev_of (by decide +kernel) (Nat.le_of_ble_eq_true rfl) (L := [(10, 0)]) rfl ?_
  have hR := hS.1
  have hn12 := KR.hn hR
  have hP7 := KR.hP hR
  have hD5 := KR.hD hR
  have h2P : 2 ^ P ≤ 128 := Nat.pow_le_pow_right (n := 2) (by decide) hP7
  have h2p := Nat.two_pow_pos P
  refine J_aload_n dX6_shellings_0 rfl ?_
  refine J_callViQ (cl := mX6_refusesEmpty) [] [] dX6_shellings_1 mlX6_146 cvX6_refusesEmpty rfl rfl rfl rfl rfl (by decide) (Nat.le_of_ble_eq_true rfl) rfl (ev_X6_refusesEmpty P D n F O M hR) ?_
  refine J_ifn_eq (b := bT n) (tgt := 9) dX6_shellings_4 rfl (fun h4 => ?_) (fun h4 => ?_)
  ·
    refine J_aload_n dX6_shellings_9 rfl ?_
    refine J_callVr (cl := mX6_allOrders) [] [] dX6_shellings_10 mlX6_234 cvX6_allOrders rfl rfl rfl rfl rfl (by decide) (Nat.le_of_ble_eq_true rfl) rfl (ev_X6_allOrders P D n F O (j_up M 0 6 (u1 (bT n))) (kr_up (by decide) hR) (oq_ch ch1 (by decide) hS.oq)) (fun z10 Mo hq10 => ?_)
    obtain ⟨y10, o1, o2⟩ := hq10
    obtain rfl : z10 = 16 := by omega
    refine J_getR dX6_shellings_13 flX6_238 rfl rfl ?_
    refine J_iconst dX6_shellings_16 ?_
    refine J_iald dX6_shellings_17 rfl (by decide) (by decide) (J_top (v := (((won F n 0) : Nat) : Int)) (by have h9 := (o1.2 0 (Nat.two_pow_pos n)).2.2; rw [won_pos0] at h9; exact h9) ?_)
    refine J_ireturn dX6_shellings_18 rfl ?_
    exact ⟨by unfold A_shellings; rw [h4]; rfl, ks_or o2 o1 (ks_tr u1_4 hS), km_tr (km_up (by decide) km_rf) (km_ch o2 (by decide))⟩
  ·
    refine J_iconst dX6_shellings_7 ?_
    refine J_ireturn dX6_shellings_8 rfl ?_
    exact ⟨by unfold A_shellings; rw [h4]; rfl, ks_tr u1_4 hS, km_up (by decide) km_rf⟩
set_option maxRecDepth 100000 in
set_option maxHeartbeats 4000000 in
theorem ev_X6_shelled (P D n : Nat) (F O : Nat → Nat) (tl : Nat) (tb : Nat → Nat) (fa tr wh : Int) (M : jM) (hS : KS P D n F O tl tb fa tr wh M) (i : Int) (hi : -2147483648 ≤ i ∧ i < 2147483648) : Ev 9 mX6_shelled [(10, 0), (0, i)] M (fun z M' => z = A_shelled n F i ∧ KS P D n F O tl tb fa (u1 (bI n i)) 0 M' ∧ KM M M') := by
  refine Ev_of (by decide +kernel) (Nat.le_of_ble_eq_true rfl) (L := [(10, 0), (0, i)]) rfl ?_
  have hR := hS.1
  have hn12 := KR.hn hR
  have hP7 := KR.hP hR
  have hD5 := KR.hD hR
  have h2P : 2 ^ P ≤ 128 := Nat.pow_le_pow_right (n := 2) (by decide) hP7
  have h2p := Nat.two_pow_pos P
  refine J_aload_n dX6_shelled_0 rfl ?_
  refine J_iload_n dX6_shelled_1 rfl ?_
  refine J_callViQ (cl := mX6_refusesPlace) [(0, i)] [] dX6_shelled_2 mlX6_171 cvX6_refusesPlace rfl rfl rfl rfl rfl (by decide) (Nat.le_of_ble_eq_true rfl) rfl (ev_X6_refusesPlace P D n F O M hR i (by omega)) ?_
  refine J_ifn_eq (b := (bI n i)) (tgt := 10) dX6_shelled_5 rfl (fun h5 => ?_) (fun h5 => ?_)
  ·
    refine J_aload_n dX6_shelled_10 rfl ?_
    refine J_callVr (cl := mX6_allOrders) [] [] dX6_shelled_11 mlX6_234 cvX6_allOrders rfl rfl rfl rfl rfl (by decide) (Nat.le_of_ble_eq_true rfl) rfl (ev_X6_allOrders P D n F O (j_up M 0 6 (u1 (bI n i))) (kr_up (by decide) hR) (oq_ch ch1 (by decide) hS.oq)) (fun z11 Mo hq11 => ?_)
    obtain ⟨y11, o1, o2⟩ := hq11
    obtain rfl : z11 = 16 := by omega
    refine J_aload_n dX6_shelled_14 rfl ?_
    refine J_getR dX6_shelled_15 flX6_19 rfl rfl ?_
    refine J_iload_n dX6_shelled_18 rfl (J_top (v := (((Int.toNat i) : Nat) : Int)) (by have := bI_n h5; omega) ?_)
    refine J_callViQ (cl := mX2_leastAt) [(14, 0), (0, (((Int.toNat i) : Nat) : Int))] [] dX6_shelled_19 mlX6_241 cvX2_leastAt rfl rfl rfl rfl rfl (by decide) (Nat.le_of_ble_eq_true rfl) rfl (ev_X2_leastAt P D n F O Mo (kr_ch o2 (by decide) (kr_up (by decide) hR)) o1 (Int.toNat i) (by have := bI_n h5; omega)) ?_
    refine J_ireturn dX6_shelled_22 rfl ?_
    exact ⟨by unfold A_shelled; rw [h5]; rfl, ks_or o2 o1 (ks_tr u1_4 hS), km_tr (km_up (by decide) km_rf) (km_ch o2 (by decide))⟩
  ·
    refine J_iconst dX6_shelled_8 ?_
    refine J_ireturn dX6_shelled_9 rfl ?_
    exact ⟨by unfold A_shelled; rw [h5]; rfl, ks_tr u1_4 hS, km_up (by decide) km_rf⟩
set_option maxRecDepth 100000 in
set_option maxHeartbeats 4000000 in
theorem ev_X6_peelable (P D n : Nat) (F O : Nat → Nat) (tl : Nat) (tb : Nat → Nat) (fa tr wh : Int) (M : jM) (hS : KS P D n F O tl tb fa tr wh M) : Ev 9 mX6_peelable [(10, 0)] M (fun z M' => z = A_peelable n F ∧ KS P D n F O tl tb fa (u1 (bT n)) 0 M' ∧ KM M M') := by
  refine Ev_of (by decide +kernel) (Nat.le_of_ble_eq_true rfl) (L := [(10, 0)]) rfl ?_
  have hR := hS.1
  have hn12 := KR.hn hR
  have hP7 := KR.hP hR
  have hD5 := KR.hD hR
  have h2P : 2 ^ P ≤ 128 := Nat.pow_le_pow_right (n := 2) (by decide) hP7
  have h2p := Nat.two_pow_pos P
  refine J_aload_n dX6_peelable_0 rfl ?_
  refine J_callViQ (cl := mX6_refusesEmpty) [] [] dX6_peelable_1 mlX6_146 cvX6_refusesEmpty rfl rfl rfl rfl rfl (by decide) (Nat.le_of_ble_eq_true rfl) rfl (ev_X6_refusesEmpty P D n F O M hR) ?_
  refine J_ifn_eq (b := bT n) (tgt := 9) dX6_peelable_4 rfl (fun h4 => ?_) (fun h4 => ?_)
  ·
    refine J_aload_n dX6_peelable_9 rfl ?_
    refine J_callVr (cl := mX6_allOrders) [] [] dX6_peelable_10 mlX6_234 cvX6_allOrders rfl rfl rfl rfl rfl (by decide) (Nat.le_of_ble_eq_true rfl) rfl (ev_X6_allOrders P D n F O (j_up M 0 6 (u1 (bT n))) (kr_up (by decide) hR) (oq_ch ch1 (by decide) hS.oq)) (fun z10 Mo hq10 => ?_)
    obtain ⟨y10, o1, o2⟩ := hq10
    obtain rfl : z10 = 16 := by omega
    refine J_aload_n dX6_peelable_13 rfl ?_
    refine J_getR dX6_peelable_14 flX6_19 rfl rfl ?_
    refine J_callViQ (cl := mX2_lastOnes) [(14, 0)] [] dX6_peelable_17 mlX6_244 cvX2_lastOnes rfl rfl rfl rfl rfl (by decide) (Nat.le_of_ble_eq_true rfl) rfl (ev_X2_lastOnes P D n F O Mo (kr_ch o2 (by decide) (kr_up (by decide) hR)) o1) ?_
    refine J_ireturn dX6_peelable_20 rfl ?_
    exact ⟨by unfold A_peelable; rw [h4]; rfl, ks_or o2 o1 (ks_tr u1_4 hS), km_tr (km_up (by decide) km_rf) (km_ch o2 (by decide))⟩
  ·
    refine J_iconst dX6_peelable_7 ?_
    refine J_ireturn dX6_peelable_8 rfl ?_
    exact ⟨by unfold A_peelable; rw [h4]; rfl, ks_tr u1_4 hS, km_up (by decide) km_rf⟩
set_option maxRecDepth 100000 in
set_option maxHeartbeats 4000000 in
theorem ev_X6_stuck (P D n : Nat) (F O : Nat → Nat) (tl : Nat) (tb : Nat → Nat) (fa tr wh : Int) (M : jM) (hS : KS P D n F O tl tb fa tr wh M) : Ev 9 mX6_stuck [(10, 0)] M (fun z M' => z = A_stuck n F ∧ KS P D n F O tl tb fa (u1 (bT n)) 0 M' ∧ KM M M') := by
  refine Ev_of (by decide +kernel) (Nat.le_of_ble_eq_true rfl) (L := [(10, 0)]) rfl ?_
  have hR := hS.1
  have hn12 := KR.hn hR
  have hP7 := KR.hP hR
  have hD5 := KR.hD hR
  have h2P : 2 ^ P ≤ 128 := Nat.pow_le_pow_right (n := 2) (by decide) hP7
  have h2p := Nat.two_pow_pos P
  refine J_aload_n dX6_stuck_0 rfl ?_
  refine J_callViQ (cl := mX6_refusesEmpty) [] [] dX6_stuck_1 mlX6_146 cvX6_refusesEmpty rfl rfl rfl rfl rfl (by decide) (Nat.le_of_ble_eq_true rfl) rfl (ev_X6_refusesEmpty P D n F O M hR) ?_
  refine J_ifn_eq (b := bT n) (tgt := 9) dX6_stuck_4 rfl (fun h4 => ?_) (fun h4 => ?_)
  ·
    refine J_aload_n dX6_stuck_9 rfl ?_
    refine J_callVr (cl := mX6_allOrders) [] [] dX6_stuck_10 mlX6_234 cvX6_allOrders rfl rfl rfl rfl rfl (by decide) (Nat.le_of_ble_eq_true rfl) rfl (ev_X6_allOrders P D n F O (j_up M 0 6 (u1 (bT n))) (kr_up (by decide) hR) (oq_ch ch1 (by decide) hS.oq)) (fun z10 Mo hq10 => ?_)
    obtain ⟨y10, o1, o2⟩ := hq10
    obtain rfl : z10 = 16 := by omega
    refine J_aload_n dX6_stuck_13 rfl ?_
    refine J_getR dX6_stuck_14 flX6_19 rfl rfl ?_
    refine J_callViQ (cl := mX2_deadEnd) [(14, 0)] [] dX6_stuck_17 mlX6_250 cvX2_deadEnd rfl rfl rfl rfl rfl (by decide) (Nat.le_of_ble_eq_true rfl) rfl (ev_X2_deadEnd P D n F O Mo (kr_ch o2 (by decide) (kr_up (by decide) hR)) o1) ?_
    refine J_ireturn dX6_stuck_20 rfl ?_
    exact ⟨by unfold A_stuck; rw [h4]; rfl, ks_or o2 o1 (ks_tr u1_4 hS), km_tr (km_up (by decide) km_rf) (km_ch o2 (by decide))⟩
  ·
    refine J_iconst dX6_stuck_7 ?_
    refine J_ireturn dX6_stuck_8 rfl ?_
    exact ⟨by unfold A_stuck; rw [h4]; rfl, ks_tr u1_4 hS, km_up (by decide) km_rf⟩
set_option maxRecDepth 100000 in
set_option maxHeartbeats 4000000 in
theorem ev_X6_obstruction (P D n : Nat) (F O : Nat → Nat) (tl : Nat) (tb : Nat → Nat) (fa tr wh : Int) (M : jM) (hS : KS P D n F O tl tb fa tr wh M) : Ev 9 mX6_obstruction [(10, 0)] M (fun z M' => z = A_obstruction P n F ∧ KS P D n F O tl tb fa (u1 (bT n)) 0 M' ∧ KM M M') := by
  refine Ev_of (by decide +kernel) (Nat.le_of_ble_eq_true rfl) (L := [(10, 0)]) rfl ?_
  have hR := hS.1
  have hn12 := KR.hn hR
  have hP7 := KR.hP hR
  have hD5 := KR.hD hR
  have h2P : 2 ^ P ≤ 128 := Nat.pow_le_pow_right (n := 2) (by decide) hP7
  have h2p := Nat.two_pow_pos P
  refine J_aload_n dX6_obstruction_0 rfl ?_
  refine J_callViQ (cl := mX6_refusesEmpty) [] [] dX6_obstruction_1 mlX6_146 cvX6_refusesEmpty rfl rfl rfl rfl rfl (by decide) (Nat.le_of_ble_eq_true rfl) rfl (ev_X6_refusesEmpty P D n F O M hR) ?_
  refine J_ifn_eq (b := bT n) (tgt := 9) dX6_obstruction_4 rfl (fun h4 => ?_) (fun h4 => ?_)
  ·
    refine J_aload_n dX6_obstruction_9 rfl ?_
    refine J_callVr (cl := mX6_allOrders) [] [] dX6_obstruction_10 mlX6_234 cvX6_allOrders rfl rfl rfl rfl rfl (by decide) (Nat.le_of_ble_eq_true rfl) rfl (ev_X6_allOrders P D n F O (j_up M 0 6 (u1 (bT n))) (kr_up (by decide) hR) (oq_ch ch1 (by decide) hS.oq)) (fun z10 Mo hq10 => ?_)
    obtain ⟨y10, o1, o2⟩ := hq10
    obtain rfl : z10 = 16 := by omega
    refine J_aload_n dX6_obstruction_13 rfl ?_
    refine J_getR dX6_obstruction_14 flX6_19 rfl rfl ?_
    refine J_callViQ (cl := mX2_largestBad) [(14, 0)] [] dX6_obstruction_17 mlX6_270 cvX2_largestBad rfl rfl rfl rfl rfl (by decide) (Nat.le_of_ble_eq_true rfl) rfl (ev_X2_largestBad P D n F O Mo (kr_ch o2 (by decide) (kr_up (by decide) hR)) o1) ?_
    refine J_ireturn dX6_obstruction_20 rfl ?_
    exact ⟨by unfold A_obstruction; rw [h4]; rfl, ks_or o2 o1 (ks_tr u1_4 hS), km_tr (km_up (by decide) km_rf) (km_ch o2 (by decide))⟩
  ·
    refine J_iconst dX6_obstruction_7 ?_
    refine J_ireturn dX6_obstruction_8 rfl ?_
    exact ⟨by unfold A_obstruction; rw [h4]; rfl, ks_tr u1_4 hS, km_up (by decide) km_rf⟩
set_option maxRecDepth 100000 in
set_option maxHeartbeats 4000000 in
theorem ev_X6_goesOn (P D n : Nat) (F O : Nat → Nat) (tl : Nat) (tb : Nat → Nat) (fa tr wh : Int) (M : jM) (hS : KS P D n F O tl tb fa tr wh M) (k : Int) (hk : -2147483648 ≤ k ∧ k < 2147483648) : Ev 9 mX6_goesOn [(10, 0), (0, k)] M (fun z M' => z = A_goesOn n F O k ∧ KS P D n F O tl tb fa (u2 (bT n) (bK n k)) 0 M' ∧ KM M M') := by
  refine Ev_of (by decide +kernel) (Nat.le_of_ble_eq_true rfl) (L := [(10, 0), (0, k)]) rfl ?_
  have hR := hS.1
  have hn12 := KR.hn hR
  have hP7 := KR.hP hR
  have hD5 := KR.hD hR
  have h2P : 2 ^ P ≤ 128 := Nat.pow_le_pow_right (n := 2) (by decide) hP7
  have h2p := Nat.two_pow_pos P
  refine J_aload_n dX6_goesOn_0 rfl ?_
  refine J_iload_n dX6_goesOn_1 rfl ?_
  refine J_aload_n dX6_goesOn_2 rfl ?_
  refine J_getR dX6_goesOn_3 flX6_19 rfl rfl ?_
  refine J_getI dX6_goesOn_6 flX6_84 rfl rfl (J_top (v := ((n : Nat) : Int)) (KR.gn hR) ?_)
  refine J_callViQ (cl := mX6_refusesUpTo) [(0, k), (0, ((n : Nat) : Int))] [] dX6_goesOn_9 mlX6_132 cvX6_refusesUpTo rfl rfl rfl rfl rfl (by decide) (Nat.le_of_ble_eq_true rfl) rfl (ev_X6_refusesUpTo P D n F O M hR k (by omega) n (by omega)) ?_
  refine J_ifn_eq (b := (bT n && bK n k)) (tgt := 17) dX6_goesOn_12 rfl (fun h12 => ?_) (fun h12 => ?_)
  ·
    have hkn := bK_n h12
    refine J_aload_n dX6_goesOn_17 rfl ?_
    refine J_getR dX6_goesOn_18 flX6_26 rfl rfl ?_
    refine J_aload_n dX6_goesOn_21 rfl ?_
    refine J_getR dX6_goesOn_22 flX6_19 rfl rfl ?_
    refine J_callViQ (cl := mX3_goodStart) [(14, 0)] [] dX6_goesOn_25 mlX6_185 cvX3_goodStart rfl rfl rfl rfl rfl (by decide) (Nat.le_of_ble_eq_true rfl) rfl (ev_X3_goodStart P D n F O (j_up M 0 6 (u2 (bT n) (bK n k))) (kr_up (by decide) hR) ) ?_
    refine J_iload_n dX6_goesOn_28 rfl ?_
    refine J_icmp_ge (tgt := 34) dX6_goesOn_29 rfl (gdK hR) (by omega) (fun h29 => ?_) (fun h29 => ?_)
    ·
      refine J_aload_n dX6_goesOn_34 rfl ?_
      refine J_callVr (cl := mX6_allOrders) [] [] dX6_goesOn_35 mlX6_234 cvX6_allOrders rfl rfl rfl rfl rfl (by decide) (Nat.le_of_ble_eq_true rfl) rfl (ev_X6_allOrders P D n F O (j_up M 0 6 (u2 (bT n) (bK n k))) (kr_up (by decide) hR) (oq_ch ch1 (by decide) hS.oq)) (fun z35 Mo hq35 => ?_)
      obtain ⟨y35, o1, o2⟩ := hq35
      obtain rfl : z35 = 16 := by omega
      refine J_getR dX6_goesOn_38 flX6_238 rfl rfl ?_
      refine J_aload_n dX6_goesOn_41 rfl ?_
      refine J_getR dX6_goesOn_42 flX6_26 rfl rfl ?_
      refine J_iload_n dX6_goesOn_45 rfl (J_top (v := (((Int.toNat k) : Nat) : Int)) (by have := bK_n h12; omega) ?_)
      refine J_callViQ (cl := mX3_ahead) [(0, (((Int.toNat k) : Nat) : Int))] [(29, 0)] dX6_goesOn_46 mlX6_247 cvX3_ahead rfl rfl rfl rfl rfl (by decide) (Nat.le_of_ble_eq_true rfl) rfl (ev_X3_ahead P D n F O Mo (kr_ch o2 (by decide) (kr_up (by decide) hR)) (Int.toNat k) (by omega)) ?_
      refine J_iald dX6_goesOn_49 rfl (by decide) (ixn hn12 (KR.ah hR (by omega))) (J_top (v := (((won F n (ahd O (Int.toNat k))) : Nat) : Int)) (by have h9 := (o1.2 (ahd O (Int.toNat k)) (KR.ah hR (by omega))).2.2; unfold onw at h9; rw [if_neg (wt_pos hR.wf (Int.toNat k) (by omega) (by omega))] at h9; exact h9) ?_)
      refine J_ireturn dX6_goesOn_50 rfl ?_
      exact ⟨by unfold A_goesOn; rw [h12, if_pos rfl, if_neg (by omega)], ks_or o2 o1 (ks_tr u2_4 hS), km_tr (km_up (by decide) km_rf) (km_ch o2 (by decide))⟩
    ·
      refine J_iconst dX6_goesOn_32 ?_
      refine J_ireturn dX6_goesOn_33 rfl ?_
      exact ⟨by unfold A_goesOn; rw [h12, if_pos rfl, if_pos (by omega)], ks_tr u2_4 hS, km_up (by decide) km_rf⟩
  ·
    refine J_iconst dX6_goesOn_15 ?_
    refine J_ireturn dX6_goesOn_16 rfl ?_
    exact ⟨by unfold A_goesOn; rw [h12]; rfl, ks_tr u2_4 hS, km_up (by decide) km_rf⟩
set_option maxRecDepth 100000 in
set_option maxHeartbeats 4000000 in
theorem ev_X6_peeled (P D n : Nat) (F O : Nat → Nat) (tl : Nat) (tb : Nat → Nat) (fa tr wh : Int) (M : jM) (hS : KS P D n F O tl tb fa tr wh M) (k : Int) (hk : -2147483648 ≤ k ∧ k < 2147483648) : Ev 3 mX6_peeled [(10, 0), (0, k)] M (fun z M' => z = A_peeled n F k ∧ KS P D n F O tl tb fa (u2 (bT n) (b5 k)) 0 M' ∧ KM M M') := by
  refine Ev_of (by decide +kernel) (Nat.le_of_ble_eq_true rfl) (L := [(10, 0), (0, k)]) rfl ?_
  have hR := hS.1
  have hn12 := KR.hn hR
  have hP7 := KR.hP hR
  have hD5 := KR.hD hR
  have h2P : 2 ^ P ≤ 128 := Nat.pow_le_pow_right (n := 2) (by decide) hP7
  have h2p := Nat.two_pow_pos P
  refine J_aload_n dX6_peeled_0 rfl ?_
  refine J_iload_n dX6_peeled_1 rfl ?_
  refine J_ldc (n := 65536) dX6_peeled_2 kcX6_253 ?_
  refine J_callViQ (cl := mX6_refusesUpTo) [(0, k), (0, 65536)] [] dX6_peeled_4 mlX6_132 cvX6_refusesUpTo rfl rfl rfl rfl rfl (by decide) (Nat.le_of_ble_eq_true rfl) rfl (ev_X6_refusesUpTo P D n F O M hR k (by omega) 65536 (by decide)) ?_
  refine J_ifn_eq (b := (bT n && bK 65536 k)) (tgt := 12) dX6_peeled_7 rfl (fun h7 => ?_) (fun h7 => ?_)
  ·
    refine J_aload_n dX6_peeled_12 rfl ?_
    refine J_getR dX6_peeled_13 flX6_19 rfl rfl ?_
    refine J_iload_n dX6_peeled_16 rfl (J_top (v := (((Int.toNat k) : Nat) : Int)) (by have := bK_n (D := 65536) h7; omega) ?_)
    refine J_callViQ (cl := mX0_peelByDraws) [(0, (((Int.toNat k) : Nat) : Int))] [] dX6_peeled_17 mlX6_254 cvX0_peelByDraws rfl rfl rfl rfl rfl (by decide) (Nat.le_of_ble_eq_true rfl) rfl (ev_X0_peelByDraws P D n F O (j_up M 0 6 (u2 (bT n) (bK 65536 k))) (kr_up (by decide) hR) (Int.toNat k) (by have := bK_n (D := 65536) h7; omega)) ?_
    refine J_ireturn dX6_peeled_20 rfl ?_
    exact ⟨by unfold A_peeled; rw [show b5 k = bK 65536 k from rfl, h7]; rfl, ks_tr u2_4 hS, km_up (by decide) km_rf⟩
  ·
    refine J_iconst dX6_peeled_10 ?_
    refine J_ireturn dX6_peeled_11 rfl ?_
    exact ⟨by unfold A_peeled; rw [show b5 k = bK 65536 k from rfl, h7]; rfl, ks_tr u2_4 hS, km_up (by decide) km_rf⟩
