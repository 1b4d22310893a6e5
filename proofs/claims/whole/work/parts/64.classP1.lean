theorem bI_n {n : Nat} {i : Int} (h : bI n i = true) : 0 ≤ i ∧ i < (n : Int) := of_decide_eq_true h
theorem bS_n {P n : Nat} {i : Int} (h : (bT n && bS P i) = true) : 0 < n ∧ 0 ≤ i ∧ i ≤ ((2 ^ P - 1 : Nat) : Int) := by
  rw [Bool.and_eq_true] at h
  exact ⟨of_decide_eq_true h.1, of_decide_eq_true h.2⟩
theorem bK_n {D n : Nat} {k : Int} (h : (bT n && bK D k) = true) : 0 < n ∧ 0 ≤ k ∧ k ≤ (D : Int) := by
  rw [Bool.and_eq_true] at h
  exact ⟨of_decide_eq_true h.1, of_decide_eq_true h.2⟩
theorem bT_n {n : Nat} (h : bT n = true) : 0 < n := of_decide_eq_true h
theorem nm_b {P n : Nat} {F : Nat → Nat} {i : Int} : bM P n F i = decide (0 ≤ (if 0 < n then nthN (2 ^ P) (msg P (isF n F)) i else -1)) := by
  unfold bM bT nmS
  by_cases h : 0 < n
  · rw [if_pos h, decide_eq_true h, Bool.true_and]
    apply beqB
    rw [decide_eq_true_eq, decide_eq_true_eq]
    rcases nthN_rng (n := 2 ^ P) (p := msg P (isF n F)) (i := i) with q | q <;> omega
  · rw [if_neg h, decide_eq_false h]
    rfl
theorem nm_v {P n : Nat} {F : Nat → Nat} {i : Int} (h : bM P n F i = true) : (if 0 < n then nthN (2 ^ P) (msg P (isF n F)) i else -1) = nmS P n F i := by
  unfold bM at h
  rw [Bool.and_eq_true] at h
  rw [if_pos (bT_n h.1)]
  rfl
theorem sp_b {n : Nat} {F O : Nat → Nat} {i : Int} : bP n F O i = decide (0 ≤ nthN n (spB F O) i) := by
  unfold bP bT
  by_cases h : 0 < n
  · rw [decide_eq_true h, Bool.true_and]
    apply beqB
    rw [decide_eq_true_eq, decide_eq_true_eq]
    rcases nthN_rng (n := n) (p := spB F O) (i := i) with q | q <;> omega
  · have e : n = 0 := by omega
    subst e
    rfl
set_option maxRecDepth 100000 in
set_option maxHeartbeats 4000000 in
theorem ev_X6_fault (P D n : Nat) (F O : Nat → Nat) (tl : Nat) (tb : Nat → Nat) (fa tr wh : Int) (M : jM) (hS : KS P D n F O tl tb fa tr wh M) : Ev 0 mX6_fault [(10, 0)] M (fun z M' => z = fa ∧ M' = M) := by
  refine Ev_of (by decide +kernel) (Nat.le_of_ble_eq_true rfl) (L := [(10, 0)]) rfl ?_
  refine J_aload_n dX6_fault_0 rfl ?_
  refine J_getR dX6_fault_1 flX6_10 rfl rfl ?_
  refine J_getI dX6_fault_4 flX6_87 rfl rfl (J_top (v := fa) hS.2.2.1.1 ?_)
  refine J_ireturn dX6_fault_7 rfl ?_
  exact ⟨rfl, rfl⟩
set_option maxRecDepth 100000 in
set_option maxHeartbeats 4000000 in
theorem ev_X6_size (P D n : Nat) (F O : Nat → Nat) (tl : Nat) (tb : Nat → Nat) (fa tr wh : Int) (M : jM) (hS : KS P D n F O tl tb fa tr wh M) : Ev 0 mX6_size [(10, 0)] M (fun z M' => z = (tl : Int) ∧ M' = M) := by
  refine Ev_of (by decide +kernel) (Nat.le_of_ble_eq_true rfl) (L := [(10, 0)]) rfl ?_
  refine J_aload_n dX6_size_0 rfl ?_
  refine J_getR dX6_size_1 flX6_10 rfl rfl ?_
  refine J_getI dX6_size_4 flX6_63 rfl rfl (J_top (v := ((tl : Nat) : Int)) hS.2.2.1.2.2.1 ?_)
  refine J_ireturn dX6_size_7 rfl ?_
  exact ⟨rfl, rfl⟩
set_option maxRecDepth 100000 in
set_option maxHeartbeats 4000000 in
theorem ev_X6_trouble (P D n : Nat) (F O : Nat → Nat) (tl : Nat) (tb : Nat → Nat) (fa tr wh : Int) (M : jM) (hS : KS P D n F O tl tb fa tr wh M) : Ev 0 mX6_trouble [(10, 0)] M (fun z M' => z = tr ∧ M' = M) := by
  refine Ev_of (by decide +kernel) (Nat.le_of_ble_eq_true rfl) (L := [(10, 0)]) rfl ?_
  refine J_aload_n dX6_trouble_0 rfl ?_
  refine J_getI dX6_trouble_1 flX6_51 rfl rfl (J_top (v := tr) hS.2.1 ?_)
  refine J_ireturn dX6_trouble_4 rfl ?_
  exact ⟨rfl, rfl⟩
set_option maxRecDepth 100000 in
set_option maxHeartbeats 4000000 in
theorem ev_X6_where (P D n : Nat) (F O : Nat → Nat) (tl : Nat) (tb : Nat → Nat) (fa tr wh : Int) (M : jM) (hS : KS P D n F O tl tb fa tr wh M) (htr : -2147483648 ≤ tr ∧ tr < 2147483648) : Ev 0 mX6_where [(10, 0)] M (fun z M' => z = (if tr = 4 then wh else -1) ∧ M' = M) := by
  refine Ev_of (by decide +kernel) (Nat.le_of_ble_eq_true rfl) (L := [(10, 0)]) rfl ?_
  refine J_aload_n dX6_where_0 rfl ?_
  refine J_getI dX6_where_1 flX6_51 rfl rfl (J_top (v := tr) hS.2.1 ?_)
  refine J_iconst dX6_where_4 ?_
  refine J_icmp_ne (tgt := 18) dX6_where_5 rfl (by omega) (by decide) (fun h5 => ?_) (fun h5 => ?_)
  ·
    refine J_iconst dX6_where_18 ?_
    refine J_ireturn dX6_where_19 rfl ?_
    exact ⟨by rw [if_neg (by omega)], rfl⟩
  ·
    refine J_aload_n dX6_where_8 rfl ?_
    refine J_getR dX6_where_9 flX6_10 rfl rfl ?_
    refine J_getI dX6_where_12 flX6_90 rfl rfl (J_top (v := wh) (hS.2.2.1.2.1 (by omega)) ?_)
    refine J_goto (tgt := 19) dX6_where_15 rfl ?_
    refine J_ireturn dX6_where_19 rfl ?_
    exact ⟨by rw [if_pos (by omega)], rfl⟩
set_option maxRecDepth 100000 in
set_option maxHeartbeats 4000000 in
theorem ev_X6_facet (P D n : Nat) (F O : Nat → Nat) (tl : Nat) (tb : Nat → Nat) (fa tr wh : Int) (M : jM) (hS : KS P D n F O tl tb fa tr wh M) (i : Int) (hi : -2147483648 ≤ i ∧ i < 2147483648) : Ev 1 mX6_facet [(10, 0), (0, i)] M (fun z M' => z = A_facet n F i ∧ KS P D n F O tl tb fa (u1 (bI n i)) 0 M' ∧ KM M M') := by
  refine Ev_of (by decide +kernel) (Nat.le_of_ble_eq_true rfl) (L := [(10, 0), (0, i)]) rfl ?_
  have hR := hS.1
  have hn12 := KR.hn hR
  have hP7 := KR.hP hR
  have hD5 := KR.hD hR
  have h2P : 2 ^ P ≤ 128 := Nat.pow_le_pow_right (n := 2) (by decide) hP7
  have h2p := Nat.two_pow_pos P
  refine J_aload_n dX6_facet_0 rfl ?_
  refine J_aload_n dX6_facet_1 rfl ?_
  refine J_getR dX6_facet_2 flX6_19 rfl rfl ?_
  refine J_iload_n dX6_facet_5 rfl ?_
  refine J_callViQ (cl := mX0_isFacet) [(0, i)] [(10, 0)] dX6_facet_6 mlX6_115 cvX0_isFacet rfl rfl rfl rfl rfl (by decide) (Nat.le_of_ble_eq_true rfl) rfl (ev_X0_isFacet P D n F O M hR i (by omega)) ?_
  refine J_ifb_ne (tgt := 16) dX6_facet_9 rfl (fun h9 => ?_) (fun h9 => ?_)
  ·
    refine J_iconst dX6_facet_16 ?_
    refine J_iconst dX6_facet_17 ?_
    refine J_callViQ (cl := mX6_refused) [(0, ((Bool.toNat (false) : Nat) : Int)), (0, 1)] [] dX6_facet_18 mlX6_66 cvX6_refused rfl rfl rfl rfl rfl (by decide) (Nat.le_of_ble_eq_true rfl) rfl (ev_X6_refusedF 1 M) ?_
    refine J_ifb_eq (tgt := 26) dX6_facet_21 rfl (fun h21 => ?_) (fun h21 => ?_)
    ·
      refine J_aload_n dX6_facet_26 rfl ?_
      refine J_getR dX6_facet_27 flX6_19 rfl rfl ?_
      refine J_getR dX6_facet_30 flX6_118 rfl rfl ?_
      refine J_iload_n dX6_facet_33 rfl (J_top (v := (((Int.toNat i) : Nat) : Int)) (by have := bI_n h9; omega) ?_)
      refine J_iald dX6_facet_34 rfl (by decide) (KR.ix hR (by have := bI_n h9; omega)) (J_top (v := (((F (Int.toNat i)) : Nat) : Int)) (KR.gF (kr_up (by decide) hR) (by have := bI_n h9; omega)) ?_)
      refine J_ireturn dX6_facet_35 rfl ?_
      exact ⟨by unfold A_facet; rw [h9]; rfl, by rw [u1_t h9]; exact ks_tr (by decide) hS, km_up (by decide) km_rf⟩
    · exact absurd h21 (by decide)
  ·
    refine J_iconst dX6_facet_12 ?_
    refine J_goto (tgt := 17) dX6_facet_13 rfl ?_
    refine J_iconst dX6_facet_17 ?_
    refine J_callViQ (cl := mX6_refused) [(0, ((Bool.toNat (true) : Nat) : Int)), (0, 1)] [] dX6_facet_18 mlX6_66 cvX6_refused rfl rfl rfl rfl rfl (by decide) (Nat.le_of_ble_eq_true rfl) rfl (ev_X6_refusedT 1 M) ?_
    refine J_ifb_eq (tgt := 26) dX6_facet_21 rfl (fun h21 => ?_) (fun h21 => ?_)
    · exact absurd h21 (by decide)
    ·
      refine J_iconst dX6_facet_24 ?_
      refine J_ireturn dX6_facet_25 rfl ?_
      exact ⟨by unfold A_facet; rw [h9]; rfl, by rw [u1_f h9]; exact ks_tr (by decide) hS, km_up (by decide) km_rf⟩
set_option maxRecDepth 100000 in
set_option maxHeartbeats 4000000 in
theorem ev_X6_near (P D n : Nat) (F O : Nat → Nat) (tl : Nat) (tb : Nat → Nat) (fa tr wh : Int) (M : jM) (hS : KS P D n F O tl tb fa tr wh M) (i : Int) (hi : -2147483648 ≤ i ∧ i < 2147483648) : Ev 1 mX6_near [(10, 0), (0, i)] M (fun z M' => z = A_near D n F i ∧ KS P D n F O tl tb fa (u1 (bI n i)) 0 M' ∧ KM M M') := by
  refine Ev_of (by decide +kernel) (Nat.le_of_ble_eq_true rfl) (L := [(10, 0), (0, i)]) rfl ?_
  have hR := hS.1
  have hn12 := KR.hn hR
  have hP7 := KR.hP hR
  have hD5 := KR.hD hR
  have h2P : 2 ^ P ≤ 128 := Nat.pow_le_pow_right (n := 2) (by decide) hP7
  have h2p := Nat.two_pow_pos P
  refine J_aload_n dX6_near_0 rfl ?_
  refine J_aload_n dX6_near_1 rfl ?_
  refine J_getR dX6_near_2 flX6_19 rfl rfl ?_
  refine J_iload_n dX6_near_5 rfl ?_
  refine J_callViQ (cl := mX0_isFacet) [(0, i)] [(10, 0)] dX6_near_6 mlX6_115 cvX0_isFacet rfl rfl rfl rfl rfl (by decide) (Nat.le_of_ble_eq_true rfl) rfl (ev_X0_isFacet P D n F O M hR i (by omega)) ?_
  refine J_ifb_ne (tgt := 16) dX6_near_9 rfl (fun h9 => ?_) (fun h9 => ?_)
  ·
    refine J_iconst dX6_near_16 ?_
    refine J_iconst dX6_near_17 ?_
    refine J_callViQ (cl := mX6_refused) [(0, ((Bool.toNat (false) : Nat) : Int)), (0, 1)] [] dX6_near_18 mlX6_66 cvX6_refused rfl rfl rfl rfl rfl (by decide) (Nat.le_of_ble_eq_true rfl) rfl (ev_X6_refusedF 1 M) ?_
    refine J_ifb_eq (tgt := 26) dX6_near_21 rfl (fun h21 => ?_) (fun h21 => ?_)
    ·
      refine J_aload_n dX6_near_26 rfl ?_
      refine J_getR dX6_near_27 flX6_19 rfl rfl ?_
      refine J_iload_n dX6_near_30 rfl (J_top (v := (((Int.toNat i) : Nat) : Int)) (by have := bI_n h9; omega) ?_)
      refine J_callViQ (cl := mX0_neighbours) [(0, (((Int.toNat i) : Nat) : Int))] [] dX6_near_31 mlX6_165 cvX0_neighbours rfl rfl rfl rfl rfl (by decide) (Nat.le_of_ble_eq_true rfl) rfl (ev_X0_neighbours P D n F O (j_up M 0 6 0) (kr_up (by decide) hR) (Int.toNat i) (by have := bI_n h9; omega)) ?_
      refine J_ireturn dX6_near_34 rfl ?_
      exact ⟨by unfold A_near; rw [h9]; rfl, by rw [u1_t h9]; exact ks_tr (by decide) hS, km_up (by decide) km_rf⟩
    · exact absurd h21 (by decide)
  ·
    refine J_iconst dX6_near_12 ?_
    refine J_goto (tgt := 17) dX6_near_13 rfl ?_
    refine J_iconst dX6_near_17 ?_
    refine J_callViQ (cl := mX6_refused) [(0, ((Bool.toNat (true) : Nat) : Int)), (0, 1)] [] dX6_near_18 mlX6_66 cvX6_refused rfl rfl rfl rfl rfl (by decide) (Nat.le_of_ble_eq_true rfl) rfl (ev_X6_refusedT 1 M) ?_
    refine J_ifb_eq (tgt := 26) dX6_near_21 rfl (fun h21 => ?_) (fun h21 => ?_)
    · exact absurd h21 (by decide)
    ·
      refine J_iconst dX6_near_24 ?_
      refine J_ireturn dX6_near_25 rfl ?_
      exact ⟨by unfold A_near; rw [h9]; rfl, by rw [u1_f h9]; exact ks_tr (by decide) hS, km_up (by decide) km_rf⟩
set_option maxRecDepth 100000 in
set_option maxHeartbeats 4000000 in
theorem ev_X6_apart (P D n : Nat) (F O : Nat → Nat) (tl : Nat) (tb : Nat → Nat) (fa tr wh : Int) (M : jM) (hS : KS P D n F O tl tb fa tr wh M) (i : Int) (hi : -2147483648 ≤ i ∧ i < 2147483648) (j : Int) (hj : -2147483648 ≤ j ∧ j < 2147483648) : Ev 2 mX6_apart [(10, 0), (0, i), (0, j)] M (fun z M' => z = A_apart D n F i j ∧ KS P D n F O tl tb fa (u1 (bI n i && bI n j)) 0 M' ∧ KM M M') := by
  refine Ev_of (by decide +kernel) (Nat.le_of_ble_eq_true rfl) (L := [(10, 0), (0, i), (0, j)]) rfl ?_
  have hR := hS.1
  have hn12 := KR.hn hR
  have hP7 := KR.hP hR
  have hD5 := KR.hD hR
  have h2P : 2 ^ P ≤ 128 := Nat.pow_le_pow_right (n := 2) (by decide) hP7
  have h2p := Nat.two_pow_pos P
  refine J_aload_n dX6_apart_0 rfl ?_
  refine J_aload_n dX6_apart_1 rfl ?_
  refine J_getR dX6_apart_2 flX6_19 rfl rfl ?_
  refine J_iload_n dX6_apart_5 rfl ?_
  refine J_callViQ (cl := mX0_isFacet) [(0, i)] [(10, 0)] dX6_apart_6 mlX6_115 cvX0_isFacet rfl rfl rfl rfl rfl (by decide) (Nat.le_of_ble_eq_true rfl) rfl (ev_X0_isFacet P D n F O M hR i (by omega)) ?_
  refine J_ifb_eq (tgt := 23) dX6_apart_9 rfl (fun h9 => ?_) (fun h9 => ?_)
  ·
    refine J_iconst dX6_apart_23 ?_
    refine J_goto (tgt := 28) dX6_apart_24 rfl ?_
    refine J_iconst dX6_apart_28 ?_
    refine J_callViQ (cl := mX6_refused) [(0, ((Bool.toNat (true) : Nat) : Int)), (0, 1)] [] dX6_apart_29 mlX6_66 cvX6_refused rfl rfl rfl rfl rfl (by decide) (Nat.le_of_ble_eq_true rfl) rfl (ev_X6_refusedT 1 M) ?_
    refine J_ifb_eq (tgt := 37) dX6_apart_32 rfl (fun h32 => ?_) (fun h32 => ?_)
    · exact absurd h32 (by decide)
    ·
      refine J_iconst dX6_apart_35 ?_
      refine J_ireturn dX6_apart_36 rfl ?_
      have e : (bI n i && bI n j) = false := by rw [h9]; rfl
      exact ⟨by unfold A_apart; rw [e]; rfl, by rw [u1_f e]; exact ks_tr (by decide) hS, km_up (by decide) km_rf⟩
  ·
    refine J_aload_n dX6_apart_12 rfl ?_
    refine J_getR dX6_apart_13 flX6_19 rfl rfl ?_
    refine J_iload_n dX6_apart_16 rfl ?_
    refine J_callViQ (cl := mX0_isFacet) [(0, j)] [(10, 0)] dX6_apart_17 mlX6_115 cvX0_isFacet rfl rfl rfl rfl rfl (by decide) (Nat.le_of_ble_eq_true rfl) rfl (ev_X0_isFacet P D n F O M hR j (by omega)) ?_
    refine J_ifb_ne (tgt := 27) dX6_apart_20 rfl (fun h20 => ?_) (fun h20 => ?_)
    ·
      refine J_iconst dX6_apart_27 ?_
      refine J_iconst dX6_apart_28 ?_
      refine J_callViQ (cl := mX6_refused) [(0, ((Bool.toNat (false) : Nat) : Int)), (0, 1)] [] dX6_apart_29 mlX6_66 cvX6_refused rfl rfl rfl rfl rfl (by decide) (Nat.le_of_ble_eq_true rfl) rfl (ev_X6_refusedF 1 M) ?_
      refine J_ifb_eq (tgt := 37) dX6_apart_32 rfl (fun h32 => ?_) (fun h32 => ?_)
      ·
        refine J_aload_n dX6_apart_37 rfl ?_
        refine J_getR dX6_apart_38 flX6_19 rfl rfl ?_
        refine J_iload_n dX6_apart_41 rfl (J_top (v := (((Int.toNat i) : Nat) : Int)) (by have := bI_n h9; omega) ?_)
        refine J_iload_n dX6_apart_42 rfl (J_top (v := (((Int.toNat j) : Nat) : Int)) (by have := bI_n h20; omega) ?_)
        refine J_callViQ (cl := mX0_steps) [(0, (((Int.toNat i) : Nat) : Int)), (0, (((Int.toNat j) : Nat) : Int))] [] dX6_apart_43 mlX6_168 cvX0_steps rfl rfl rfl rfl rfl (by decide) (Nat.le_of_ble_eq_true rfl) rfl (ev_X0_steps P D n F O (j_up M 0 6 0) (kr_up (by decide) hR) (Int.toNat i) (Int.toNat j) (by have := bI_n h9; omega) (by have := bI_n h20; omega)) ?_
        refine J_ireturn dX6_apart_46 rfl ?_
        have e : (bI n i && bI n j) = true := by rw [h9, h20]; rfl
        exact ⟨by unfold A_apart; rw [e]; rfl, by rw [u1_t e]; exact ks_tr (by decide) hS, km_up (by decide) km_rf⟩
      · exact absurd h32 (by decide)
    ·
      refine J_iconst dX6_apart_23 ?_
      refine J_goto (tgt := 28) dX6_apart_24 rfl ?_
      refine J_iconst dX6_apart_28 ?_
      refine J_callViQ (cl := mX6_refused) [(0, ((Bool.toNat (true) : Nat) : Int)), (0, 1)] [] dX6_apart_29 mlX6_66 cvX6_refused rfl rfl rfl rfl rfl (by decide) (Nat.le_of_ble_eq_true rfl) rfl (ev_X6_refusedT 1 M) ?_
      refine J_ifb_eq (tgt := 37) dX6_apart_32 rfl (fun h32 => ?_) (fun h32 => ?_)
      · exact absurd h32 (by decide)
      ·
        refine J_iconst dX6_apart_35 ?_
        refine J_ireturn dX6_apart_36 rfl ?_
        have e : (bI n i && bI n j) = false := by rw [h20, Bool.and_false]
        exact ⟨by unfold A_apart; rw [e]; rfl, by rw [u1_f e]; exact ks_tr (by decide) hS, km_up (by decide) km_rf⟩
set_option maxRecDepth 100000 in
set_option maxHeartbeats 4000000 in
theorem ev_X6_ordered (P D n : Nat) (F O : Nat → Nat) (tl : Nat) (tb : Nat → Nat) (fa tr wh : Int) (M : jM) (hS : KS P D n F O tl tb fa tr wh M) (i : Int) (hi : -2147483648 ≤ i ∧ i < 2147483648) : Ev 2 mX6_ordered [(10, 0), (0, i)] M (fun z M' => z = A_ordered n O i ∧ KS P D n F O tl tb fa (u1 (bI n i)) 0 M' ∧ KM M M') := by
  refine Ev_of (by decide +kernel) (Nat.le_of_ble_eq_true rfl) (L := [(10, 0), (0, i)]) rfl ?_
  have hR := hS.1
  have hn12 := KR.hn hR
  have hP7 := KR.hP hR
  have hD5 := KR.hD hR
  have h2P : 2 ^ P ≤ 128 := Nat.pow_le_pow_right (n := 2) (by decide) hP7
  have h2p := Nat.two_pow_pos P
  refine J_aload_n dX6_ordered_0 rfl ?_
  refine J_iload_n dX6_ordered_1 rfl ?_
  refine J_callViQ (cl := mX6_refusesPlace) [(0, i)] [] dX6_ordered_2 mlX6_171 cvX6_refusesPlace rfl rfl rfl rfl rfl (by decide) (Nat.le_of_ble_eq_true rfl) rfl (ev_X6_refusesPlace P D n F O M hR i (by omega)) ?_
  refine J_ifn_eq (b := (bI n i)) (tgt := 12) dX6_ordered_5 rfl (fun h5 => ?_) (fun h5 => ?_)
  ·
    refine J_aload_n dX6_ordered_12 rfl ?_
    refine J_getR dX6_ordered_13 flX6_26 rfl rfl ?_
    refine J_getR dX6_ordered_16 flX6_174 rfl rfl ?_
    refine J_iload_n dX6_ordered_19 rfl (J_top (v := (((Int.toNat i) : Nat) : Int)) (by have := bI_n h5; omega) ?_)
    refine J_iald dX6_ordered_20 rfl (by decide) (KR.ix hR (by have := bI_n h5; omega)) (J_top (v := (((O (Int.toNat i)) : Nat) : Int)) (KR.gO (kr_up (by decide) hR) (by have := bI_n h5; omega)) ?_)
    refine J_ireturn dX6_ordered_21 rfl ?_
    exact ⟨by unfold A_ordered; rw [h5]; rfl, ks_tr u1_4 hS, km_up (by decide) km_rf⟩
  ·
    refine J_iconst dX6_ordered_8 ?_
    refine J_goto (tgt := 21) dX6_ordered_9 rfl ?_
    refine J_ireturn dX6_ordered_21 rfl ?_
    exact ⟨by unfold A_ordered; rw [h5]; rfl, ks_tr u1_4 hS, km_up (by decide) km_rf⟩
set_option maxRecDepth 100000 in
set_option maxHeartbeats 4000000 in
theorem ev_X6_joins (P D n : Nat) (F O : Nat → Nat) (tl : Nat) (tb : Nat → Nat) (fa tr wh : Int) (M : jM) (hS : KS P D n F O tl tb fa tr wh M) (i : Int) (hi : -2147483648 ≤ i ∧ i < 2147483648) : Ev 2 mX6_joins [(10, 0), (0, i)] M (fun z M' => z = A_joins n F O i ∧ KS P D n F O tl tb fa (u1 (bI n i)) 0 M' ∧ KM M M') := by
  refine Ev_of (by decide +kernel) (Nat.le_of_ble_eq_true rfl) (L := [(10, 0), (0, i)]) rfl ?_
  have hR := hS.1
  have hn12 := KR.hn hR
  have hP7 := KR.hP hR
  have hD5 := KR.hD hR
  have h2P : 2 ^ P ≤ 128 := Nat.pow_le_pow_right (n := 2) (by decide) hP7
  have h2p := Nat.two_pow_pos P
  refine J_aload_n dX6_joins_0 rfl ?_
  refine J_iload_n dX6_joins_1 rfl ?_
  refine J_callViQ (cl := mX6_refusesPlace) [(0, i)] [] dX6_joins_2 mlX6_171 cvX6_refusesPlace rfl rfl rfl rfl rfl (by decide) (Nat.le_of_ble_eq_true rfl) rfl (ev_X6_refusesPlace P D n F O M hR i (by omega)) ?_
  refine J_ifn_eq (b := (bI n i)) (tgt := 10) dX6_joins_5 rfl (fun h5 => ?_) (fun h5 => ?_)
  ·
    refine J_aload_n dX6_joins_10 rfl ?_
    refine J_getR dX6_joins_11 flX6_26 rfl rfl ?_
    refine J_aload_n dX6_joins_14 rfl ?_
    refine J_getR dX6_joins_15 flX6_19 rfl rfl ?_
    refine J_iload_n dX6_joins_18 rfl (J_top (v := (((Int.toNat i) : Nat) : Int)) (by have := bI_n h5; omega) ?_)
    refine J_callViQ (cl := mX3_fitsAt) [(14, 0), (0, (((Int.toNat i) : Nat) : Int))] [] dX6_joins_19 mlX6_177 cvX3_fitsAt rfl rfl rfl rfl rfl (by decide) (Nat.le_of_ble_eq_true rfl) rfl (ev_X3_fitsAt P D n F O (j_up M 0 6 (u1 (bI n i))) (kr_up (by decide) hR) (Int.toNat i) (by have := bI_n h5; omega)) ?_
    refine J_ifb_eq (tgt := 29) dX6_joins_22 rfl (fun h22 => ?_) (fun h22 => ?_)
    ·
      refine J_iconst dX6_joins_29 ?_
      refine J_ireturn dX6_joins_30 rfl ?_
      exact ⟨by unfold A_joins; rw [h5, h22]; rfl, ks_tr u1_4 hS, km_up (by decide) km_rf⟩
    ·
      refine J_iconst dX6_joins_25 ?_
      refine J_goto (tgt := 30) dX6_joins_26 rfl ?_
      refine J_ireturn dX6_joins_30 rfl ?_
      exact ⟨by unfold A_joins; rw [h5, h22]; rfl, ks_tr u1_4 hS, km_up (by decide) km_rf⟩
  ·
    refine J_iconst dX6_joins_8 ?_
    refine J_ireturn dX6_joins_9 rfl ?_
    exact ⟨by unfold A_joins; rw [h5]; rfl, ks_tr u1_4 hS, km_up (by decide) km_rf⟩
set_option maxRecDepth 100000 in
set_option maxHeartbeats 4000000 in
theorem ev_X6_restricted (P D n : Nat) (F O : Nat → Nat) (tl : Nat) (tb : Nat → Nat) (fa tr wh : Int) (M : jM) (hS : KS P D n F O tl tb fa tr wh M) (i : Int) (hi : -2147483648 ≤ i ∧ i < 2147483648) : Ev 2 mX6_restricted [(10, 0), (0, i)] M (fun z M' => z = A_restricted n F O i ∧ KS P D n F O tl tb fa (u1 (bI n i)) 0 M' ∧ KM M M') := by
  refine Ev_of (by decide +kernel) (Nat.le_of_ble_eq_true rfl) (L := [(10, 0), (0, i)]) rfl ?_
  have hR := hS.1
  have hn12 := KR.hn hR
  have hP7 := KR.hP hR
  have hD5 := KR.hD hR
  have h2P : 2 ^ P ≤ 128 := Nat.pow_le_pow_right (n := 2) (by decide) hP7
  have h2p := Nat.two_pow_pos P
  refine J_aload_n dX6_restricted_0 rfl ?_
  refine J_iload_n dX6_restricted_1 rfl ?_
  refine J_callViQ (cl := mX6_refusesPlace) [(0, i)] [] dX6_restricted_2 mlX6_171 cvX6_refusesPlace rfl rfl rfl rfl rfl (by decide) (Nat.le_of_ble_eq_true rfl) rfl (ev_X6_refusesPlace P D n F O M hR i (by omega)) ?_
  refine J_ifn_eq (b := (bI n i)) (tgt := 12) dX6_restricted_5 rfl (fun h5 => ?_) (fun h5 => ?_)
  ·
    refine J_aload_n dX6_restricted_12 rfl ?_
    refine J_getR dX6_restricted_13 flX6_26 rfl rfl ?_
    refine J_aload_n dX6_restricted_16 rfl ?_
    refine J_getR dX6_restricted_17 flX6_19 rfl rfl ?_
    refine J_iload_n dX6_restricted_20 rfl (J_top (v := (((Int.toNat i) : Nat) : Int)) (by have := bI_n h5; omega) ?_)
    refine J_callViQ (cl := mX3_restriction) [(14, 0), (0, (((Int.toNat i) : Nat) : Int))] [] dX6_restricted_21 mlX6_181 cvX3_restriction rfl rfl rfl rfl rfl (by decide) (Nat.le_of_ble_eq_true rfl) rfl (ev_X3_restriction P D n F O (j_up M 0 6 (u1 (bI n i))) (kr_up (by decide) hR) (Int.toNat i) (by have := bI_n h5; omega)) ?_
    refine J_ireturn dX6_restricted_24 rfl ?_
    exact ⟨by unfold A_restricted; rw [h5]; rfl, ks_tr u1_4 hS, km_up (by decide) km_rf⟩
  ·
    refine J_iconst dX6_restricted_8 ?_
    refine J_goto (tgt := 24) dX6_restricted_9 rfl ?_
    refine J_ireturn dX6_restricted_24 rfl ?_
    exact ⟨by unfold A_restricted; rw [h5]; rfl, ks_tr u1_4 hS, km_up (by decide) km_rf⟩
set_option maxRecDepth 100000 in
set_option maxHeartbeats 4000000 in
theorem ev_X6_leaps (P D n : Nat) (F O : Nat → Nat) (tl : Nat) (tb : Nat → Nat) (fa tr wh : Int) (M : jM) (hS : KS P D n F O tl tb fa tr wh M) (i : Int) (hi : -2147483648 ≤ i ∧ i < 2147483648) : Ev 3 mX6_leaps [(10, 0), (0, i)] M (fun z M' => z = A_leaps P n F O i ∧ KS P D n F O tl tb fa (u1 (bI n i)) 0 M' ∧ KM M M') := by
  refine Ev_of (by decide +kernel) (Nat.le_of_ble_eq_true rfl) (L := [(10, 0), (0, i)]) rfl ?_
  have hR := hS.1
  have hn12 := KR.hn hR
  have hP7 := KR.hP hR
  have hD5 := KR.hD hR
  have h2P : 2 ^ P ≤ 128 := Nat.pow_le_pow_right (n := 2) (by decide) hP7
  have h2p := Nat.two_pow_pos P
  refine J_aload_n dX6_leaps_0 rfl ?_
  refine J_iload_n dX6_leaps_1 rfl ?_
  refine J_callViQ (cl := mX6_refusesPlace) [(0, i)] [] dX6_leaps_2 mlX6_171 cvX6_refusesPlace rfl rfl rfl rfl rfl (by decide) (Nat.le_of_ble_eq_true rfl) rfl (ev_X6_refusesPlace P D n F O M hR i (by omega)) ?_
  refine J_ifn_eq (b := (bI n i)) (tgt := 12) dX6_leaps_5 rfl (fun h5 => ?_) (fun h5 => ?_)
  ·
    refine J_aload_n dX6_leaps_12 rfl ?_
    refine J_getR dX6_leaps_13 flX6_26 rfl rfl ?_
    refine J_aload_n dX6_leaps_16 rfl ?_
    refine J_getR dX6_leaps_17 flX6_19 rfl rfl ?_
    refine J_iload_n dX6_leaps_20 rfl (J_top (v := (((Int.toNat i) : Nat) : Int)) (by have := bI_n h5; omega) ?_)
    refine J_callViQ (cl := mX3_countLeaps) [(14, 0), (0, (((Int.toNat i) : Nat) : Int))] [] dX6_leaps_21 mlX6_222 cvX3_countLeaps rfl rfl rfl rfl rfl (by decide) (Nat.le_of_ble_eq_true rfl) rfl (ev_X3_countLeaps P D n F O (j_up M 0 6 (u1 (bI n i))) (kr_up (by decide) hR) (Int.toNat i) (by have := bI_n h5; omega)) ?_
    refine J_ireturn dX6_leaps_24 rfl ?_
    exact ⟨by unfold A_leaps; rw [h5]; rfl, ks_tr u1_4 hS, km_up (by decide) km_rf⟩
  ·
    refine J_iconst dX6_leaps_8 ?_
    refine J_goto (tgt := 24) dX6_leaps_9 rfl ?_
    refine J_ireturn dX6_leaps_24 rfl ?_
    exact ⟨by unfold A_leaps; rw [h5]; rfl, ks_tr u1_4 hS, km_up (by decide) km_rf⟩
set_option maxRecDepth 100000 in
set_option maxHeartbeats 4000000 in
theorem ev_X6_good (P D n : Nat) (F O : Nat → Nat) (tl : Nat) (tb : Nat → Nat) (fa tr wh : Int) (M : jM) (hS : KS P D n F O tl tb fa tr wh M) : Ev 3 mX6_good [(10, 0)] M (fun z M' => z = A_good n F O ∧ KS P D n F O tl tb fa (u1 (bT n)) 0 M' ∧ KM M M') := by
  refine Ev_of (by decide +kernel) (Nat.le_of_ble_eq_true rfl) (L := [(10, 0)]) rfl ?_
  have hR := hS.1
  have hn12 := KR.hn hR
  have hP7 := KR.hP hR
  have hD5 := KR.hD hR
  have h2P : 2 ^ P ≤ 128 := Nat.pow_le_pow_right (n := 2) (by decide) hP7
  have h2p := Nat.two_pow_pos P
  refine J_aload_n dX6_good_0 rfl ?_
  refine J_callViQ (cl := mX6_refusesEmpty) [] [] dX6_good_1 mlX6_146 cvX6_refusesEmpty rfl rfl rfl rfl rfl (by decide) (Nat.le_of_ble_eq_true rfl) rfl (ev_X6_refusesEmpty P D n F O M hR) ?_
  refine J_ifn_eq (b := bT n) (tgt := 11) dX6_good_4 rfl (fun h4 => ?_) (fun h4 => ?_)
  ·
    refine J_aload_n dX6_good_11 rfl ?_
    refine J_getR dX6_good_12 flX6_26 rfl rfl ?_
    refine J_aload_n dX6_good_15 rfl ?_
    refine J_getR dX6_good_16 flX6_19 rfl rfl ?_
    refine J_callViQ (cl := mX3_goodStart) [(14, 0)] [] dX6_good_19 mlX6_185 cvX3_goodStart rfl rfl rfl rfl rfl (by decide) (Nat.le_of_ble_eq_true rfl) rfl (ev_X3_goodStart P D n F O (j_up M 0 6 (u1 (bT n))) (kr_up (by decide) hR) ) ?_
    refine J_ireturn dX6_good_22 rfl ?_
    exact ⟨by unfold A_good; rw [h4]; rfl, ks_tr u1_4 hS, km_up (by decide) km_rf⟩
  ·
    refine J_iconst dX6_good_7 ?_
    refine J_goto (tgt := 22) dX6_good_8 rfl ?_
    refine J_ireturn dX6_good_22 rfl ?_
    exact ⟨by unfold A_good; rw [h4]; rfl, ks_tr u1_4 hS, km_up (by decide) km_rf⟩
set_option maxRecDepth 100000 in
set_option maxHeartbeats 4000000 in
theorem ev_X6_within (P D n : Nat) (F O : Nat → Nat) (tl : Nat) (tb : Nat → Nat) (fa tr wh : Int) (M : jM) (hS : KS P D n F O tl tb fa tr wh M) (i : Int) (hi : -2147483648 ≤ i ∧ i < 2147483648) : Ev 3 mX6_within [(10, 0), (0, i)] M (fun z M' => z = A_within P n F i ∧ KS P D n F O tl tb fa (u2 (bT n) (bS P i)) 0 M' ∧ KM M M') := by
  refine Ev_of (by decide +kernel) (Nat.le_of_ble_eq_true rfl) (L := [(10, 0), (0, i)]) rfl ?_
  have hR := hS.1
  have hn12 := KR.hn hR
  have hP7 := KR.hP hR
  have hD5 := KR.hD hR
  have h2P : 2 ^ P ≤ 128 := Nat.pow_le_pow_right (n := 2) (by decide) hP7
  have h2p := Nat.two_pow_pos P
  refine J_aload_n dX6_within_0 rfl ?_
  refine J_iload_n dX6_within_1 rfl ?_
  refine J_callViQ (cl := mX6_refusesSet) [(0, i)] [] dX6_within_2 mlX6_122 cvX6_refusesSet rfl rfl rfl rfl rfl (by decide) (Nat.le_of_ble_eq_true rfl) rfl (ev_X6_refusesSet P D n F O M hR i (by omega)) ?_
  refine J_ifn_eq (b := (bT n && bS P i)) (tgt := 10) dX6_within_5 rfl (fun h5 => ?_) (fun h5 => ?_)
  ·
    refine J_aload_n dX6_within_10 rfl ?_
    refine J_getR dX6_within_11 flX6_19 rfl rfl ?_
    refine J_getR dX6_within_14 flX6_125 rfl rfl ?_
    refine J_iload_n dX6_within_17 rfl (J_top (v := (((Int.toNat i) : Nat) : Int)) (by have := bS_n h5; omega) ?_)
    refine J_iald dX6_within_18 rfl (by decide) (i128 (by have := bS_n h5; omega)) (J_top (v := (((lyg n F (Int.toNat i)) : Nat) : Int)) (KR.gL (kr_up (by decide) hR) (by have := bS_n h5; omega)) ?_)
    refine J_ireturn dX6_within_19 rfl ?_
    exact ⟨by unfold A_within; rw [h5]; rfl, ks_tr u2_4 hS, km_up (by decide) km_rf⟩
  ·
    refine J_iconst dX6_within_8 ?_
    refine J_ireturn dX6_within_9 rfl ?_
    exact ⟨by unfold A_within; rw [h5]; rfl, ks_tr u2_4 hS, km_up (by decide) km_rf⟩
set_option maxRecDepth 100000 in
set_option maxHeartbeats 4000000 in
theorem ev_X6_cell (P D n : Nat) (F O : Nat → Nat) (tl : Nat) (tb : Nat → Nat) (fa tr wh : Int) (M : jM) (hS : KS P D n F O tl tb fa tr wh M) (i : Int) (hi : -2147483648 ≤ i ∧ i < 2147483648) : Ev 3 mX6_cell [(10, 0), (0, i)] M (fun z M' => z = A_cell P n F O i ∧ KS P D n F O tl tb fa (u2 (bT n) (bS P i)) 0 M' ∧ KM M M') := by
  refine Ev_of (by decide +kernel) (Nat.le_of_ble_eq_true rfl) (L := [(10, 0), (0, i)]) rfl ?_
  have hR := hS.1
  have hn12 := KR.hn hR
  have hP7 := KR.hP hR
  have hD5 := KR.hD hR
  have h2P : 2 ^ P ≤ 128 := Nat.pow_le_pow_right (n := 2) (by decide) hP7
  have h2p := Nat.two_pow_pos P
  refine J_aload_n dX6_cell_0 rfl ?_
  refine J_iload_n dX6_cell_1 rfl ?_
  refine J_callViQ (cl := mX6_refusesSet) [(0, i)] [] dX6_cell_2 mlX6_122 cvX6_refusesSet rfl rfl rfl rfl rfl (by decide) (Nat.le_of_ble_eq_true rfl) rfl (ev_X6_refusesSet P D n F O M hR i (by omega)) ?_
  refine J_ifn_eq (b := (bT n && bS P i)) (tgt := 10) dX6_cell_5 rfl (fun h5 => ?_) (fun h5 => ?_)
  ·
    refine J_aload_n dX6_cell_10 rfl ?_
    refine J_getR dX6_cell_11 flX6_26 rfl rfl ?_
    refine J_aload_n dX6_cell_14 rfl ?_
    refine J_getR dX6_cell_15 flX6_19 rfl rfl ?_
    refine J_iload_n dX6_cell_18 rfl (J_top (v := (((Int.toNat i) : Nat) : Int)) (by have := bS_n h5; omega) ?_)
    refine J_callViQ (cl := mX3_firstWith) [(14, 0), (0, (((Int.toNat i) : Nat) : Int))] [] dX6_cell_19 mlX6_210 cvX3_firstWith rfl rfl rfl rfl rfl (by decide) (Nat.le_of_ble_eq_true rfl) rfl (ev_X3_firstWith P D n F O (j_up M 0 6 (u2 (bT n) (bS P i))) (kr_up (by decide) hR) (Int.toNat i) (by have := bS_n h5; omega)) ?_
    refine J_ireturn dX6_cell_22 rfl ?_
    exact ⟨by unfold A_cell; rw [h5]; rfl, ks_tr u2_4 hS, km_up (by decide) km_rf⟩
  ·
    refine J_iconst dX6_cell_8 ?_
    refine J_ireturn dX6_cell_9 rfl ?_
    exact ⟨by unfold A_cell; rw [h5]; rfl, ks_tr u2_4 hS, km_up (by decide) km_rf⟩
set_option maxRecDepth 100000 in
set_option maxHeartbeats 4000000 in
theorem ev_X6_between (P D n : Nat) (F O : Nat → Nat) (tl : Nat) (tb : Nat → Nat) (fa tr wh : Int) (M : jM) (hS : KS P D n F O tl tb fa tr wh M) (i : Int) (hi : -2147483648 ≤ i ∧ i < 2147483648) : Ev 3 mX6_between [(10, 0), (0, i)] M (fun z M' => z = A_between P n F O i ∧ KS P D n F O tl tb fa (u2 (bT n) (bS P i)) 0 M' ∧ KM M M') := by
  refine Ev_of (by decide +kernel) (Nat.le_of_ble_eq_true rfl) (L := [(10, 0), (0, i)]) rfl ?_
  have hR := hS.1
  have hn12 := KR.hn hR
  have hP7 := KR.hP hR
  have hD5 := KR.hD hR
  have h2P : 2 ^ P ≤ 128 := Nat.pow_le_pow_right (n := 2) (by decide) hP7
  have h2p := Nat.two_pow_pos P
  refine J_aload_n dX6_between_0 rfl ?_
  refine J_iload_n dX6_between_1 rfl ?_
  refine J_callViQ (cl := mX6_refusesSet) [(0, i)] [] dX6_between_2 mlX6_122 cvX6_refusesSet rfl rfl rfl rfl rfl (by decide) (Nat.le_of_ble_eq_true rfl) rfl (ev_X6_refusesSet P D n F O M hR i (by omega)) ?_
  refine J_ifn_eq (b := (bT n && bS P i)) (tgt := 10) dX6_between_5 rfl (fun h5 => ?_) (fun h5 => ?_)
  ·
    refine J_aload_n dX6_between_10 rfl ?_
    refine J_getR dX6_between_11 flX6_26 rfl rfl ?_
    refine J_aload_n dX6_between_14 rfl ?_
    refine J_getR dX6_between_15 flX6_19 rfl rfl ?_
    refine J_iload_n dX6_between_18 rfl (J_top (v := (((Int.toNat i) : Nat) : Int)) (by have := bS_n h5; omega) ?_)
    refine J_callViQ (cl := mX3_countBetween) [(14, 0), (0, (((Int.toNat i) : Nat) : Int))] [] dX6_between_19 mlX6_213 cvX3_countBetween rfl rfl rfl rfl rfl (by decide) (Nat.le_of_ble_eq_true rfl) rfl (ev_X3_countBetween P D n F O (j_up M 0 6 (u2 (bT n) (bS P i))) (kr_up (by decide) hR) (Int.toNat i) (by have := bS_n h5; omega)) ?_
    refine J_ireturn dX6_between_22 rfl ?_
    exact ⟨by unfold A_between; rw [h5]; rfl, ks_tr u2_4 hS, km_up (by decide) km_rf⟩
  ·
    refine J_iconst dX6_between_8 ?_
    refine J_ireturn dX6_between_9 rfl ?_
    exact ⟨by unfold A_between; rw [h5]; rfl, ks_tr u2_4 hS, km_up (by decide) km_rf⟩
set_option maxRecDepth 100000 in
set_option maxHeartbeats 4000000 in
theorem ev_X6_faces (P D n : Nat) (F O : Nat → Nat) (tl : Nat) (tb : Nat → Nat) (fa tr wh : Int) (M : jM) (hS : KS P D n F O tl tb fa tr wh M) (k : Int) (hk : -2147483648 ≤ k ∧ k < 2147483648) : Ev 3 mX6_faces [(10, 0), (0, k)] M (fun z M' => z = A_faces D n F k ∧ KS P D n F O tl tb fa (u2 (bT n) (bK D k)) 0 M' ∧ KM M M') := by
  refine Ev_of (by decide +kernel) (Nat.le_of_ble_eq_true rfl) (L := [(10, 0), (0, k)]) rfl ?_
  have hR := hS.1
  have hn12 := KR.hn hR
  have hP7 := KR.hP hR
  have hD5 := KR.hD hR
  have h2P : 2 ^ P ≤ 128 := Nat.pow_le_pow_right (n := 2) (by decide) hP7
  have h2p := Nat.two_pow_pos P
  refine J_aload_n dX6_faces_0 rfl ?_
  refine J_iload_n dX6_faces_1 rfl ?_
  refine J_aload_n dX6_faces_2 rfl ?_
  refine J_getR dX6_faces_3 flX6_19 rfl rfl ?_
  refine J_getI dX6_faces_6 flX6_99 rfl rfl (J_top (v := ((D : Nat) : Int)) (KR.gD hR) ?_)
  refine J_callViQ (cl := mX6_refusesUpTo) [(0, k), (0, ((D : Nat) : Int))] [] dX6_faces_9 mlX6_132 cvX6_refusesUpTo rfl rfl rfl rfl rfl (by decide) (Nat.le_of_ble_eq_true rfl) rfl (ev_X6_refusesUpTo P D n F O M hR k (by omega) D (by omega)) ?_
  refine J_ifn_eq (b := (bT n && bK D k)) (tgt := 17) dX6_faces_12 rfl (fun h12 => ?_) (fun h12 => ?_)
  ·
    refine J_aload_n dX6_faces_17 rfl ?_
    refine J_getR dX6_faces_18 flX6_19 rfl rfl ?_
    refine J_iload_n dX6_faces_21 rfl ?_
    refine J_callViQ (cl := mX0_countSized) [(0, k)] [] dX6_faces_22 mlX6_136 cvX0_countSized rfl rfl rfl rfl rfl (by decide) (Nat.le_of_ble_eq_true rfl) rfl (ev_X0_countSized P D n F O (j_up M 0 6 (u2 (bT n) (bK D k))) (kr_up (by decide) hR) k (by omega)) ?_
    refine J_ireturn dX6_faces_25 rfl ?_
    exact ⟨by unfold A_faces; rw [h12]; rfl, ks_tr u2_4 hS, km_up (by decide) km_rf⟩
  ·
    refine J_iconst dX6_faces_15 ?_
    refine J_ireturn dX6_faces_16 rfl ?_
    exact ⟨by unfold A_faces; rw [h12]; rfl, ks_tr u2_4 hS, km_up (by decide) km_rf⟩
set_option maxRecDepth 100000 in
set_option maxHeartbeats 4000000 in
theorem ev_X6_sized (P D n : Nat) (F O : Nat → Nat) (tl : Nat) (tb : Nat → Nat) (fa tr wh : Int) (M : jM) (hS : KS P D n F O tl tb fa tr wh M) (k : Int) (hk : -2147483648 ≤ k ∧ k < 2147483648) : Ev 3 mX6_sized [(10, 0), (0, k)] M (fun z M' => z = A_sized D n F O k ∧ KS P D n F O tl tb fa (u2 (bT n) (bK D k)) 0 M' ∧ KM M M') := by
  refine Ev_of (by decide +kernel) (Nat.le_of_ble_eq_true rfl) (L := [(10, 0), (0, k)]) rfl ?_
  have hR := hS.1
  have hn12 := KR.hn hR
  have hP7 := KR.hP hR
  have hD5 := KR.hD hR
  have h2P : 2 ^ P ≤ 128 := Nat.pow_le_pow_right (n := 2) (by decide) hP7
  have h2p := Nat.two_pow_pos P
  refine J_aload_n dX6_sized_0 rfl ?_
  refine J_iload_n dX6_sized_1 rfl ?_
  refine J_aload_n dX6_sized_2 rfl ?_
  refine J_getR dX6_sized_3 flX6_19 rfl rfl ?_
  refine J_getI dX6_sized_6 flX6_99 rfl rfl (J_top (v := ((D : Nat) : Int)) (KR.gD hR) ?_)
  refine J_callViQ (cl := mX6_refusesUpTo) [(0, k), (0, ((D : Nat) : Int))] [] dX6_sized_9 mlX6_132 cvX6_refusesUpTo rfl rfl rfl rfl rfl (by decide) (Nat.le_of_ble_eq_true rfl) rfl (ev_X6_refusesUpTo P D n F O M hR k (by omega) D (by omega)) ?_
  refine J_ifn_eq (b := (bT n && bK D k)) (tgt := 17) dX6_sized_12 rfl (fun h12 => ?_) (fun h12 => ?_)
  ·
    refine J_aload_n dX6_sized_17 rfl ?_
    refine J_getR dX6_sized_18 flX6_26 rfl rfl ?_
    refine J_aload_n dX6_sized_21 rfl ?_
    refine J_getR dX6_sized_22 flX6_19 rfl rfl ?_
    refine J_iload_n dX6_sized_25 rfl ?_
    refine J_callViQ (cl := mX3_countRestrictions) [(14, 0), (0, k)] [] dX6_sized_26 mlX6_189 cvX3_countRestrictions rfl rfl rfl rfl rfl (by decide) (Nat.le_of_ble_eq_true rfl) rfl (ev_X3_countRestrictions P D n F O (j_up M 0 6 (u2 (bT n) (bK D k))) (kr_up (by decide) hR) k (by omega)) ?_
    refine J_ireturn dX6_sized_29 rfl ?_
    exact ⟨by unfold A_sized; rw [h12]; rfl, ks_tr u2_4 hS, km_up (by decide) km_rf⟩
  ·
    refine J_iconst dX6_sized_15 ?_
    refine J_ireturn dX6_sized_16 rfl ?_
    exact ⟨by unfold A_sized; rw [h12]; rfl, ks_tr u2_4 hS, km_up (by decide) km_rf⟩
set_option maxRecDepth 100000 in
set_option maxHeartbeats 4000000 in
theorem ev_X6_rank (P D n : Nat) (F O : Nat → Nat) (tl : Nat) (tb : Nat → Nat) (fa tr wh : Int) (M : jM) (hS : KS P D n F O tl tb fa tr wh M) (k : Int) (hk : -2147483648 ≤ k ∧ k < 2147483648) : Ev 5 mX6_rank [(10, 0), (0, k)] M (fun z M' => z = A_rank D n F k ∧ KS P D n F O tl tb fa (u2 (bT n) (bK D k)) 0 M' ∧ KM M M') := by
  refine Ev_of (by decide +kernel) (Nat.le_of_ble_eq_true rfl) (L := [(10, 0), (0, k)]) rfl ?_
  have hR := hS.1
  have hn12 := KR.hn hR
  have hP7 := KR.hP hR
  have hD5 := KR.hD hR
  have h2P : 2 ^ P ≤ 128 := Nat.pow_le_pow_right (n := 2) (by decide) hP7
  have h2p := Nat.two_pow_pos P
  refine J_aload_n dX6_rank_0 rfl ?_
  refine J_iload_n dX6_rank_1 rfl ?_
  refine J_aload_n dX6_rank_2 rfl ?_
  refine J_getR dX6_rank_3 flX6_19 rfl rfl ?_
  refine J_getI dX6_rank_6 flX6_99 rfl rfl (J_top (v := ((D : Nat) : Int)) (KR.gD hR) ?_)
  refine J_callViQ (cl := mX6_refusesUpTo) [(0, k), (0, ((D : Nat) : Int))] [] dX6_rank_9 mlX6_132 cvX6_refusesUpTo rfl rfl rfl rfl rfl (by decide) (Nat.le_of_ble_eq_true rfl) rfl (ev_X6_refusesUpTo P D n F O M hR k (by omega) D (by omega)) ?_
  refine J_ifn_eq (b := (bT n && bK D k)) (tgt := 17) dX6_rank_12 rfl (fun h12 => ?_) (fun h12 => ?_)
  ·
    refine J_aload_n dX6_rank_17 rfl ?_
    refine J_getR dX6_rank_18 flX6_33 rfl rfl ?_
    refine J_aload_n dX6_rank_21 rfl ?_
    refine J_getR dX6_rank_22 flX6_19 rfl rfl ?_
    refine J_callVv (cl := mX1_takeFaces) [(14, 0)] [] dX6_rank_25 mlX6_149 cvX1_takeFaces rfl rfl rfl rfl rfl (by decide) (Nat.le_of_ble_eq_true rfl) rfl (ev_X1_takeFaces P D n F O (j_up M 0 6 (u2 (bT n) (bK D k))) (kr_up (by decide) hR)) (fun Ma hq25 => ?_)
    obtain ⟨a1, a2⟩ := hq25
    refine J_aload_n dX6_rank_28 rfl ?_
    refine J_getR dX6_rank_29 flX6_33 rfl rfl ?_
    refine J_iload_n dX6_rank_32 rfl (J_top (v := (((Int.toNat k) : Nat) : Int)) (by have := bK_n h12; omega) ?_)
    refine J_callVi (cl := mX1_rankOf) [(0, (((Int.toNat k) : Nat) : Int))] [] dX6_rank_33 mlX6_153 cvX1_rankOf rfl rfl rfl rfl rfl (by decide) (Nat.le_of_ble_eq_true rfl) rfl (ev_X1_rankOf (2 ^ P - 1) (isF n F) (Int.toNat k) (by have := bK_n h12; omega) Ma (hg_faces (kr_up (by decide) hR) (cc_ch ch1 (by decide) hS.cc) a1 a2)) (fun z33 Mb hq33 => ?_)
    obtain ⟨rfl, b1, b2⟩ := hq33
    refine J_ireturn dX6_rank_36 rfl ?_
    exact ⟨by unfold A_rank; rw [h12]; rfl, ks_hv b1 (by decide) (ks_hv a1 (by decide) (ks_tr u2_4 hS)), km_tr (km_tr (km_up (by decide) km_rf) (km_ch a1 (by decide))) (km_ch b1 (by decide))⟩
  ·
    refine J_iconst dX6_rank_15 ?_
    refine J_ireturn dX6_rank_16 rfl ?_
    exact ⟨by unfold A_rank; rw [h12]; rfl, ks_tr u2_4 hS, km_up (by decide) km_rf⟩
set_option maxRecDepth 100000 in
set_option maxHeartbeats 4000000 in
theorem ev_X6_round (P D n : Nat) (F O : Nat → Nat) (tl : Nat) (tb : Nat → Nat) (fa tr wh : Int) (M : jM) (hS : KS P D n F O tl tb fa tr wh M) (k : Int) (hk : -2147483648 ≤ k ∧ k < 2147483648) : Ev 5 mX6_round [(10, 0), (0, k)] M (fun z M' => z = A_round D n F k ∧ KS P D n F O tl tb fa (u2 (bT n) (bK D k)) 0 M' ∧ KM M M') := by
  refine Ev_of (by decide +kernel) (Nat.le_of_ble_eq_true rfl) (L := [(10, 0), (0, k)]) rfl ?_
  have hR := hS.1
  have hn12 := KR.hn hR
  have hP7 := KR.hP hR
  have hD5 := KR.hD hR
  have h2P : 2 ^ P ≤ 128 := Nat.pow_le_pow_right (n := 2) (by decide) hP7
  have h2p := Nat.two_pow_pos P
  refine J_aload_n dX6_round_0 rfl ?_
  refine J_iload_n dX6_round_1 rfl ?_
  refine J_aload_n dX6_round_2 rfl ?_
  refine J_getR dX6_round_3 flX6_19 rfl rfl ?_
  refine J_getI dX6_round_6 flX6_99 rfl rfl (J_top (v := ((D : Nat) : Int)) (KR.gD hR) ?_)
  refine J_callViQ (cl := mX6_refusesUpTo) [(0, k), (0, ((D : Nat) : Int))] [] dX6_round_9 mlX6_132 cvX6_refusesUpTo rfl rfl rfl rfl rfl (by decide) (Nat.le_of_ble_eq_true rfl) rfl (ev_X6_refusesUpTo P D n F O M hR k (by omega) D (by omega)) ?_
  refine J_ifn_eq (b := (bT n && bK D k)) (tgt := 17) dX6_round_12 rfl (fun h12 => ?_) (fun h12 => ?_)
  ·
    refine J_aload_n dX6_round_17 rfl ?_
    refine J_getR dX6_round_18 flX6_33 rfl rfl ?_
    refine J_aload_n dX6_round_21 rfl ?_
    refine J_getR dX6_round_22 flX6_19 rfl rfl ?_
    refine J_callVv (cl := mX1_takeFaces) [(14, 0)] [] dX6_round_25 mlX6_149 cvX1_takeFaces rfl rfl rfl rfl rfl (by decide) (Nat.le_of_ble_eq_true rfl) rfl (ev_X1_takeFaces P D n F O (j_up M 0 6 (u2 (bT n) (bK D k))) (kr_up (by decide) hR)) (fun Ma hq25 => ?_)
    obtain ⟨a1, a2⟩ := hq25
    refine J_aload_n dX6_round_28 rfl ?_
    refine J_getR dX6_round_29 flX6_33 rfl rfl ?_
    refine J_iload_n dX6_round_32 rfl (J_top (v := (((Int.toNat k) : Nat) : Int)) (by have := bK_n h12; omega) ?_)
    refine J_callVi (cl := mX1_roundOf) [(0, (((Int.toNat k) : Nat) : Int))] [] dX6_round_33 mlX6_156 cvX1_roundOf rfl rfl rfl rfl rfl (by decide) (Nat.le_of_ble_eq_true rfl) rfl (ev_X1_roundOf (2 ^ P - 1) (isF n F) (Int.toNat k) (by have := bK_n h12; omega) Ma (hg_faces (kr_up (by decide) hR) (cc_ch ch1 (by decide) hS.cc) a1 a2)) (fun z33 Mb hq33 => ?_)
    obtain ⟨rfl, b1, b2⟩ := hq33
    refine J_ireturn dX6_round_36 rfl ?_
    exact ⟨by unfold A_round; rw [h12]; rfl, ks_hv b1 (by decide) (ks_hv a1 (by decide) (ks_tr u2_4 hS)), km_tr (km_tr (km_up (by decide) km_rf) (km_ch a1 (by decide))) (km_ch b1 (by decide))⟩
  ·
    refine J_iconst dX6_round_15 ?_
    refine J_ireturn dX6_round_16 rfl ?_
    exact ⟨by unfold A_round; rw [h12]; rfl, ks_tr u2_4 hS, km_up (by decide) km_rf⟩
set_option maxRecDepth 100000 in
set_option maxHeartbeats 4000000 in
theorem ev_X6_dualRound (P D n : Nat) (F O : Nat → Nat) (tl : Nat) (tb : Nat → Nat) (fa tr wh : Int) (M : jM) (hS : KS P D n F O tl tb fa tr wh M) (k : Int) (hk : -2147483648 ≤ k ∧ k < 2147483648) : Ev 5 mX6_dualRound [(10, 0), (0, k)] M (fun z M' => z = A_dualRound P n F k ∧ KS P D n F O tl tb fa (u2 (bT n) (bK P k)) 0 M' ∧ KM M M') := by
  refine Ev_of (by decide +kernel) (Nat.le_of_ble_eq_true rfl) (L := [(10, 0), (0, k)]) rfl ?_
  have hR := hS.1
  have hn12 := KR.hn hR
  have hP7 := KR.hP hR
  have hD5 := KR.hD hR
  have h2P : 2 ^ P ≤ 128 := Nat.pow_le_pow_right (n := 2) (by decide) hP7
  have h2p := Nat.two_pow_pos P
  refine J_aload_n dX6_dualRound_0 rfl ?_
  refine J_iload_n dX6_dualRound_1 rfl ?_
  refine J_aload_n dX6_dualRound_2 rfl ?_
  refine J_getR dX6_dualRound_3 flX6_19 rfl rfl ?_
  refine J_getI dX6_dualRound_6 flX6_96 rfl rfl (J_top (v := ((P : Nat) : Int)) (KR.gP hR) ?_)
  refine J_callViQ (cl := mX6_refusesUpTo) [(0, k), (0, ((P : Nat) : Int))] [] dX6_dualRound_9 mlX6_132 cvX6_refusesUpTo rfl rfl rfl rfl rfl (by decide) (Nat.le_of_ble_eq_true rfl) rfl (ev_X6_refusesUpTo P D n F O M hR k (by omega) P (by omega)) ?_
  refine J_ifn_eq (b := (bT n && bK P k)) (tgt := 17) dX6_dualRound_12 rfl (fun h12 => ?_) (fun h12 => ?_)
  ·
    refine J_aload_n dX6_dualRound_17 rfl ?_
    refine J_getR dX6_dualRound_18 flX6_33 rfl rfl ?_
    refine J_aload_n dX6_dualRound_21 rfl ?_
    refine J_getR dX6_dualRound_22 flX6_19 rfl rfl ?_
    refine J_callVv (cl := mX1_takeDual) [(14, 0)] [] dX6_dualRound_25 mlX6_162 cvX1_takeDual rfl rfl rfl rfl rfl (by decide) (Nat.le_of_ble_eq_true rfl) rfl (ev_X1_takeDual P D n F O (j_up M 0 6 (u2 (bT n) (bK P k))) (kr_up (by decide) hR) (bK_n h12).1) (fun Ma hq25 => ?_)
    obtain ⟨a1, a2⟩ := hq25
    refine J_aload_n dX6_dualRound_28 rfl ?_
    refine J_getR dX6_dualRound_29 flX6_33 rfl rfl ?_
    refine J_iload_n dX6_dualRound_32 rfl (J_top (v := (((Int.toNat k) : Nat) : Int)) (by have := bK_n h12; omega) ?_)
    refine J_callVi (cl := mX1_roundOf) [(0, (((Int.toNat k) : Nat) : Int))] [] dX6_dualRound_33 mlX6_156 cvX1_roundOf rfl rfl rfl rfl rfl (by decide) (Nat.le_of_ble_eq_true rfl) rfl (ev_X1_roundOf (2 ^ P - 1) (duF P n F) (Int.toNat k) (by have := bK_n h12; omega) Ma (hg_dual (kr_up (by decide) hR) (cc_ch ch1 (by decide) hS.cc) a1 a2)) (fun z33 Mb hq33 => ?_)
    obtain ⟨rfl, b1, b2⟩ := hq33
    refine J_ireturn dX6_dualRound_36 rfl ?_
    exact ⟨by unfold A_dualRound; rw [h12]; rfl, ks_hv b1 (by decide) (ks_hv a1 (by decide) (ks_tr u2_4 hS)), km_tr (km_tr (km_up (by decide) km_rf) (km_ch a1 (by decide))) (km_ch b1 (by decide))⟩
  ·
    refine J_iconst dX6_dualRound_15 ?_
    refine J_ireturn dX6_dualRound_16 rfl ?_
    exact ⟨by unfold A_dualRound; rw [h12]; rfl, ks_tr u2_4 hS, km_up (by decide) km_rf⟩
set_option maxRecDepth 100000 in
set_option maxHeartbeats 4000000 in
theorem ev_X6_missing (P D n : Nat) (F O : Nat → Nat) (tl : Nat) (tb : Nat → Nat) (fa tr wh : Int) (M : jM) (hS : KS P D n F O tl tb fa tr wh M) (i : Int) (hi : -2147483648 ≤ i ∧ i < 2147483648) : Ev 2 mX6_missing [(10, 0), (0, i)] M (fun z M' => z = A_missing P n F i ∧ KS P D n F O tl tb fa (u1 (bM P n F i)) 0 M' ∧ KM M M') := by
  refine Ev_of (by decide +kernel) (Nat.le_of_ble_eq_true rfl) (L := [(10, 0), (0, i), (9, 0)]) rfl ?_
  have hR := hS.1
  have hn12 := KR.hn hR
  have hP7 := KR.hP hR
  have hD5 := KR.hD hR
  have h2P : 2 ^ P ≤ 128 := Nat.pow_le_pow_right (n := 2) (by decide) hP7
  have h2p := Nat.two_pow_pos P
  refine J_aload_n dX6_missing_0 rfl ?_
  refine J_getR dX6_missing_1 flX6_19 rfl rfl ?_
  refine J_iload_n dX6_missing_4 rfl ?_
  refine J_callViQ (cl := mX0_nthMissing) [(0, i)] [] dX6_missing_5 mlX6_128 cvX0_nthMissing rfl rfl rfl rfl rfl (by decide) (Nat.le_of_ble_eq_true rfl) rfl (ev_X0_nthMissing P D n F O M hR i (by omega)) ?_
  refine J_istore_n (L' := [(10, 0), (0, i), (0, (if 0 < n then nthN (2 ^ P) (msg P (isF n F)) i else -1))]) dX6_missing_8 (by decide) rfl rfl ?_
  refine J_aload_n dX6_missing_9 rfl ?_
  refine J_iload_n dX6_missing_10 rfl ?_
  refine J_if_ge (tgt := 18) dX6_missing_11 rfl (nmR hR _) (fun h11 => ?_) (fun h11 => ?_)
  ·
    refine J_iconst dX6_missing_18 ?_
    refine J_iconst dX6_missing_19 ?_
    refine J_callViQ (cl := mX6_refused) [(0, ((Bool.toNat (false) : Nat) : Int)), (0, 1)] [] dX6_missing_20 mlX6_66 cvX6_refused rfl rfl rfl rfl rfl (by decide) (Nat.le_of_ble_eq_true rfl) rfl (ev_X6_refusedF 1 M) ?_
    refine J_ifb_eq (tgt := 30) dX6_missing_23 rfl (fun h23 => ?_) (fun h23 => ?_)
    ·
      refine J_iload_n dX6_missing_30 rfl ?_
      refine J_ireturn dX6_missing_31 rfl ?_
      have e : bM P n F i = true := by rw [nm_b]; exact decide_eq_true h11
      exact ⟨by unfold A_missing; rw [if_pos e, nm_v e], by rw [u1_t e]; exact ks_tr (by decide) hS, km_up (by decide) km_rf⟩
    · exact absurd h23 (by decide)
  ·
    refine J_iconst dX6_missing_14 ?_
    refine J_goto (tgt := 19) dX6_missing_15 rfl ?_
    refine J_iconst dX6_missing_19 ?_
    refine J_callViQ (cl := mX6_refused) [(0, ((Bool.toNat (true) : Nat) : Int)), (0, 1)] [] dX6_missing_20 mlX6_66 cvX6_refused rfl rfl rfl rfl rfl (by decide) (Nat.le_of_ble_eq_true rfl) rfl (ev_X6_refusedT 1 M) ?_
    refine J_ifb_eq (tgt := 30) dX6_missing_23 rfl (fun h23 => ?_) (fun h23 => ?_)
    · exact absurd h23 (by decide)
    ·
      refine J_iconst dX6_missing_26 ?_
      refine J_goto (tgt := 31) dX6_missing_27 rfl ?_
      refine J_ireturn dX6_missing_31 rfl ?_
      have e : bM P n F i = false := by rw [nm_b]; exact decide_eq_false (by omega)
      exact ⟨by unfold A_missing; rw [if_neg (by rw [e]; decide)], by rw [u1_f e]; exact ks_tr (by decide) hS, km_up (by decide) km_rf⟩
set_option maxRecDepth 100000 in
set_option maxHeartbeats 4000000 in
theorem ev_X6_dual (P D n : Nat) (F O : Nat → Nat) (tl : Nat) (tb : Nat → Nat) (fa tr wh : Int) (M : jM) (hS : KS P D n F O tl tb fa tr wh M) (i : Int) (hi : -2147483648 ≤ i ∧ i < 2147483648) : Ev 2 mX6_dual [(10, 0), (0, i)] M (fun z M' => z = A_dual P n F i ∧ KS P D n F O tl tb fa (u1 (bM P n F i)) 0 M' ∧ KM M M') := by
  refine Ev_of (by decide +kernel) (Nat.le_of_ble_eq_true rfl) (L := [(10, 0), (0, i), (9, 0)]) rfl ?_
  have hR := hS.1
  have hn12 := KR.hn hR
  have hP7 := KR.hP hR
  have hD5 := KR.hD hR
  have h2P : 2 ^ P ≤ 128 := Nat.pow_le_pow_right (n := 2) (by decide) hP7
  have h2p := Nat.two_pow_pos P
  refine J_aload_n dX6_dual_0 rfl ?_
  refine J_getR dX6_dual_1 flX6_19 rfl rfl ?_
  refine J_iload_n dX6_dual_4 rfl ?_
  refine J_callViQ (cl := mX0_nthMissing) [(0, i)] [] dX6_dual_5 mlX6_128 cvX0_nthMissing rfl rfl rfl rfl rfl (by decide) (Nat.le_of_ble_eq_true rfl) rfl (ev_X0_nthMissing P D n F O M hR i (by omega)) ?_
  refine J_istore_n (L' := [(10, 0), (0, i), (0, (if 0 < n then nthN (2 ^ P) (msg P (isF n F)) i else -1))]) dX6_dual_8 (by decide) rfl rfl ?_
  refine J_aload_n dX6_dual_9 rfl ?_
  refine J_iload_n dX6_dual_10 rfl ?_
  refine J_if_ge (tgt := 18) dX6_dual_11 rfl (nmR hR _) (fun h11 => ?_) (fun h11 => ?_)
  ·
    refine J_iconst dX6_dual_18 ?_
    refine J_iconst dX6_dual_19 ?_
    refine J_callViQ (cl := mX6_refused) [(0, ((Bool.toNat (false) : Nat) : Int)), (0, 1)] [] dX6_dual_20 mlX6_66 cvX6_refused rfl rfl rfl rfl rfl (by decide) (Nat.le_of_ble_eq_true rfl) rfl (ev_X6_refusedF 1 M) ?_
    refine J_ifb_eq (tgt := 30) dX6_dual_23 rfl (fun h23 => ?_) (fun h23 => ?_)
    ·
      refine J_aload_n dX6_dual_30 rfl ?_
      refine J_getR dX6_dual_31 flX6_19 rfl rfl ?_
      refine J_callViQ (cl := mX0_everyPoint) [] [] dX6_dual_34 mlX6_159 cvX0_everyPoint rfl rfl rfl rfl rfl (by decide) (Nat.le_of_ble_eq_true rfl) rfl (ev_X0_everyPoint P D n F O (j_up M 0 6 0) (kr_up (by decide) hR) ) ?_
      refine J_iload_n dX6_dual_37 rfl (J_top (v := (((Int.toNat (nmS P n F i)) : Nat) : Int)) (by have e : bM P n F i = true := (by rw [nm_b]; exact decide_eq_true h11); have e2 := nm_v e; omega) ?_)
      refine J_iconst dX6_dual_38 ?_
      refine J_ixor dX6_dual_39 (J_top (v := (-(((Int.toNat (nmS P n F i)) : Nat) : Int) - 1)) (j_notN rfl (by have e : bM P n F i = true := (by rw [nm_b]; exact decide_eq_true h11); have e2 := nm_v e; have := nmR hR i; omega)) ?_)
      refine J_iand dX6_dual_40 (J_top (v := (((ndf (2 ^ P - 1) (Int.toNat (nmS P n F i))) : Nat) : Int)) (j_ndfN rfl rfl (kp31 hR)) ?_)
      refine J_ireturn dX6_dual_41 rfl ?_
      have e : bM P n F i = true := by rw [nm_b]; exact decide_eq_true h11
      exact ⟨by unfold A_dual; rw [if_pos e], by rw [u1_t e]; exact ks_tr (by decide) hS, km_up (by decide) km_rf⟩
    · exact absurd h23 (by decide)
  ·
    refine J_iconst dX6_dual_14 ?_
    refine J_goto (tgt := 19) dX6_dual_15 rfl ?_
    refine J_iconst dX6_dual_19 ?_
    refine J_callViQ (cl := mX6_refused) [(0, ((Bool.toNat (true) : Nat) : Int)), (0, 1)] [] dX6_dual_20 mlX6_66 cvX6_refused rfl rfl rfl rfl rfl (by decide) (Nat.le_of_ble_eq_true rfl) rfl (ev_X6_refusedT 1 M) ?_
    refine J_ifb_eq (tgt := 30) dX6_dual_23 rfl (fun h23 => ?_) (fun h23 => ?_)
    · exact absurd h23 (by decide)
    ·
      refine J_iconst dX6_dual_26 ?_
      refine J_goto (tgt := 41) dX6_dual_27 rfl ?_
      refine J_ireturn dX6_dual_41 rfl ?_
      have e : bM P n F i = false := by rw [nm_b]; exact decide_eq_false (by omega)
      exact ⟨by unfold A_dual; rw [if_neg (by rw [e]; decide)], by rw [u1_f e]; exact ks_tr (by decide) hS, km_up (by decide) km_rf⟩
set_option maxRecDepth 100000 in
set_option maxHeartbeats 4000000 in
theorem ev_X6_spanning (P D n : Nat) (F O : Nat → Nat) (tl : Nat) (tb : Nat → Nat) (fa tr wh : Int) (M : jM) (hS : KS P D n F O tl tb fa tr wh M) (i : Int) (hi : -2147483648 ≤ i ∧ i < 2147483648) : Ev 4 mX6_spanning [(10, 0), (0, i)] M (fun z M' => z = A_spanning n F O i ∧ KS P D n F O tl tb fa (u1 (bP n F O i)) 0 M' ∧ KM M M') := by
  refine Ev_of (by decide +kernel) (Nat.le_of_ble_eq_true rfl) (L := [(10, 0), (0, i), (9, 0)]) rfl ?_
  have hR := hS.1
  have hn12 := KR.hn hR
  have hP7 := KR.hP hR
  have hD5 := KR.hD hR
  have h2P : 2 ^ P ≤ 128 := Nat.pow_le_pow_right (n := 2) (by decide) hP7
  have h2p := Nat.two_pow_pos P
  refine J_aload_n dX6_spanning_0 rfl ?_
  refine J_getR dX6_spanning_1 flX6_26 rfl rfl ?_
  refine J_aload_n dX6_spanning_4 rfl ?_
  refine J_getR dX6_spanning_5 flX6_19 rfl rfl ?_
  refine J_iload_n dX6_spanning_8 rfl ?_
  refine J_callViQ (cl := mX3_nthSpanning) [(14, 0), (0, i)] [] dX6_spanning_9 mlX6_192 cvX3_nthSpanning rfl rfl rfl rfl rfl (by decide) (Nat.le_of_ble_eq_true rfl) rfl (ev_X3_nthSpanning P D n F O M hR i (by omega)) ?_
  refine J_istore_n (L' := [(10, 0), (0, i), (0, (nthN n (spB F O) i))]) dX6_spanning_12 (by decide) rfl rfl ?_
  refine J_aload_n dX6_spanning_13 rfl ?_
  refine J_iload_n dX6_spanning_14 rfl ?_
  refine J_if_ge (tgt := 22) dX6_spanning_15 rfl (nthK hR _ _) (fun h15 => ?_) (fun h15 => ?_)
  ·
    refine J_iconst dX6_spanning_22 ?_
    refine J_iconst dX6_spanning_23 ?_
    refine J_callViQ (cl := mX6_refused) [(0, ((Bool.toNat (false) : Nat) : Int)), (0, 1)] [] dX6_spanning_24 mlX6_66 cvX6_refused rfl rfl rfl rfl rfl (by decide) (Nat.le_of_ble_eq_true rfl) rfl (ev_X6_refusedF 1 M) ?_
    refine J_ifb_eq (tgt := 34) dX6_spanning_27 rfl (fun h27 => ?_) (fun h27 => ?_)
    ·
      refine J_iload_n dX6_spanning_34 rfl ?_
      refine J_ireturn dX6_spanning_35 rfl ?_
      have e : bP n F O i = true := by rw [sp_b]; exact decide_eq_true h15
      exact ⟨by unfold A_spanning; rw [if_pos e], by rw [u1_t e]; exact ks_tr (by decide) hS, km_up (by decide) km_rf⟩
    · exact absurd h27 (by decide)
  ·
    refine J_iconst dX6_spanning_18 ?_
    refine J_goto (tgt := 23) dX6_spanning_19 rfl ?_
    refine J_iconst dX6_spanning_23 ?_
    refine J_callViQ (cl := mX6_refused) [(0, ((Bool.toNat (true) : Nat) : Int)), (0, 1)] [] dX6_spanning_24 mlX6_66 cvX6_refused rfl rfl rfl rfl rfl (by decide) (Nat.le_of_ble_eq_true rfl) rfl (ev_X6_refusedT 1 M) ?_
    refine J_ifb_eq (tgt := 34) dX6_spanning_27 rfl (fun h27 => ?_) (fun h27 => ?_)
    · exact absurd h27 (by decide)
    ·
      refine J_iconst dX6_spanning_30 ?_
      refine J_goto (tgt := 35) dX6_spanning_31 rfl ?_
      refine J_ireturn dX6_spanning_35 rfl ?_
      have e : bP n F O i = false := by rw [sp_b]; exact decide_eq_false (by omega)
      exact ⟨by unfold A_spanning; rw [if_neg (by rw [e]; decide)], by rw [u1_f e]; exact ks_tr (by decide) hS, km_up (by decide) km_rf⟩
set_option maxRecDepth 100000 in
set_option maxHeartbeats 4000000 in
theorem ev_X6_about (P D n : Nat) (F O : Nat → Nat) (tl : Nat) (tb : Nat → Nat) (fa tr wh : Int) (M : jM) (hS : KS P D n F O tl tb fa tr wh M) (i : Int) (hi : -2147483648 ≤ i ∧ i < 2147483648) : Ev 3 mX6_about [(10, 0), (0, i)] M (fun z M' => z = A_about P D n F i ∧ KS P D n F O tl tb fa (u1 (bT n && b6 i)) 0 M' ∧ KM M M') := by
  refine Ev_of (by decide +kernel) (Nat.le_of_ble_eq_true rfl) (L := [(10, 0), (0, i)]) rfl ?_
  have hR := hS.1
  have hn12 := KR.hn hR
  have hP7 := KR.hP hR
  have hD5 := KR.hD hR
  have h2P : 2 ^ P ≤ 128 := Nat.pow_le_pow_right (n := 2) (by decide) hP7
  have h2p := Nat.two_pow_pos P
  refine J_aload_n dX6_about_0 rfl ?_
  refine J_aload_n dX6_about_1 rfl ?_
  refine J_callViQ (cl := mX6_isEmpty) [] [(10, 0)] dX6_about_2 mlX6_93 cvX6_isEmpty rfl rfl rfl rfl rfl (by decide) (Nat.le_of_ble_eq_true rfl) rfl (ev_X6_isEmpty P D n F O M hR ) ?_
  refine J_ifn_ne (b := bT n) (tgt := 18) dX6_about_5 rfl (fun h5 => ?_) (fun h5 => ?_)
  ·
    refine J_iconst dX6_about_18 ?_
    refine J_goto (tgt := 23) dX6_about_19 rfl ?_
    refine J_iconst dX6_about_23 ?_
    refine J_callViQ (cl := mX6_refused) [(0, ((Bool.toNat (true) : Nat) : Int)), (0, 1)] [] dX6_about_24 mlX6_66 cvX6_refused rfl rfl rfl rfl rfl (by decide) (Nat.le_of_ble_eq_true rfl) rfl (ev_X6_refusedT 1 M) ?_
    refine J_ifb_eq (tgt := 32) dX6_about_27 rfl (fun h27 => ?_) (fun h27 => ?_)
    · exact absurd h27 (by decide)
    ·
      refine J_iconst dX6_about_30 ?_
      refine J_ireturn dX6_about_31 rfl ?_
      have e : (bT n && b6 i) = false := by rw [h5]; rfl
      exact ⟨by unfold A_about; rw [e]; rfl, by rw [u1_f e]; exact ks_tr (by decide) hS, km_up (by decide) km_rf⟩
  ·
    refine J_iload_n dX6_about_8 rfl ?_
    refine J_if_lt (tgt := 18) dX6_about_9 rfl (by omega) (fun h9 => ?_) (fun h9 => ?_)
    ·
      refine J_iconst dX6_about_18 ?_
      refine J_goto (tgt := 23) dX6_about_19 rfl ?_
      refine J_iconst dX6_about_23 ?_
      refine J_callViQ (cl := mX6_refused) [(0, ((Bool.toNat (true) : Nat) : Int)), (0, 1)] [] dX6_about_24 mlX6_66 cvX6_refused rfl rfl rfl rfl rfl (by decide) (Nat.le_of_ble_eq_true rfl) rfl (ev_X6_refusedT 1 M) ?_
      refine J_ifb_eq (tgt := 32) dX6_about_27 rfl (fun h27 => ?_) (fun h27 => ?_)
      · exact absurd h27 (by decide)
      ·
        refine J_iconst dX6_about_30 ?_
        refine J_ireturn dX6_about_31 rfl ?_
        have e : (bT n && b6 i) = false := by rw [show b6 i = false from decide_eq_false (by omega), Bool.and_false]
        exact ⟨by unfold A_about; rw [e]; rfl, by rw [u1_f e]; exact ks_tr (by decide) hS, km_up (by decide) km_rf⟩
    ·
      refine J_iload_n dX6_about_12 rfl ?_
      refine J_bipush dX6_about_13 (by decide) ?_
      refine J_icmp_le (tgt := 22) dX6_about_15 rfl (by omega) (by decide) (fun h15 => ?_) (fun h15 => ?_)
      ·
        refine J_iconst dX6_about_22 ?_
        refine J_iconst dX6_about_23 ?_
        refine J_callViQ (cl := mX6_refused) [(0, ((Bool.toNat (false) : Nat) : Int)), (0, 1)] [] dX6_about_24 mlX6_66 cvX6_refused rfl rfl rfl rfl rfl (by decide) (Nat.le_of_ble_eq_true rfl) rfl (ev_X6_refusedF 1 M) ?_
        refine J_ifb_eq (tgt := 32) dX6_about_27 rfl (fun h27 => ?_) (fun h27 => ?_)
        ·
          refine J_iload_n dX6_about_32 rfl ?_
          rcases (by omega : i = 0 ∨ i = 1 ∨ i = 2 ∨ i = 3 ∨ i = 4 ∨ i = 5 ∨ (i < 0 ∨ 5 < i)) with h33 | h33 | h33 | h33 | h33 | h33 | h33
          · refine J_tableIn (tgt := 72) (off := 39) dX6_about_33 (by omega) (by omega) (by omega) (by rw [h33]; rfl) rfl ?_
            refine J_aload_n dX6_about_72 rfl ?_
            refine J_getR dX6_about_73 flX6_19 rfl rfl ?_
            refine J_getI dX6_about_76 flX6_96 rfl rfl (J_top (v := ((P : Nat) : Int)) (KR.gP (kr_up (by decide) hR)) ?_)
            refine J_ireturn dX6_about_79 rfl ?_
            have e : (bT n && b6 i) = true := by rw [h5]; exact decide_eq_true (by omega)
            exact ⟨by unfold A_about; rw [if_pos e, if_pos (by omega)], by rw [u1_t e]; exact ks_tr (by decide) hS, km_up (by decide) km_rf⟩
          · refine J_tableIn (tgt := 80) (off := 47) dX6_about_33 (by omega) (by omega) (by omega) (by rw [h33]; rfl) rfl ?_
            refine J_aload_n dX6_about_80 rfl ?_
            refine J_getR dX6_about_81 flX6_19 rfl rfl ?_
            refine J_getI dX6_about_84 flX6_99 rfl rfl (J_top (v := ((D : Nat) : Int)) (KR.gD (kr_up (by decide) hR)) ?_)
            refine J_ireturn dX6_about_87 rfl ?_
            have e : (bT n && b6 i) = true := by rw [h5]; exact decide_eq_true (by omega)
            exact ⟨by unfold A_about; rw [if_pos e, if_neg (by omega), if_pos (by omega)], by rw [u1_t e]; exact ks_tr (by decide) hS, km_up (by decide) km_rf⟩
          · refine J_tableIn (tgt := 88) (off := 55) dX6_about_33 (by omega) (by omega) (by omega) (by rw [h33]; rfl) rfl ?_
            refine J_aload_n dX6_about_88 rfl ?_
            refine J_getR dX6_about_89 flX6_19 rfl rfl ?_
            refine J_getI dX6_about_92 flX6_84 rfl rfl (J_top (v := ((n : Nat) : Int)) (KR.gn (kr_up (by decide) hR)) ?_)
            refine J_ireturn dX6_about_95 rfl ?_
            have e : (bT n && b6 i) = true := by rw [h5]; exact decide_eq_true (by omega)
            exact ⟨by unfold A_about; rw [if_pos e, if_neg (by omega), if_neg (by omega), if_pos (by omega)], by rw [u1_t e]; exact ks_tr (by decide) hS, km_up (by decide) km_rf⟩
          · refine J_tableIn (tgt := 96) (off := 63) dX6_about_33 (by omega) (by omega) (by omega) (by rw [h33]; rfl) rfl ?_
            refine J_aload_n dX6_about_96 rfl ?_
            refine J_getR dX6_about_97 flX6_19 rfl rfl ?_
            refine J_callViQ (cl := mX0_countFaces) [] [] dX6_about_100 mlX6_102 cvX0_countFaces rfl rfl rfl rfl rfl (by decide) (Nat.le_of_ble_eq_true rfl) rfl (ev_X0_countFaces P D n F O (j_up M 0 6 0) (kr_up (by decide) hR) ) ?_
            refine J_ireturn dX6_about_103 rfl ?_
            have e : (bT n && b6 i) = true := by rw [h5]; exact decide_eq_true (by omega)
            exact ⟨by unfold A_about; rw [if_pos e, if_neg (by omega), if_neg (by omega), if_neg (by omega), if_pos (by omega)], by rw [u1_t e]; exact ks_tr (by decide) hS, km_up (by decide) km_rf⟩
          · refine J_tableIn (tgt := 104) (off := 71) dX6_about_33 (by omega) (by omega) (by omega) (by rw [h33]; rfl) rfl ?_
            refine J_aload_n dX6_about_104 rfl ?_
            refine J_getR dX6_about_105 flX6_19 rfl rfl ?_
            refine J_callViQ (cl := mX0_usedPoints) [] [] dX6_about_108 mlX6_106 cvX0_usedPoints rfl rfl rfl rfl rfl (by decide) (Nat.le_of_ble_eq_true rfl) rfl (ev_X0_usedPoints P D n F O (j_up M 0 6 0) (kr_up (by decide) hR) ) ?_
            refine J_ireturn dX6_about_111 rfl ?_
            have e : (bT n && b6 i) = true := by rw [h5]; exact decide_eq_true (by omega)
            exact ⟨by unfold A_about; rw [if_pos e, if_neg (by omega), if_neg (by omega), if_neg (by omega), if_neg (by omega), if_pos (by omega)], by rw [u1_t e]; exact ks_tr (by decide) hS, km_up (by decide) km_rf⟩
          · refine J_tableIn (tgt := 112) (off := 79) dX6_about_33 (by omega) (by omega) (by omega) (by rw [h33]; rfl) rfl ?_
            refine J_aload_n dX6_about_112 rfl ?_
            refine J_getR dX6_about_113 flX6_19 rfl rfl ?_
            refine J_callViQ (cl := mX0_commonPoints) [] [] dX6_about_116 mlX6_109 cvX0_commonPoints rfl rfl rfl rfl rfl (by decide) (Nat.le_of_ble_eq_true rfl) rfl (ev_X0_commonPoints P D n F O (j_up M 0 6 0) (kr_up (by decide) hR) ) ?_
            refine J_ireturn dX6_about_119 rfl ?_
            have e : (bT n && b6 i) = true := by rw [h5]; exact decide_eq_true (by omega)
            exact ⟨by unfold A_about; rw [if_pos e, if_neg (by omega), if_neg (by omega), if_neg (by omega), if_neg (by omega), if_neg (by omega), if_pos (by omega)], by rw [u1_t e]; exact ks_tr (by decide) hS, km_up (by decide) km_rf⟩
          · refine J_tableOut (tgt := 120) dX6_about_33 (by omega) h33 rfl ?_
            have h0 := bT_n h5
            refine J_aload_n dX6_about_120 rfl ?_
            refine J_getR dX6_about_121 flX6_19 rfl rfl ?_
            refine J_callViQ (cl := mX0_countMissing) [] [] dX6_about_124 mlX6_112 cvX0_countMissing rfl rfl rfl rfl rfl (by decide) (Nat.le_of_ble_eq_true rfl) rfl (ev_X0_countMissing P D n F O (j_up M 0 6 0) (kr_up (by decide) hR) h0) ?_
            refine J_ireturn dX6_about_127 rfl ?_
            have e : (bT n && b6 i) = true := by rw [h5]; exact decide_eq_true (by omega)
            exact ⟨by unfold A_about; rw [if_pos e, if_neg (by omega), if_neg (by omega), if_neg (by omega), if_neg (by omega), if_neg (by omega), if_neg (by omega)], by rw [u1_t e]; exact ks_tr (by decide) hS, km_up (by decide) km_rf⟩
        · exact absurd h27 (by decide)
      ·
        refine J_iconst dX6_about_18 ?_
        refine J_goto (tgt := 23) dX6_about_19 rfl ?_
        refine J_iconst dX6_about_23 ?_
        refine J_callViQ (cl := mX6_refused) [(0, ((Bool.toNat (true) : Nat) : Int)), (0, 1)] [] dX6_about_24 mlX6_66 cvX6_refused rfl rfl rfl rfl rfl (by decide) (Nat.le_of_ble_eq_true rfl) rfl (ev_X6_refusedT 1 M) ?_
        refine J_ifb_eq (tgt := 32) dX6_about_27 rfl (fun h27 => ?_) (fun h27 => ?_)
        · exact absurd h27 (by decide)
        ·
          refine J_iconst dX6_about_30 ?_
          refine J_ireturn dX6_about_31 rfl ?_
          have e : (bT n && b6 i) = false := by rw [show b6 i = false from decide_eq_false (by omega), Bool.and_false]
          exact ⟨by unfold A_about; rw [e]; rfl, by rw [u1_f e]; exact ks_tr (by decide) hS, km_up (by decide) km_rf⟩
