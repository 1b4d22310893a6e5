theorem lp_b {P n : Nat} {F O : Nat → Nat} {i k : Int} (h : bI n i = true) : bL P n F O i k = decide (0 ≤ nthN (2 ^ P) (llB F O i.toNat) k) := by
  unfold bL
  rw [h, Bool.true_and]
  apply beqB
  rw [decide_eq_true_eq, decide_eq_true_eq]
  rcases nthN_rng (n := 2 ^ P) (p := llB F O i.toNat) (i := k) with q | q <;> omega
theorem tLR_4 {P D n : Nat} {F : Nat → Nat} {i k : Int} : tLR P D n F i k ≠ 4 := by
  unfold tLR
  split
  · split <;> decide
  · exact lkW_4
theorem sh_top {P n : Nat} {F : Nat → Nat} {M M' : jM} (h : SHD P n F M) (hc : Ch [21, 22] M M') (h2 : MI P n F n M') : SHD P n F M' := ⟨by rw [hc 20 (by decide)]; exact h.1, mi_top h2⟩
theorem sh_top1 {P n : Nat} {F : Nat → Nat} {M M' : jM} (h : SHD P n F M) (hc : Ch [21, 22] M M') (h2 : MI P n F (n - 1) M') (hu : UC n (n - 1) M M') : SHD P n F M' := by
  refine ⟨by rw [hc 20 (by decide)]; exact h.1, fun t ht hp => ?_⟩
  by_cases e : popc t ≤ n - 1
  · exact h2 t ht e
  · obtain ⟨a1, a2⟩ := hu t ht (by omega)
    rw [a1, a2]
    exact h.2 t ht hp
set_option maxRecDepth 100000 in
set_option maxHeartbeats 4000000 in
theorem ev_X6_link (P D n : Nat) (F O : Nat → Nat) (tl : Nat) (tb : Nat → Nat) (fa tr wh : Int) (M : jM) (hS : KS P D n F O tl tb fa tr wh M) (i : Int) (hi : -2147483648 ≤ i ∧ i < 2147483648) : Ev 4 mX6_link [(10, 0), (0, i)] M (fun z M' => z = A_link P n F i ∧ KS P D n F O tl tb fa (lkW P n F i) 0 M' ∧ KM M M') := by
  refine Ev_of (by decide +kernel) (Nat.le_of_ble_eq_true rfl) (L := [(10, 0), (0, i)]) rfl ?_
  have hR := hS.1
  have hn12 := KR.hn hR
  have hP7 := KR.hP hR
  have hD5 := KR.hD hR
  have h2P : 2 ^ P ≤ 128 := Nat.pow_le_pow_right (n := 2) (by decide) hP7
  have h2p := Nat.two_pow_pos P
  refine J_aload_n dX6_link_0 rfl ?_
  refine J_iload_n dX6_link_1 rfl ?_
  refine J_callViQ (cl := mX6_refusesFace) [(0, i)] [] dX6_link_2 mlX6_257 cvX6_refusesFace rfl rfl rfl rfl rfl (by decide) (Nat.le_of_ble_eq_true rfl) rfl (ev_X6_refusesFace P D n F O M hR i (by omega)) ?_
  refine J_ifb_eq (tgt := 12) dX6_link_5 rfl (fun h5 => ?_) (fun h5 => ?_)
  ·
    refine J_aload_n dX6_link_12 rfl ?_
    refine J_getR dX6_link_13 flX6_19 rfl rfl ?_
    refine J_getR dX6_link_16 flX6_125 rfl rfl ?_
    refine J_iload_n dX6_link_19 rfl (J_top (v := (((Int.toNat i) : Nat) : Int)) (by have := lkWz h5; omega) ?_)
    refine J_iald dX6_link_20 rfl (by decide) (i128 (by have := lkWz h5; omega)) (J_top (v := (((lyg n F (Int.toNat i)) : Nat) : Int)) (KR.gL (kr_up (by decide) hR) (by have := lkWz h5; omega)) ?_)
    refine J_callSiQ (cl := mJ6_bitCount_0f7a4) [(0, (((lyg n F (Int.toNat i)) : Nat) : Int))] [] dX6_link_21 mlX6_207 csJ6_bitCount_0f7a4 rfl rfl (by decide) (Nat.le_of_ble_eq_true rfl) rfl (ev_bitCount (lyg n F (Int.toNat i)) (by have h9 : lyg n F (Int.toNat i) < 2 ^ n := mskN_lt _ _; have := p4096 hn12; omega) (j_up M 0 6 (lkW P n F i))) ?_
    refine J_ireturn dX6_link_24 rfl ?_
    exact ⟨by unfold A_link; rw [if_pos (lkWz h5).1], ks_tr lkW_4 hS, km_up (by decide) km_rf⟩
  ·
    refine J_iconst dX6_link_8 ?_
    refine J_goto (tgt := 24) dX6_link_9 rfl ?_
    refine J_ireturn dX6_link_24 rfl ?_
    exact ⟨by unfold A_link; rw [if_neg (of_decide_eq_true h5)], ks_tr lkW_4 hS, km_up (by decide) km_rf⟩
set_option maxRecDepth 100000 in
set_option maxHeartbeats 4000000 in
theorem ev_X6_linkShellings (P D n : Nat) (F O : Nat → Nat) (tl : Nat) (tb : Nat → Nat) (fa tr wh : Int) (M : jM) (hS : KS P D n F O tl tb fa tr wh M) (i : Int) (hi : -2147483648 ≤ i ∧ i < 2147483648) : Ev 9 mX6_linkShellings [(10, 0), (0, i)] M (fun z M' => z = A_linkShellings P n F i ∧ KS P D n F O tl tb fa (lkW P n F i) 0 M' ∧ KM M M') := by
  refine Ev_of (by decide +kernel) (Nat.le_of_ble_eq_true rfl) (L := [(10, 0), (0, i)]) rfl ?_
  have hR := hS.1
  have hn12 := KR.hn hR
  have hP7 := KR.hP hR
  have hD5 := KR.hD hR
  have h2P : 2 ^ P ≤ 128 := Nat.pow_le_pow_right (n := 2) (by decide) hP7
  have h2p := Nat.two_pow_pos P
  refine J_aload_n dX6_linkShellings_0 rfl ?_
  refine J_iload_n dX6_linkShellings_1 rfl ?_
  refine J_callViQ (cl := mX6_refusesFace) [(0, i)] [] dX6_linkShellings_2 mlX6_257 cvX6_refusesFace rfl rfl rfl rfl rfl (by decide) (Nat.le_of_ble_eq_true rfl) rfl (ev_X6_refusesFace P D n F O M hR i (by omega)) ?_
  refine J_ifb_eq (tgt := 12) dX6_linkShellings_5 rfl (fun h5 => ?_) (fun h5 => ?_)
  ·
    refine J_aload_n dX6_linkShellings_12 rfl ?_
    refine J_callVr (cl := mX6_allOrders) [] [] dX6_linkShellings_13 mlX6_234 cvX6_allOrders rfl rfl rfl rfl rfl (by decide) (Nat.le_of_ble_eq_true rfl) rfl (ev_X6_allOrders P D n F O (j_up M 0 6 (lkW P n F i)) (kr_up (by decide) hR) (oq_ch ch1 (by decide) hS.oq)) (fun z13 Mo hq13 => ?_)
    obtain ⟨y13, o1, o2⟩ := hq13
    obtain rfl : z13 = 16 := by omega
    refine J_getR dX6_linkShellings_16 flX6_264 rfl rfl ?_
    refine J_aload_n dX6_linkShellings_19 rfl ?_
    refine J_getR dX6_linkShellings_20 flX6_19 rfl rfl ?_
    refine J_getR dX6_linkShellings_23 flX6_125 rfl rfl ?_
    refine J_iload_n dX6_linkShellings_26 rfl (J_top (v := (((Int.toNat i) : Nat) : Int)) (by have := lkWz h5; omega) ?_)
    refine J_iald dX6_linkShellings_27 rfl (by decide) (i128 (by have := lkWz h5; omega)) (J_top (v := (((lyg n F (Int.toNat i)) : Nat) : Int)) (KR.gL (kr_ch o2 (by decide) (kr_up (by decide) hR)) (by have := lkWz h5; omega)) ?_)
    refine J_iald dX6_linkShellings_28 rfl (by decide) (ixn hn12 (mskN_lt n _)) (J_top (v := (((won (lkG n F (Int.toNat i)) (lkN n F (Int.toNat i)) 0) : Nat) : Int)) (by rw [← lk_ways hn12]; exact (o1.2 (lyg n F (Int.toNat i)) (mskN_lt n _)).1) ?_)
    refine J_ireturn dX6_linkShellings_29 rfl ?_
    exact ⟨by unfold A_linkShellings; rw [if_pos (lkWz h5).1], ks_or o2 o1 (ks_tr lkW_4 hS), km_tr (km_up (by decide) km_rf) (km_ch o2 (by decide))⟩
  ·
    refine J_iconst dX6_linkShellings_8 ?_
    refine J_goto (tgt := 29) dX6_linkShellings_9 rfl ?_
    refine J_ireturn dX6_linkShellings_29 rfl ?_
    exact ⟨by unfold A_linkShellings; rw [if_neg (of_decide_eq_true h5)], ks_tr lkW_4 hS, km_up (by decide) km_rf⟩
set_option maxRecDepth 100000 in
set_option maxHeartbeats 4000000 in
theorem ev_X6_linkRound (P D n : Nat) (F O : Nat → Nat) (tl : Nat) (tb : Nat → Nat) (fa tr wh : Int) (M : jM) (hS : KS P D n F O tl tb fa tr wh M) (i : Int) (hi : -2147483648 ≤ i ∧ i < 2147483648) (k : Int) (hk : -2147483648 ≤ k ∧ k < 2147483648) : Ev 5 mX6_linkRound [(10, 0), (0, i), (0, k)] M (fun z M' => z = A_linkRound P D n F i k ∧ KS P D n F O tl tb fa (tLR P D n F i k) 0 M' ∧ KM M M') := by
  refine Ev_of (by decide +kernel) (Nat.le_of_ble_eq_true rfl) (L := [(10, 0), (0, i), (0, k)]) rfl ?_
  have hR := hS.1
  have hn12 := KR.hn hR
  have hP7 := KR.hP hR
  have hD5 := KR.hD hR
  have h2P : 2 ^ P ≤ 128 := Nat.pow_le_pow_right (n := 2) (by decide) hP7
  have h2p := Nat.two_pow_pos P
  refine J_aload_n dX6_linkRound_0 rfl ?_
  refine J_iload_n dX6_linkRound_1 rfl ?_
  refine J_callViQ (cl := mX6_refusesFace) [(0, i)] [] dX6_linkRound_2 mlX6_257 cvX6_refusesFace rfl rfl rfl rfl rfl (by decide) (Nat.le_of_ble_eq_true rfl) rfl (ev_X6_refusesFace P D n F O M hR i (by omega)) ?_
  refine J_ifb_ne (tgt := 41) dX6_linkRound_5 rfl (fun h5 => ?_) (fun h5 => ?_)
  ·
    refine J_iconst dX6_linkRound_41 ?_
    refine J_ireturn dX6_linkRound_42 rfl ?_
    have e := of_decide_eq_true h5
    exact ⟨by unfold A_linkRound; rw [if_neg (fun q => e q.1)], by unfold tLR; rw [if_neg e]; exact ks_tr lkW_4 hS, km_up (by decide) km_rf⟩
  ·
    refine J_aload_n dX6_linkRound_8 rfl ?_
    refine J_iload_n dX6_linkRound_9 rfl ?_
    refine J_if_lt (tgt := 29) dX6_linkRound_10 rfl (by omega) (fun h10 => ?_) (fun h10 => ?_)
    ·
      refine J_iconst dX6_linkRound_29 ?_
      refine J_goto (tgt := 34) dX6_linkRound_30 rfl ?_
      refine J_iconst dX6_linkRound_34 ?_
      refine J_callViQ (cl := mX6_refused) [(0, ((Bool.toNat (true) : Nat) : Int)), (0, 2)] [] dX6_linkRound_35 mlX6_66 cvX6_refused rfl rfl rfl rfl rfl (by decide) (Nat.le_of_ble_eq_true rfl) rfl (ev_X6_refusedT 2 (j_up M 0 6 (lkW P n F i))) ?_
      refine J_ifb_eq (tgt := 43) dX6_linkRound_38 rfl (fun h38 => ?_) (fun h38 => ?_)
      · exact absurd h38 (by decide)
      ·
        refine J_iconst dX6_linkRound_41 ?_
        refine J_ireturn dX6_linkRound_42 rfl ?_
        obtain ⟨g0, g1, g2, g3, g4⟩ := lkWz h5
        have e : bR D i k = false := decide_eq_false (by omega)
        exact ⟨by unfold A_linkRound; rw [if_neg (fun q => by rw [e] at q; exact absurd q.2 (by decide))], by unfold tLR; rw [if_pos g0, if_neg (by rw [e]; decide), j_up2]; exact ks_tr (by decide) hS, km_up (by decide) (km_up (by decide) km_rf)⟩
    ·
      refine J_iload_n dX6_linkRound_13 rfl ?_
      refine J_aload_n dX6_linkRound_14 rfl ?_
      refine J_getR dX6_linkRound_15 flX6_19 rfl rfl ?_
      refine J_getI dX6_linkRound_18 flX6_99 rfl rfl (J_top (v := ((D : Nat) : Int)) (KR.gD (kr_up (by decide) hR)) ?_)
      refine J_iload_n dX6_linkRound_21 rfl (J_top (v := (((Int.toNat i) : Nat) : Int)) (by have := lkWz h5; omega) ?_)
      refine J_callSiQ (cl := mJ6_bitCount_0f7a4) [(0, (((Int.toNat i) : Nat) : Int))] [(0, ((D : Nat) : Int)), (0, k), (10, 0)] dX6_linkRound_22 mlX6_207 csJ6_bitCount_0f7a4 rfl rfl (by decide) (Nat.le_of_ble_eq_true rfl) rfl (ev_bitCount (Int.toNat i) (by have := lkWz h5; omega) (j_up M 0 6 (lkW P n F i))) ?_
      refine J_isub dX6_linkRound_25 (J_top (v := (((D - popc (Int.toNat i)) : Nat) : Int)) (by have := ly_pop hR.wf (lkWz h5).2.2.2.2; omega) ?_)
      refine J_icmp_le (tgt := 33) dX6_linkRound_26 rfl (by omega) (j_R (by omega)) (fun h26 => ?_) (fun h26 => ?_)
      ·
        refine J_iconst dX6_linkRound_33 ?_
        refine J_iconst dX6_linkRound_34 ?_
        refine J_callViQ (cl := mX6_refused) [(0, ((Bool.toNat (false) : Nat) : Int)), (0, 2)] [] dX6_linkRound_35 mlX6_66 cvX6_refused rfl rfl rfl rfl rfl (by decide) (Nat.le_of_ble_eq_true rfl) rfl (ev_X6_refusedF 2 (j_up M 0 6 (lkW P n F i))) ?_
        refine J_ifb_eq (tgt := 43) dX6_linkRound_38 rfl (fun h38 => ?_) (fun h38 => ?_)
        ·
          obtain ⟨g0, g1, g2, g3, g4⟩ := lkWz h5
          have gp := ly_pop hR.wf g4
          have e9 : bR D i k = true := decide_eq_true (by omega)
          refine J_aload_n dX6_linkRound_43 rfl ?_
          refine J_getR dX6_linkRound_44 flX6_33 rfl rfl ?_
          refine J_aload_n dX6_linkRound_47 rfl ?_
          refine J_getR dX6_linkRound_48 flX6_19 rfl rfl ?_
          refine J_iload_n dX6_linkRound_51 rfl (J_top (v := (((Int.toNat i) : Nat) : Int)) (by have := lkWz h5; omega) ?_)
          refine J_callVv (cl := mX1_takeLink) [(14, 0), (0, (((Int.toNat i) : Nat) : Int))] [] dX6_linkRound_52 mlX6_260 cvX1_takeLink rfl rfl rfl rfl rfl (by decide) (Nat.le_of_ble_eq_true rfl) rfl (ev_X1_takeLink P D n F O (j_up (j_up M 0 6 (lkW P n F i)) 0 6 0) (kr_up (by decide) (kr_up (by decide) hR)) (Int.toNat i) (by omega)) (fun Ma hq52 => ?_)
          obtain ⟨a1, a2⟩ := hq52
          refine J_aload_n dX6_linkRound_55 rfl ?_
          refine J_getR dX6_linkRound_56 flX6_33 rfl rfl ?_
          refine J_iload_n dX6_linkRound_59 rfl (J_top (v := (((Int.toNat k) : Nat) : Int)) (by omega) ?_)
          refine J_callVi (cl := mX1_roundOf) [(0, (((Int.toNat k) : Nat) : Int))] [] dX6_linkRound_60 mlX6_156 cvX1_roundOf rfl rfl rfl rfl rfl (by decide) (Nat.le_of_ble_eq_true rfl) rfl (ev_X1_roundOf (2 ^ P - 1) (lkF n F (Int.toNat i)) (Int.toNat k) (by omega) Ma (hg_link (kr_up (by decide) (kr_up (by decide) hR)) (cc_ch ch1 (by decide) (cc_ch ch1 (by decide) hS.cc)) a1 a2)) (fun z60 Mb hq60 => ?_)
          obtain ⟨rfl, b1, b2⟩ := hq60
          refine J_ireturn dX6_linkRound_63 rfl ?_
          exact ⟨by unfold A_linkRound; rw [if_pos ⟨g0, e9⟩], by unfold tLR; rw [if_pos g0, if_pos e9]; exact ks_hv b1 (by decide) (ks_hv a1 (by decide) (by rw [j_up2]; exact ks_tr (by decide) hS)), km_tr (km_tr (km_up (by decide) (km_up (by decide) km_rf)) (km_ch a1 (by decide))) (km_ch b1 (by decide))⟩
        · exact absurd h38 (by decide)
      ·
        refine J_iconst dX6_linkRound_29 ?_
        refine J_goto (tgt := 34) dX6_linkRound_30 rfl ?_
        refine J_iconst dX6_linkRound_34 ?_
        refine J_callViQ (cl := mX6_refused) [(0, ((Bool.toNat (true) : Nat) : Int)), (0, 2)] [] dX6_linkRound_35 mlX6_66 cvX6_refused rfl rfl rfl rfl rfl (by decide) (Nat.le_of_ble_eq_true rfl) rfl (ev_X6_refusedT 2 (j_up M 0 6 (lkW P n F i))) ?_
        refine J_ifb_eq (tgt := 43) dX6_linkRound_38 rfl (fun h38 => ?_) (fun h38 => ?_)
        · exact absurd h38 (by decide)
        ·
          refine J_iconst dX6_linkRound_41 ?_
          refine J_ireturn dX6_linkRound_42 rfl ?_
          obtain ⟨g0, g1, g2, g3, g4⟩ := lkWz h5
          have e : bR D i k = false := decide_eq_false (by omega)
          exact ⟨by unfold A_linkRound; rw [if_neg (fun q => by rw [e] at q; exact absurd q.2 (by decide))], by unfold tLR; rw [if_pos g0, if_neg (by rw [e]; decide), j_up2]; exact ks_tr (by decide) hS, km_up (by decide) (km_up (by decide) km_rf)⟩
set_option maxRecDepth 100000 in
set_option maxHeartbeats 4000000 in
theorem ev_X6_even_L11 (P D n : Nat) (F O : Nat → Nat) (tl : Nat) (tb : Nat → Nat) (fa tr wh : Int) (M : jM) (hS : KS P D n F O tl tb fa tr wh M) (h4 : bT n = true) : ∀ (fu : Nat) (M1 : jM) (s : Nat) (f0 : Ch [11, 13, 14, 15] (j_up M 0 6 (u1 (bT n))) M1) (f1 : allN s (fun s => decide (lyg n F s = 0) || evB D n F s) = true) (f2 : s ≤ 2 ^ P) (hfu : 2 ^ P - s < fu), J none 5 mX6_even 11 [(10, 0), (0, ((s : Nat) : Int))] [] M1 (j_ret mX6_even (fun z M' => z = A_even P D n F ∧ KS P D n F O tl tb fa (u1 (bT n)) 0 M' ∧ KM M M')) := by
  intro fu
  induction fu with
  | zero => intro M1 s f0 f1 f2 hfu; exact absurd hfu (Nat.not_lt_zero _)
  | succ fu ih =>
    intro M1 s f0 f1 f2 hfu
    have hR := hS.1
    have hn12 := KR.hn hR
    have hP7 := KR.hP hR
    have hD5 := KR.hD hR
    have h2P : 2 ^ P ≤ 128 := Nat.pow_le_pow_right (n := 2) (by decide) hP7
    have h2p := Nat.two_pow_pos P
    refine J_iload_n dX6_even_11 rfl ?_
    refine J_aload_n dX6_even_12 rfl ?_
    refine J_getR dX6_even_13 flX6_19 rfl rfl ?_
    refine J_callViQ (cl := mX0_everyPoint) [] [(0, ((s : Nat) : Int))] dX6_even_16 mlX6_159 cvX0_everyPoint rfl rfl rfl rfl rfl (by decide) (Nat.le_of_ble_eq_true rfl) rfl (ev_X0_everyPoint P D n F O M1 (kr_ch f0 (by decide) (kr_up (by decide) hR)) ) ?_
    refine J_icmp_gt (tgt := 56) dX6_even_19 rfl (j_R (by omega)) (j_R (kp31 (kr_ch f0 (by decide) (kr_up (by decide) hR)))) (fun h19 => ?_) (fun h19 => ?_)
    ·
      refine J_iconst dX6_even_56 ?_
      refine J_ireturn dX6_even_57 rfl ?_
      have e : s = 2 ^ P := by omega
      subst e
      exact ⟨by unfold A_even; rw [if_pos h4, f1]; rfl, ks_hv f0 (by decide) (ks_tr u1_4 hS), km_tr (km_up (by decide) km_rf) (km_ch f0 (by decide))⟩
    ·
      refine J_aload_n dX6_even_22 rfl ?_
      refine J_getR dX6_even_23 flX6_19 rfl rfl ?_
      refine J_iload_n dX6_even_26 rfl ?_
      refine J_callViQ (cl := mX0_isFace) [(0, ((s : Nat) : Int))] [] dX6_even_27 mlX6_216 cvX0_isFace rfl rfl rfl rfl rfl (by decide) (Nat.le_of_ble_eq_true rfl) rfl (ev_X0_isFace P D n F O M1 (kr_ch f0 (by decide) (kr_up (by decide) hR)) s (by omega)) ?_
      refine J_ifb_eq (tgt := 50) dX6_even_30 rfl (fun h30 => ?_) (fun h30 => ?_)
      ·
        refine J_iinc (v := (((s + 1) : Nat) : Int)) (L' := [(10, 0), (0, (((s + 1) : Nat) : Int))]) dX6_even_50 rfl (by omega) (by decide) rfl rfl ?_
        refine J_goto (tgt := 11) dX6_even_53 rfl ?_
        exact ih _ _ (by exact f0) (by have e5 := lyg_isF n F s; rw [h30] at e5; rw [allN_t (by rw [decide_eq_true (Decidable.not_not.mp (of_decide_eq_false e5.symm))]; rfl), f1]) (by omega) (by omega)
      ·
        refine J_aload_n dX6_even_33 rfl ?_
        refine J_getR dX6_even_34 flX6_33 rfl rfl ?_
        refine J_aload_n dX6_even_37 rfl ?_
        refine J_getR dX6_even_38 flX6_19 rfl rfl ?_
        refine J_iload_n dX6_even_41 rfl ?_
        refine J_callVi (cl := mX1_isFlatLink) [(14, 0), (0, ((s : Nat) : Int))] [] dX6_even_42 mlX6_267 cvX1_isFlatLink rfl rfl rfl rfl rfl (by decide) (Nat.le_of_ble_eq_true rfl) rfl (ev_X1_isFlatLink P D n F O M1 (kr_ch f0 (by decide) (kr_up (by decide) hR)) (cc_ch f0 (by decide) (cc_ch ch1 (by decide) hS.cc)) s (by omega) (isF_pop hR.wf h30)) (fun z42 Mb hq42 => ?_)
        obtain ⟨rfl, b1⟩ := hq42
        refine J_ifb_ne (tgt := 50) dX6_even_45 rfl (fun h45 => ?_) (fun h45 => ?_)
        ·
          refine J_iinc (v := (((s + 1) : Nat) : Int)) (L' := [(10, 0), (0, (((s + 1) : Nat) : Int))]) dX6_even_50 rfl (by omega) (by decide) rfl rfl ?_
          refine J_goto (tgt := 11) dX6_even_53 rfl ?_
          exact ih _ _ (by exact Ch_tr f0 b1) (by rw [allN_t (by rw [h45, Bool.or_true]), f1]) (by omega) (by omega)
        ·
          refine J_iconst dX6_even_48 ?_
          refine J_ireturn dX6_even_49 rfl ?_
          have e5 := lyg_isF n F s
          rw [h30] at e5
          exact ⟨by unfold A_even; rw [if_pos h4, allN_no (k := s) (by rw [h45, decide_eq_false (of_decide_eq_true e5.symm)]; rfl) (by omega)]; rfl, ks_hv (Ch_tr f0 b1) (by decide) (ks_tr u1_4 hS), km_tr (km_up (by decide) km_rf) (km_ch (Ch_tr f0 b1) (by decide))⟩
set_option maxRecDepth 100000 in
set_option maxHeartbeats 4000000 in
theorem ev_X6_even (P D n : Nat) (F O : Nat → Nat) (tl : Nat) (tb : Nat → Nat) (fa tr wh : Int) (M : jM) (hS : KS P D n F O tl tb fa tr wh M) : Ev 5 mX6_even [(10, 0)] M (fun z M' => z = A_even P D n F ∧ KS P D n F O tl tb fa (u1 (bT n)) 0 M' ∧ KM M M') := by
  refine Ev_of (by decide +kernel) (Nat.le_of_ble_eq_true rfl) (L := [(10, 0), (9, 0)]) rfl ?_
  have hR := hS.1
  have hn12 := KR.hn hR
  have hP7 := KR.hP hR
  have hD5 := KR.hD hR
  have h2P : 2 ^ P ≤ 128 := Nat.pow_le_pow_right (n := 2) (by decide) hP7
  have h2p := Nat.two_pow_pos P
  refine J_aload_n dX6_even_0 rfl ?_
  refine J_callViQ (cl := mX6_refusesEmpty) [] [] dX6_even_1 mlX6_146 cvX6_refusesEmpty rfl rfl rfl rfl rfl (by decide) (Nat.le_of_ble_eq_true rfl) rfl (ev_X6_refusesEmpty P D n F O M hR) ?_
  refine J_ifn_eq (b := bT n) (tgt := 9) dX6_even_4 rfl (fun h4 => ?_) (fun h4 => ?_)
  ·
    refine J_iconst dX6_even_9 ?_
    refine J_istore_n (L' := [(10, 0), (0, 0)]) dX6_even_10 (by decide) rfl rfl ?_
    refine J_eq (L' := [(10, 0), (0, ((0 : Nat) : Int))]) rfl rfl rfl ?_
    exact ev_X6_even_L11 P D n F O tl tb fa tr wh M hS h4 _ _ _ (by exact Ch_rf) (by rfl) (by omega) (Nat.lt_succ_self _)
  ·
    refine J_iconst dX6_even_7 ?_
    refine J_ireturn dX6_even_8 rfl ?_
    exact ⟨by unfold A_even; rw [h4]; rfl, ks_tr u1_4 hS, km_up (by decide) km_rf⟩
set_option maxRecDepth 100000 in
set_option maxHeartbeats 4000000 in
theorem ev_X6_fallsApart (P D n : Nat) (F O : Nat → Nat) (tl : Nat) (tb : Nat → Nat) (fa tr wh : Int) (M : jM) (hS : KS P D n F O tl tb fa tr wh M) : Ev 28 mX6_fallsApart [(10, 0)] M (fun z M' => z = A_fallsApart P n F ∧ KS P D n F O tl tb fa (u1 (bT n)) 0 M' ∧ KM M M') := by
  refine Ev_of (by decide +kernel) (Nat.le_of_ble_eq_true rfl) (L := [(10, 0)]) rfl ?_
  have hR := hS.1
  have hn12 := KR.hn hR
  have hP7 := KR.hP hR
  have hD5 := KR.hD hR
  have h2P : 2 ^ P ≤ 128 := Nat.pow_le_pow_right (n := 2) (by decide) hP7
  have h2p := Nat.two_pow_pos P
  have h2n := Nat.two_pow_pos n
  have hpa := popc_all n
  refine J_aload_n dX6_fallsApart_0 rfl ?_
  refine J_callViQ (cl := mX6_refusesEmpty) [] [] dX6_fallsApart_1 mlX6_146 cvX6_refusesEmpty rfl rfl rfl rfl rfl (by decide) (Nat.le_of_ble_eq_true rfl) rfl (ev_X6_refusesEmpty P D n F O M hR) ?_
  refine J_ifn_eq (b := bT n) (tgt := 9) dX6_fallsApart_4 rfl (fun h4 => ?_) (fun h4 => ?_)
  ·
    have hn0 := bT_n h4
    refine J_aload_n dX6_fallsApart_9 rfl ?_
    refine J_callVr (cl := mX6_allSheddings) [] [] dX6_fallsApart_10 mlX6_273 cvX6_allSheddings rfl rfl rfl rfl rfl (by decide) (Nat.le_of_ble_eq_true rfl) rfl (ev_X6_allSheddings P D n F O (j_up M 0 6 (u1 (bT n))) (kr_up (by decide) hR) (sq_ch ch1 (by decide) hS.sq)) (fun z10 Mo hq10 => ?_)
    obtain ⟨y10, o1, o2⟩ := hq10
    obtain rfl : z10 = 20 := by omega
    refine J_aload_n dX6_fallsApart_13 rfl ?_
    refine J_getR dX6_fallsApart_14 flX6_19 rfl rfl ?_
    refine J_aload_n dX6_fallsApart_17 rfl ?_
    refine J_getR dX6_fallsApart_18 flX6_19 rfl rfl ?_
    refine J_callViQ (cl := mX0_everyFacet) [] [(14, 0), (30, 0)] dX6_fallsApart_21 mlX6_195 cvX0_everyFacet rfl rfl rfl rfl rfl (by decide) (Nat.le_of_ble_eq_true rfl) rfl (ev_X0_everyFacet n (KR.hn (kr_ch o2 (by decide) (kr_up (by decide) hR))) Mo (KR.gn (kr_ch o2 (by decide) (kr_up (by decide) hR)))) ?_
    refine J_iconst dX6_fallsApart_24 ?_
    refine J_callVNi (host := "ShellPeel") (cl := mX4_falls) [(14, 0), (0, (((2 ^ n - 1) : Nat) : Int)), (0, 0)] [] dX6_fallsApart_25 nst0 cvX4_falls rfl rfl rfl rfl rfl (by decide) (Nat.le_of_ble_eq_true rfl) rfl (ev_X4_falls P D n F O 12 Mo (2 ^ n - 1) 0 (kr_ch o2 (by decide) (kr_up (by decide) hR)) (by omega) (Nat.zero_le _) (by omega) (by omega) (mi_dn o1.2 (by omega))) (fun z25 Mb hq25 => ?_)
    obtain ⟨rfl, b1, b2, b3⟩ := hq25
    refine J_ifb_eq (tgt := 35) dX6_fallsApart_28 rfl (fun h28 => ?_) (fun h28 => ?_)
    ·
      refine J_iconst dX6_fallsApart_35 ?_
      refine J_ireturn dX6_fallsApart_36 rfl ?_
      rw [hpa] at b1
      exact ⟨by unfold A_fallsApart; rw [if_pos h4, fa_eq, h28]; rfl, ks_sh (Ch_tr o2 (Ch_mo b3 (by decide))) (sh_top o1 b3 b1) (ks_tr u1_4 hS), km_tr (km_up (by decide) km_rf) (km_tr (km_ch o2 (by decide)) (km_ch b3 (by decide)))⟩
    ·
      refine J_iconst dX6_fallsApart_31 ?_
      refine J_goto (tgt := 36) dX6_fallsApart_32 rfl ?_
      refine J_ireturn dX6_fallsApart_36 rfl ?_
      rw [hpa] at b1
      exact ⟨by unfold A_fallsApart; rw [if_pos h4, fa_eq, h28]; rfl, ks_sh (Ch_tr o2 (Ch_mo b3 (by decide))) (sh_top o1 b3 b1) (ks_tr u1_4 hS), km_tr (km_up (by decide) km_rf) (km_tr (km_ch o2 (by decide)) (km_ch b3 (by decide)))⟩
  ·
    refine J_iconst dX6_fallsApart_7 ?_
    refine J_ireturn dX6_fallsApart_8 rfl ?_
    exact ⟨by unfold A_fallsApart; rw [h4]; rfl, ks_tr u1_4 hS, km_up (by decide) km_rf⟩
set_option maxRecDepth 100000 in
set_option maxHeartbeats 4000000 in
theorem ev_X6_first (P D n : Nat) (F O : Nat → Nat) (tl : Nat) (tb : Nat → Nat) (fa tr wh : Int) (M : jM) (hS : KS P D n F O tl tb fa tr wh M) : Ev 29 mX6_first [(10, 0)] M (fun z M' => z = A_first P n F ∧ KS P D n F O tl tb fa (u1 (bT n)) 0 M' ∧ KM M M') := by
  refine Ev_of (by decide +kernel) (Nat.le_of_ble_eq_true rfl) (L := [(10, 0)]) rfl ?_
  have hR := hS.1
  have hn12 := KR.hn hR
  have hP7 := KR.hP hR
  have hD5 := KR.hD hR
  have h2P : 2 ^ P ≤ 128 := Nat.pow_le_pow_right (n := 2) (by decide) hP7
  have h2p := Nat.two_pow_pos P
  have h2n := Nat.two_pow_pos n
  have hpa := popc_all n
  refine J_aload_n dX6_first_0 rfl ?_
  refine J_callViQ (cl := mX6_refusesEmpty) [] [] dX6_first_1 mlX6_146 cvX6_refusesEmpty rfl rfl rfl rfl rfl (by decide) (Nat.le_of_ble_eq_true rfl) rfl (ev_X6_refusesEmpty P D n F O M hR) ?_
  refine J_ifn_eq (b := bT n) (tgt := 9) dX6_first_4 rfl (fun h4 => ?_) (fun h4 => ?_)
  ·
    have hn0 := bT_n h4
    refine J_aload_n dX6_first_9 rfl ?_
    refine J_callVr (cl := mX6_allSheddings) [] [] dX6_first_10 mlX6_273 cvX6_allSheddings rfl rfl rfl rfl rfl (by decide) (Nat.le_of_ble_eq_true rfl) rfl (ev_X6_allSheddings P D n F O (j_up M 0 6 (u1 (bT n))) (kr_up (by decide) hR) (sq_ch ch1 (by decide) hS.sq)) (fun z10 Mo hq10 => ?_)
    obtain ⟨y10, o1, o2⟩ := hq10
    obtain rfl : z10 = 20 := by omega
    refine J_aload_n dX6_first_13 rfl ?_
    refine J_getR dX6_first_14 flX6_19 rfl rfl ?_
    refine J_aload_n dX6_first_17 rfl ?_
    refine J_getR dX6_first_18 flX6_19 rfl rfl ?_
    refine J_callViQ (cl := mX0_everyFacet) [] [(14, 0), (30, 0)] dX6_first_21 mlX6_195 cvX0_everyFacet rfl rfl rfl rfl rfl (by decide) (Nat.le_of_ble_eq_true rfl) rfl (ev_X0_everyFacet n (KR.hn (kr_ch o2 (by decide) (kr_up (by decide) hR))) Mo (KR.gn (kr_ch o2 (by decide) (kr_up (by decide) hR)))) ?_
    refine J_iconst dX6_first_24 ?_
    refine J_callVNi (host := "ShellPeel") (cl := mX4_leastPoint) [(14, 0), (0, (((2 ^ n - 1) : Nat) : Int)), (0, 0)] [] dX6_first_25 nst1 cvX4_leastPoint rfl rfl rfl rfl rfl (by decide) (Nat.le_of_ble_eq_true rfl) rfl (ev_X4_leastPoint P D n F O Mo (kr_ch o2 (by decide) (kr_up (by decide) hR)) 12 (2 ^ n - 1) 0 (by omega) (Nat.zero_le _) (by omega) (by omega) (mi_dn o1.2 (by omega)) (ev_X4_falls P D n F O 12)) (fun z25 Mb hq25 => ?_)
    obtain ⟨rfl, b1, b2, b3⟩ := hq25
    refine J_ireturn dX6_first_28 rfl ?_
    rw [hpa] at b1 b2
    exact ⟨by unfold A_first; rw [if_pos h4]; exact fstN_congr (fun p _ => (fs_eq hn12 p).symm), ks_sh (Ch_tr o2 (Ch_mo b3 (by decide))) (sh_top1 o1 b3 b1 b2) (ks_tr u1_4 hS), km_tr (km_up (by decide) km_rf) (km_tr (km_ch o2 (by decide)) (km_ch b3 (by decide)))⟩
  ·
    refine J_iconst dX6_first_7 ?_
    refine J_ireturn dX6_first_8 rfl ?_
    exact ⟨by unfold A_first; rw [h4]; rfl, ks_tr u1_4 hS, km_up (by decide) km_rf⟩
set_option maxRecDepth 100000 in
set_option maxHeartbeats 4000000 in
theorem ev_X6_leap (P D n : Nat) (F O : Nat → Nat) (tl : Nat) (tb : Nat → Nat) (fa tr wh : Int) (M : jM) (hS : KS P D n F O tl tb fa tr wh M) (i : Int) (hi : -2147483648 ≤ i ∧ i < 2147483648) (k : Int) (hk : -2147483648 ≤ k ∧ k < 2147483648) : Ev 3 mX6_leap [(10, 0), (0, i), (0, k)] M (fun z M' => z = A_leap P n F O i k ∧ KS P D n F O tl tb fa (u1 (bL P n F O i k)) 0 M' ∧ KM M M') := by
  refine Ev_of (by decide +kernel) (Nat.le_of_ble_eq_true rfl) (L := [(10, 0), (0, i), (0, k), (9, 0)]) rfl ?_
  have hR := hS.1
  have hn12 := KR.hn hR
  have hP7 := KR.hP hR
  have hD5 := KR.hD hR
  have h2P : 2 ^ P ≤ 128 := Nat.pow_le_pow_right (n := 2) (by decide) hP7
  have h2p := Nat.two_pow_pos P
  refine J_aload_n dX6_leap_0 rfl ?_
  refine J_getR dX6_leap_1 flX6_26 rfl rfl ?_
  refine J_aload_n dX6_leap_4 rfl ?_
  refine J_getR dX6_leap_5 flX6_19 rfl rfl ?_
  refine J_iload_n dX6_leap_8 rfl ?_
  refine J_callViQ (cl := mX3_isPlace) [(14, 0), (0, i)] [] dX6_leap_9 mlX6_225 cvX3_isPlace rfl rfl rfl rfl rfl (by decide) (Nat.le_of_ble_eq_true rfl) rfl (ev_X3_isPlace P D n F O M hR i (by omega)) ?_
  refine J_ifb_eq (tgt := 31) dX6_leap_12 rfl (fun h12 => ?_) (fun h12 => ?_)
  ·
    refine J_iconst dX6_leap_31 ?_
    refine J_istore_n (L' := [(10, 0), (0, i), (0, k), (0, (-1))]) dX6_leap_32 (by decide) rfl rfl ?_
    refine J_aload_n dX6_leap_33 rfl ?_
    refine J_iload_n dX6_leap_34 rfl ?_
    refine J_if_ge (tgt := 42) dX6_leap_35 rfl (by decide) (fun h35 => ?_) (fun h35 => ?_)
    · exact absurd h35 (by decide)
    ·
      refine J_iconst dX6_leap_38 ?_
      refine J_goto (tgt := 43) dX6_leap_39 rfl ?_
      refine J_iconst dX6_leap_43 ?_
      refine J_callViQ (cl := mX6_refused) [(0, ((Bool.toNat (true) : Nat) : Int)), (0, 1)] [] dX6_leap_44 mlX6_66 cvX6_refused rfl rfl rfl rfl rfl (by decide) (Nat.le_of_ble_eq_true rfl) rfl (ev_X6_refusedT 1 M) ?_
      refine J_ifb_eq (tgt := 54) dX6_leap_47 rfl (fun h47 => ?_) (fun h47 => ?_)
      · exact absurd h47 (by decide)
      ·
        refine J_iconst dX6_leap_50 ?_
        refine J_goto (tgt := 55) dX6_leap_51 rfl ?_
        refine J_ireturn dX6_leap_55 rfl ?_
        have e : bL P n F O i k = false := by unfold bL; rw [h12]; rfl
        exact ⟨by unfold A_leap; rw [if_neg (by rw [e]; decide)], by rw [u1_f e]; exact ks_tr (by decide) hS, km_up (by decide) km_rf⟩
  ·
    refine J_aload_n dX6_leap_15 rfl ?_
    refine J_getR dX6_leap_16 flX6_26 rfl rfl ?_
    refine J_aload_n dX6_leap_19 rfl ?_
    refine J_getR dX6_leap_20 flX6_19 rfl rfl ?_
    refine J_iload_n dX6_leap_23 rfl (J_top (v := (((Int.toNat i) : Nat) : Int)) (by have := bI_n h12; omega) ?_)
    refine J_iload_n dX6_leap_24 rfl ?_
    refine J_callViQ (cl := mX3_nthLeap) [(14, 0), (0, (((Int.toNat i) : Nat) : Int)), (0, k)] [] dX6_leap_25 mlX6_228 cvX3_nthLeap rfl rfl rfl rfl rfl (by decide) (Nat.le_of_ble_eq_true rfl) rfl (ev_X3_nthLeap P D n F O M hR (Int.toNat i) (by have := bI_n h12; omega) k (by omega)) ?_
    refine J_goto (tgt := 32) dX6_leap_28 rfl ?_
    refine J_istore_n (L' := [(10, 0), (0, i), (0, k), (0, (nthN (2 ^ P) (llB F O (Int.toNat i)) k))]) dX6_leap_32 (by decide) rfl rfl ?_
    refine J_aload_n dX6_leap_33 rfl ?_
    refine J_iload_n dX6_leap_34 rfl ?_
    refine J_if_ge (tgt := 42) dX6_leap_35 rfl (nthP hR _ _) (fun h35 => ?_) (fun h35 => ?_)
    ·
      refine J_iconst dX6_leap_42 ?_
      refine J_iconst dX6_leap_43 ?_
      refine J_callViQ (cl := mX6_refused) [(0, ((Bool.toNat (false) : Nat) : Int)), (0, 1)] [] dX6_leap_44 mlX6_66 cvX6_refused rfl rfl rfl rfl rfl (by decide) (Nat.le_of_ble_eq_true rfl) rfl (ev_X6_refusedF 1 M) ?_
      refine J_ifb_eq (tgt := 54) dX6_leap_47 rfl (fun h47 => ?_) (fun h47 => ?_)
      ·
        refine J_iload_n dX6_leap_54 rfl ?_
        refine J_ireturn dX6_leap_55 rfl ?_
        have e : bL P n F O i k = true := by rw [lp_b h12]; exact decide_eq_true h35
        exact ⟨by unfold A_leap; rw [if_pos e], by rw [u1_t e]; exact ks_tr (by decide) hS, km_up (by decide) km_rf⟩
      · exact absurd h47 (by decide)
    ·
      refine J_iconst dX6_leap_38 ?_
      refine J_goto (tgt := 43) dX6_leap_39 rfl ?_
      refine J_iconst dX6_leap_43 ?_
      refine J_callViQ (cl := mX6_refused) [(0, ((Bool.toNat (true) : Nat) : Int)), (0, 1)] [] dX6_leap_44 mlX6_66 cvX6_refused rfl rfl rfl rfl rfl (by decide) (Nat.le_of_ble_eq_true rfl) rfl (ev_X6_refusedT 1 M) ?_
      refine J_ifb_eq (tgt := 54) dX6_leap_47 rfl (fun h47 => ?_) (fun h47 => ?_)
      · exact absurd h47 (by decide)
      ·
        refine J_iconst dX6_leap_50 ?_
        refine J_goto (tgt := 55) dX6_leap_51 rfl ?_
        refine J_ireturn dX6_leap_55 rfl ?_
        have e : bL P n F O i k = false := by rw [lp_b h12]; exact decide_eq_false (by omega)
        exact ⟨by unfold A_leap; rw [if_neg (by rw [e]; decide)], by rw [u1_f e]; exact ks_tr (by decide) hS, km_up (by decide) km_rf⟩
set_option maxRecDepth 100000 in
set_option maxHeartbeats 4000000 in
theorem ev_X6_swaps_L13 (P D n : Nat) (F O : Nat → Nat) (tl : Nat) (tb : Nat → Nat) (fa tr wh : Int) (M : jM) (hS : KS P D n F O tl tb fa tr wh M) (h4 : bT n = true) : ∀ (fu : Nat) (M1 : jM) (x k : Nat) (f0 : Ch [10] (j_up M 0 6 (u1 (bT n))) M1) (f1 : KR P D n F O M1) (f2 : x = mskN k (fun k => decide (gdN n F (swp O k) = (n : Int)))) (f3 : k ≤ n - 1) (hfu : n - k < fu), J none 4 mX6_swaps 13 [(10, 0), (0, ((x : Nat) : Int)), (0, ((k : Nat) : Int))] [] M1 (j_ret mX6_swaps (fun z M' => z = A_swaps n F O ∧ KS P D n F O tl tb fa (u1 (bT n)) 0 M' ∧ KM M M')) := by
  intro fu
  induction fu with
  | zero => intro M1 x k f0 f1 f2 f3 hfu; exact absurd hfu (Nat.not_lt_zero _)
  | succ fu ih =>
    intro M1 x k f0 f1 f2 f3 hfu
    have hR := hS.1
    have hn12 := KR.hn hR
    have hP7 := KR.hP hR
    have hD5 := KR.hD hR
    have h2P : 2 ^ P ≤ 128 := Nat.pow_le_pow_right (n := 2) (by decide) hP7
    have h2p := Nat.two_pow_pos P
    have hn0 := bT_n h4
    refine J_iload_n dX6_swaps_13 rfl ?_
    refine J_iconst dX6_swaps_14 ?_
    refine J_iadd dX6_swaps_15 (J_top (v := (((k + 1) : Nat) : Int)) (by omega) ?_)
    refine J_aload_n dX6_swaps_16 rfl ?_
    refine J_getR dX6_swaps_17 flX6_19 rfl rfl ?_
    refine J_getI dX6_swaps_20 flX6_84 rfl rfl (J_top (v := ((n : Nat) : Int)) (KR.gn f1) ?_)
    refine J_icmp_ge (tgt := 75) dX6_swaps_23 rfl (j_R (by omega)) (j_R (by omega)) (fun h23 => ?_) (fun h23 => ?_)
    ·
      refine J_iload_n dX6_swaps_75 rfl ?_
      refine J_ireturn dX6_swaps_76 rfl ?_
      have e : k = n - 1 := by omega
      have hK := ks_tr (u1_4 (b := bT n)) hS
      refine ⟨by unfold A_swaps; rw [if_pos h4, f2, e], ?_, km_tr (km_up (by decide) km_rf) (km_ch f0 (by decide))⟩
      obtain ⟨h1, h2, h3, h8, h9, h10⟩ := hK
      refine ⟨f1, by rw [f0 0 (by decide)]; exact h2, ?_, cc_ch f0 (by decide) h8, oq_ch f0 (by decide) h9, sq_ch f0 (by decide) h10⟩
      rw [f0 1 (by decide), f0 2 (by decide)]
      exact h3
    ·
      refine J_aload_n dX6_swaps_26 rfl ?_
      refine J_getR dX6_swaps_27 flX6_26 rfl rfl ?_
      refine J_iload_n dX6_swaps_30 rfl ?_
      refine J_callVv (cl := mX3_exchange) [(0, ((k : Nat) : Int))] [] dX6_swaps_31 mlX6_219 cvX3_exchange rfl rfl rfl rfl rfl (by decide) (Nat.le_of_ble_eq_true rfl) rfl (ev_X3_exchange P D n F O M1 f1 k (by omega)) (fun Ma hq31 => ?_)
      obtain ⟨a1, a2⟩ := hq31
      refine J_aload_n dX6_swaps_34 rfl ?_
      refine J_getR dX6_swaps_35 flX6_26 rfl rfl ?_
      refine J_aload_n dX6_swaps_38 rfl ?_
      refine J_getR dX6_swaps_39 flX6_19 rfl rfl ?_
      refine J_callViQ (cl := mX3_goodStart) [(14, 0)] [] dX6_swaps_42 mlX6_185 cvX3_goodStart rfl rfl rfl rfl rfl (by decide) (Nat.le_of_ble_eq_true rfl) rfl (ev_X3_goodStart P D n F (swp O k) Ma a1) ?_
      refine J_aload_n dX6_swaps_45 rfl ?_
      refine J_getR dX6_swaps_46 flX6_19 rfl rfl ?_
      refine J_getI dX6_swaps_49 flX6_84 rfl rfl (J_top (v := ((n : Nat) : Int)) (KR.gn a1) ?_)
      refine J_icmp_ne (tgt := 61) dX6_swaps_52 rfl (gdK a1) (j_R (by omega)) (fun h52 => ?_) (fun h52 => ?_)
      ·
        refine J_aload_n dX6_swaps_61 rfl ?_
        refine J_getR dX6_swaps_62 flX6_26 rfl rfl ?_
        refine J_iload_n dX6_swaps_65 rfl ?_
        refine J_callVv (cl := mX3_exchange) [(0, ((k : Nat) : Int))] [] dX6_swaps_66 mlX6_219 cvX3_exchange rfl rfl rfl rfl rfl (by decide) (Nat.le_of_ble_eq_true rfl) rfl (ev_X3_exchange P D n F (swp O k) Ma a1 k (by omega)) (fun Mb hq66 => ?_)
        obtain ⟨b1, b2⟩ := hq66
        rw [swp_swp] at b1
        refine J_iinc (v := (((k + 1) : Nat) : Int)) (L' := [(10, 0), (0, ((x : Nat) : Int)), (0, (((k + 1) : Nat) : Int))]) dX6_swaps_69 rfl (by omega) (by decide) rfl rfl ?_
        refine J_goto (tgt := 13) dX6_swaps_72 rfl ?_
        exact ih _ _ _ (by exact Ch_tr (Ch_tr f0 a2) b2) (by exact b1) (by rw [mskN_f (by exact decide_eq_false (by omega)), f2]) (by omega) (by omega)
      ·
        refine J_iload_n dX6_swaps_55 rfl ?_
        refine J_iconst dX6_swaps_56 ?_
        refine J_iload_n dX6_swaps_57 rfl ?_
        refine J_ishl dX6_swaps_58 (J_top (v := (((2 ^ k) : Nat) : Int)) (j_shl1 rfl rfl (by omega)) ?_)
        refine J_ior dX6_swaps_59 (J_top (v := (((x ||| (2 ^ k)) : Nat) : Int)) (j_orN rfl rfl (by rw [f2]; exact mskN_31 (by omega)) (nb_p2 (by omega))) ?_)
        refine J_istore_n (L' := [(10, 0), (0, (((x ||| (2 ^ k)) : Nat) : Int)), (0, ((k : Nat) : Int))]) dX6_swaps_60 (by decide) rfl rfl ?_
        refine J_aload_n dX6_swaps_61 rfl ?_
        refine J_getR dX6_swaps_62 flX6_26 rfl rfl ?_
        refine J_iload_n dX6_swaps_65 rfl ?_
        refine J_callVv (cl := mX3_exchange) [(0, ((k : Nat) : Int))] [] dX6_swaps_66 mlX6_219 cvX3_exchange rfl rfl rfl rfl rfl (by decide) (Nat.le_of_ble_eq_true rfl) rfl (ev_X3_exchange P D n F (swp O k) Ma a1 k (by omega)) (fun Mb hq66 => ?_)
        obtain ⟨b1, b2⟩ := hq66
        rw [swp_swp] at b1
        refine J_iinc (v := (((k + 1) : Nat) : Int)) (L' := [(10, 0), (0, (((x ||| (2 ^ k)) : Nat) : Int)), (0, (((k + 1) : Nat) : Int))]) dX6_swaps_69 rfl (by omega) (by decide) rfl rfl ?_
        refine J_goto (tgt := 13) dX6_swaps_72 rfl ?_
        exact ih _ _ _ (by exact Ch_tr (Ch_tr f0 a2) b2) (by exact b1) (by rw [mskN_t (by exact decide_eq_true (by omega)), f2]) (by omega) (by omega)
set_option maxRecDepth 100000 in
set_option maxHeartbeats 4000000 in
theorem ev_X6_swaps (P D n : Nat) (F O : Nat → Nat) (tl : Nat) (tb : Nat → Nat) (fa tr wh : Int) (M : jM) (hS : KS P D n F O tl tb fa tr wh M) : Ev 4 mX6_swaps [(10, 0)] M (fun z M' => z = A_swaps n F O ∧ KS P D n F O tl tb fa (u1 (bT n)) 0 M' ∧ KM M M') := by
  refine Ev_of (by decide +kernel) (Nat.le_of_ble_eq_true rfl) (L := [(10, 0), (9, 0), (9, 0)]) rfl ?_
  have hR := hS.1
  have hn12 := KR.hn hR
  have hP7 := KR.hP hR
  have hD5 := KR.hD hR
  have h2P : 2 ^ P ≤ 128 := Nat.pow_le_pow_right (n := 2) (by decide) hP7
  have h2p := Nat.two_pow_pos P
  refine J_aload_n dX6_swaps_0 rfl ?_
  refine J_callViQ (cl := mX6_refusesEmpty) [] [] dX6_swaps_1 mlX6_146 cvX6_refusesEmpty rfl rfl rfl rfl rfl (by decide) (Nat.le_of_ble_eq_true rfl) rfl (ev_X6_refusesEmpty P D n F O M hR) ?_
  refine J_ifn_eq (b := bT n) (tgt := 9) dX6_swaps_4 rfl (fun h4 => ?_) (fun h4 => ?_)
  ·
    refine J_iconst dX6_swaps_9 ?_
    refine J_istore_n (L' := [(10, 0), (0, 0), (9, 0)]) dX6_swaps_10 (by decide) rfl rfl ?_
    refine J_iconst dX6_swaps_11 ?_
    refine J_istore_n (L' := [(10, 0), (0, 0), (0, 0)]) dX6_swaps_12 (by decide) rfl rfl ?_
    refine J_eq (L' := [(10, 0), (0, ((0 : Nat) : Int)), (0, ((0 : Nat) : Int))]) rfl rfl rfl ?_
    exact ev_X6_swaps_L13 P D n F O tl tb fa tr wh M hS h4 _ _ _ _ (by exact Ch_rf) (by exact kr_up (by decide) hR) (by rfl) (by have := bT_n h4; omega) (Nat.lt_succ_self _)
  ·
    refine J_iconst dX6_swaps_7 ?_
    refine J_ireturn dX6_swaps_8 rfl ?_
    exact ⟨by unfold A_swaps; rw [h4]; rfl, ks_tr u1_4 hS, km_up (by decide) km_rf⟩
