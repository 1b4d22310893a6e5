theorem gd_all {n : Nat} {F O : Nat → Nat} (h : (n : Int) ≤ gdN n F O) : ∀ k, k < n → jnA F O k = true := by
  intro k hk
  cases e : jnA F O k
  · exfalso
    unfold gdN at h
    have e2 : (fun k => !jnA F O k) k = true := by show (!jnA F O k) = true; rw [e]; rfl
    have h4 : anyN n (fun k => !jnA F O k) = true := anyN_iff.mpr ⟨k, hk, e2⟩
    obtain ⟨m, m1, m2, m3, m4⟩ := fstN_get (z := (n : Int)) h4
    rw [m3] at h
    omega
  · rfl
theorem nth_p {n : Nat} {p : Nat → Bool} {i : Int} (h : 0 ≤ nthN n p i) : (nthN n p i).toNat < n ∧ p (nthN n p i).toNat = true := by
  by_cases h0 : i < 0
  · rw [nthN_neg h0] at h; omega
  · obtain ⟨j, rfl⟩ : ∃ j : Nat, i = (j : Int) := ⟨i.toNat, by omega⟩
    by_cases h1 : j < cntN n p
    · obtain ⟨k, k1, k2, k3, k4⟩ := nthN_spec h1
      rw [k2, Int.toNat_natCast]
      exact ⟨k1, k3⟩
    · rw [nthN_none (by omega)] at h; omega
theorem ks_new {P' D' n' : Nat} {F' O' : Nat → Nat} {tl : Nat} {tb : Nat → Nat} {fa w wh : Int} {M1 M2 : jM} (h0 : M1 0 6 = w) (ht : M1 1 2 = fa ∧ (w = 4 → M1 1 3 = wh) ∧ M1 1 1 = (tl : Int) ∧ tl ≤ 200 ∧ ∀ i : Nat, i < tl → M1 2 (i : Int) = (tb i : Int) ∧ tb i < 256) (hC : CC M1) (hF : KF P' D' n' F' O' M1) (hc2 : Ch [6, 7, 8, 16, 20] M1 M2) (hT : KT n' F' M2) (h16 : M2 16 0 = 0) (h20 : M2 20 0 = 0) : KS P' D' n' F' O' tl tb fa w wh M2 := by
  refine ⟨⟨kf_ch hc2 (by decide) hF, hT⟩, by rw [hc2 0 (by decide)]; exact h0, ?_, cc_ch hc2 (by decide) hC, Or.inl h16, Or.inl h20⟩
  rw [hc2 1 (by decide), hc2 2 (by decide)]
  exact ht
theorem KS.tp {P D n : Nat} {F O : Nat → Nat} {tl : Nat} {tb : Nat → Nat} {fa tr wh w : Int} {M M1 : jM} {ks : List Nat} (h : KS P D n F O tl tb fa tr wh M) (hc : Ch ks M M1) (hk : 1 ∉ ks ∧ 2 ∉ ks) (hw : w ≠ 4) : M1 1 2 = fa ∧ (w = 4 → M1 1 3 = (0 : Int)) ∧ M1 1 1 = (tl : Int) ∧ tl ≤ 200 ∧ ∀ i : Nat, i < tl → M1 2 (i : Int) = (tb i : Int) ∧ tb i < 256 := by
  obtain ⟨h3, h4, h5, h6, h7⟩ := h.2.2.1
  rw [hc 1 hk.1, hc 2 hk.2]
  exact ⟨h3, fun q => absurd q hw, h5, h6, h7⟩
theorem kf_add {P D n x : Nat} {F O : Nat → Nat} {M : jM} (h : KF P D n F O M) (wf : WF P D (n + 1) (adF F n x) (adF O n n)) : KF P D (n + 1) (adF F n x) (adF O n n) (j_up (j_up (j_up M 10 ((n : Nat) : Int) ((n : Nat) : Int)) 5 ((n : Nat) : Int) ((x : Nat) : Int)) 4 2 (((n + 1 : Nat)) : Int)) := by
  refine ⟨wf, ?_, ?_, j_up_eq, ?_, ?_⟩
  · rw [j_up_nz (by decide), j_up_ne (by decide), j_up_ne (by decide)]; exact h.gP
  · rw [j_up_nz (by decide), j_up_ne (by decide), j_up_ne (by decide)]; exact h.gD
  · intro i hi
    rw [j_up_ne (by decide)]
    unfold adF
    by_cases e : i = n
    · rw [if_pos e, e, j_up_eq]
    · rw [if_neg e, j_up_nz (by omega), j_up_ne (by decide)]
      exact h.gF (by omega)
  · intro i hi
    rw [j_up_ne (by decide), j_up_ne (by decide)]
    unfold adF
    by_cases e : i = n
    · rw [if_pos e, e, j_up_eq]
    · rw [if_neg e, j_up_nz (by omega)]
      exact h.gO (by omega)
theorem KF.kb {P D n : Nat} {F O : Nat → Nat} {M : jM} (h : KF P D n F O M) : KB n F M := ⟨h.hn, h.gn, h.row⟩
theorem num_any {n : Nat} {F : Nat → Nat} {i : Int} (hi : 0 ≤ i) : (0 ≤ fstN n (fun k => decide ((F k : Int) = i)) (-1)) ↔ anyN n (fun k => F k == i.toNat) = true := by
  have e : anyN n (fun k => F k == i.toNat) = anyN n (fun k => decide ((F k : Int) = i)) := anyN_congr (fun k _ => by
    apply beqB
    rw [beq_iff_eq, decide_eq_true_eq]
    omega)
  rw [e]
  constructor
  · intro h
    cases q : anyN n (fun k => decide ((F k : Int) = i))
    · rw [fstN_none q] at h; omega
    · rfl
  · intro h
    obtain ⟨k, k1, k2, k3, k4⟩ := fstN_get (z := -1) h
    rw [k3]
    omega
theorem ks_rm {P D n n' : Nat} {F O F' O' : Nat → Nat} {tl : Nat} {tb : Nat → Nat} {fa tr wh w : Int} {M M1 M2 : jM} (h : KS P D n F O tl tb fa tr wh M) (hc : Ch [0] M M1) (h0 : M1 0 6 = w) (hw : w ≠ 4) (hc2 : Ch [4, 5, 6, 7, 8, 10, 16, 20] M1 M2) (hr : KR P D n' F' O' M2) (h16 : M2 16 0 = 0) (h20 : M2 20 0 = 0) : KS P D n' F' O' tl tb fa w 0 M2 := by
  have hcc : Ch [0, 4, 5, 6, 7, 8, 10, 16, 20] M M2 := Ch_tr (Ch_mo hc (by decide)) (Ch_mo hc2 (by decide))
  exact ⟨hr, by rw [hc2 0 (by decide)]; exact h0, h.tp hcc (by decide) hw, cc_ch hcc (by decide) h.cc, Or.inl h16, Or.inl h20⟩
theorem ks_od {P D n : Nat} {F O O' : Nat → Nat} {tl : Nat} {tb : Nat → Nat} {fa tr wh : Int} {M M2 : jM} (h : KS P D n F O tl tb fa tr wh M) (hc2 : Ch [10] M M2) (hr : KR P D n F O' M2) : KS P D n F O' tl tb fa tr wh M2 := by
  obtain ⟨h1, h2, h3, h8, h9, h10⟩ := h
  refine ⟨hr, by rw [hc2 0 (by decide)]; exact h2, ?_, cc_ch hc2 (by decide) h8, oq_ch hc2 (by decide) h9, sq_ch hc2 (by decide) h10⟩
  rw [hc2 1 (by decide), hc2 2 (by decide)]
  exact h3
set_option maxRecDepth 100000 in
set_option maxHeartbeats 4000000 in
theorem ev_X6_cycle (P D n : Nat) (F O : Nat → Nat) (tl : Nat) (tb : Nat → Nat) (fa tr wh : Int) (M : jM) (hS : KS P D n F O tl tb fa tr wh M) (i : Int) (hi : -2147483648 ≤ i ∧ i < 2147483648) : Ev 5 mX6_cycle [(10, 0), (0, i)] M (fun z M' => z = A_cycle D n F O i ∧ KS P D n F O tl tb fa (u1 (bP n F O i)) 0 M' ∧ KM M M') := by
  refine Ev_of (by decide +kernel) (Nat.le_of_ble_eq_true rfl) (L := [(10, 0), (0, i), (9, 0)]) rfl ?_
  have hR := hS.1
  have hn12 := KR.hn hR
  have hP7 := KR.hP hR
  have hD5 := KR.hD hR
  have h2P : 2 ^ P ≤ 128 := Nat.pow_le_pow_right (n := 2) (by decide) hP7
  have h2p := Nat.two_pow_pos P
  refine J_aload_n dX6_cycle_0 rfl ?_
  refine J_getR dX6_cycle_1 flX6_26 rfl rfl ?_
  refine J_aload_n dX6_cycle_4 rfl ?_
  refine J_getR dX6_cycle_5 flX6_19 rfl rfl ?_
  refine J_iload_n dX6_cycle_8 rfl ?_
  refine J_callViQ (cl := mX3_nthSpanning) [(14, 0), (0, i)] [] dX6_cycle_9 mlX6_192 cvX3_nthSpanning rfl rfl rfl rfl rfl (by decide) (Nat.le_of_ble_eq_true rfl) rfl (ev_X3_nthSpanning P D n F O M hR i (by omega)) ?_
  refine J_istore_n (L' := [(10, 0), (0, i), (0, (nthN n (spB F O) i))]) dX6_cycle_12 (by decide) rfl rfl ?_
  refine J_aload_n dX6_cycle_13 rfl ?_
  refine J_iload_n dX6_cycle_14 rfl ?_
  refine J_if_ge (tgt := 22) dX6_cycle_15 rfl (nthK hR _ _) (fun h15 => ?_) (fun h15 => ?_)
  ·
    refine J_iconst dX6_cycle_22 ?_
    refine J_iconst dX6_cycle_23 ?_
    refine J_callViQ (cl := mX6_refused) [(0, ((Bool.toNat (false) : Nat) : Int)), (0, 1)] [] dX6_cycle_24 mlX6_66 cvX6_refused rfl rfl rfl rfl rfl (by decide) (Nat.le_of_ble_eq_true rfl) rfl (ev_X6_refusedF 1 M) ?_
    refine J_ifb_eq (tgt := 32) dX6_cycle_27 rfl (fun h27 => ?_) (fun h27 => ?_)
    ·
      refine J_aload_n dX6_cycle_32 rfl ?_
      refine J_getR dX6_cycle_33 flX6_26 rfl rfl ?_
      refine J_aload_n dX6_cycle_36 rfl ?_
      refine J_getR dX6_cycle_37 flX6_19 rfl rfl ?_
      refine J_callViQ (cl := mX3_goodStart) [(14, 0)] [] dX6_cycle_40 mlX6_185 cvX3_goodStart rfl rfl rfl rfl rfl (by decide) (Nat.le_of_ble_eq_true rfl) rfl (ev_X3_goodStart P D n F O (j_up M 0 6 0) (kr_up (by decide) hR) ) ?_
      refine J_aload_n dX6_cycle_43 rfl ?_
      refine J_getR dX6_cycle_44 flX6_19 rfl rfl ?_
      refine J_getI dX6_cycle_47 flX6_84 rfl rfl (J_top (v := ((n : Nat) : Int)) (KR.gn (kr_up (by decide) hR)) ?_)
      refine J_icmp_ge (tgt := 56) dX6_cycle_50 rfl (gdK hR) (j_R (by omega)) (fun h50 => ?_) (fun h50 => ?_)
      ·
        refine J_aload_n dX6_cycle_56 rfl ?_
        refine J_getR dX6_cycle_57 flX6_33 rfl rfl ?_
        refine J_aload_n dX6_cycle_60 rfl ?_
        refine J_getR dX6_cycle_61 flX6_19 rfl rfl ?_
        refine J_aload_n dX6_cycle_64 rfl ?_
        refine J_getR dX6_cycle_65 flX6_26 rfl rfl ?_
        refine J_getR dX6_cycle_68 flX6_174 rfl rfl ?_
        refine J_iload_n dX6_cycle_71 rfl (J_top (v := (((Int.toNat (nthN n (spB F O) i)) : Nat) : Int)) (by omega) ?_)
        refine J_iald dX6_cycle_72 rfl (by decide) (KR.ix hR (nth_p h15).1) (J_top (v := (((O (Int.toNat (nthN n (spB F O) i))) : Nat) : Int)) (KR.gO (kr_up (by decide) hR) (nth_p h15).1) ?_)
        refine J_aload_n dX6_cycle_73 rfl ?_
        refine J_getR dX6_cycle_74 flX6_19 rfl rfl ?_
        refine J_callViQ (cl := mX0_everyFacet) [] [(0, (((O (Int.toNat (nthN n (spB F O) i))) : Nat) : Int)), (14, 0), (21, 0)] dX6_cycle_77 mlX6_195 cvX0_everyFacet rfl rfl rfl rfl rfl (by decide) (Nat.le_of_ble_eq_true rfl) rfl (ev_X0_everyFacet n (KR.hn hR) (j_up M 0 6 0) (KR.gn (kr_up (by decide) hR))) ?_
        refine J_aload_n dX6_cycle_80 rfl ?_
        refine J_getR dX6_cycle_81 flX6_26 rfl rfl ?_
        refine J_aload_n dX6_cycle_84 rfl ?_
        refine J_getR dX6_cycle_85 flX6_19 rfl rfl ?_
        refine J_callViQ (cl := mX3_spanningFacets) [(14, 0)] [(0, (((2 ^ n - 1) : Nat) : Int)), (0, (((O (Int.toNat (nthN n (spB F O) i))) : Nat) : Int)), (14, 0), (21, 0)] dX6_cycle_88 mlX6_198 cvX3_spanningFacets rfl rfl rfl rfl rfl (by decide) (Nat.le_of_ble_eq_true rfl) rfl (ev_X3_spanningFacets P D n F O (j_up M 0 6 0) (kr_up (by decide) hR) ) ?_
        refine J_iconst dX6_cycle_91 ?_
        refine J_ixor dX6_cycle_92 (J_top (v := (-(((spM F O n) : Nat) : Int) - 1)) (j_notN rfl (p12 (KR.hn hR) (spM_lt n (fun i hi => KR.ob hR hi)))) ?_)
        refine J_iand dX6_cycle_93 (J_top (v := (((ndf (2 ^ n - 1) (spM F O n)) : Nat) : Int)) (j_ndfN rfl rfl (kn31 hR)) ?_)
        refine J_callVi (cl := mX1_cycleOf) [(14, 0), (0, (((O (Int.toNat (nthN n (spB F O) i))) : Nat) : Int)), (0, (((ndf (2 ^ n - 1) (spM F O n)) : Nat) : Int))] [] dX6_cycle_94 mlX6_201 cvX1_cycleOf rfl rfl rfl rfl rfl (by decide) (Nat.le_of_ble_eq_true rfl) rfl (ev_X1_cycleOf P D n F O (j_up M 0 6 0) (kr_up (by decide) hR) (cc_ch ch1 (by decide) hS.cc) (O (Int.toNat (nthN n (spB F O) i))) (ndf (2 ^ n - 1) (spM F O n)) (KR.ob hR (nth_p h15).1) (nb_ndf (kn31 hR))) (fun z94 Mb hq94 => ?_)
        obtain ⟨rfl, b1⟩ := hq94
        refine J_ireturn dX6_cycle_97 rfl ?_
        have e : bP n F O i = true := by rw [sp_b]; exact decide_eq_true h15
        have hg := gd_all h50
        refine ⟨?_, by rw [u1_t e]; exact ks_hv b1 (by decide) (ks_tr (by decide) hS), km_tr (km_up (by decide) km_rf) (km_ch b1 (by decide))⟩
        unfold A_cycle
        rw [if_pos e, if_neg (by omega), fr_eq hR.wf, cyc_eq hR.wf hg (nth_p h15).1 (nth_p h15).2]
      ·
        refine J_bipush dX6_cycle_53 (by decide) ?_
        refine J_ireturn dX6_cycle_55 rfl ?_
        have e : bP n F O i = true := by rw [sp_b]; exact decide_eq_true h15
        exact ⟨by unfold A_cycle; rw [if_pos e, if_pos (by omega)], by rw [u1_t e]; exact ks_tr (by decide) hS, km_up (by decide) km_rf⟩
    · exact absurd h27 (by decide)
  ·
    refine J_iconst dX6_cycle_18 ?_
    refine J_goto (tgt := 23) dX6_cycle_19 rfl ?_
    refine J_iconst dX6_cycle_23 ?_
    refine J_callViQ (cl := mX6_refused) [(0, ((Bool.toNat (true) : Nat) : Int)), (0, 1)] [] dX6_cycle_24 mlX6_66 cvX6_refused rfl rfl rfl rfl rfl (by decide) (Nat.le_of_ble_eq_true rfl) rfl (ev_X6_refusedT 1 M) ?_
    refine J_ifb_eq (tgt := 32) dX6_cycle_27 rfl (fun h27 => ?_) (fun h27 => ?_)
    · exact absurd h27 (by decide)
    ·
      refine J_iconst dX6_cycle_30 ?_
      refine J_ireturn dX6_cycle_31 rfl ?_
      have e : bP n F O i = false := by rw [sp_b]; exact decide_eq_false (by omega)
      exact ⟨by unfold A_cycle; rw [if_neg (by rw [e]; decide)], by rw [u1_f e]; exact ks_tr (by decide) hS, km_up (by decide) km_rf⟩
set_option maxRecDepth 100000 in
set_option maxHeartbeats 4000000 in
theorem ev_X6_add (P D n : Nat) (F O : Nat → Nat) (tl : Nat) (tb : Nat → Nat) (fa tr wh : Int) (M : jM) (hS : KS P D n F O tl tb fa tr wh M) (i : Int) (hi : -2147483648 ≤ i ∧ i < 2147483648) : Ev 5 mX6_add [(10, 0), (0, i)] M (fun z M' => z = A_add P D n F i ∧ KS P D (nw (tAd P D n F i) (n + 1) n) (nw (tAd P D n F i) (adF F n i.toNat) F) (nw (tAd P D n F i) (adF O n n) O) tl tb fa (tAd P D n F i) 0 M' ∧ KM M M') := by
  refine Ev_of (by decide +kernel) (Nat.le_of_ble_eq_true rfl) (L := [(10, 0), (0, i)]) rfl ?_
  have hR := hS.1
  have hn12 := KR.hn hR
  have hP7 := KR.hP hR
  have hD5 := KR.hD hR
  have h2P : 2 ^ P ≤ 128 := Nat.pow_le_pow_right (n := 2) (by decide) hP7
  have h2p := Nat.two_pow_pos P
  refine J_aload_n dX6_add_0 rfl ?_
  refine J_callViQ (cl := mX6_refusesEmpty) [] [] dX6_add_1 mlX6_146 cvX6_refusesEmpty rfl rfl rfl rfl rfl (by decide) (Nat.le_of_ble_eq_true rfl) rfl (ev_X6_refusesEmpty P D n F O M hR) ?_
  refine J_ifn_ne (b := bT n) (tgt := 94) dX6_add_4 rfl (fun h4 => ?_) (fun h4 => ?_)
  ·
    refine J_iconst dX6_add_94 ?_
    refine J_ireturn dX6_add_95 rfl ?_
    have e0 : u1 (bT n) = 1 := u1_f h4
    have et : tAd P D n F i = 1 := by unfold tAd; rw [if_neg (by rw [h4]; decide)]
    have en : ¬ tAd P D n F i = 0 := by rw [et]; decide
    refine ⟨by unfold A_add; rw [if_neg en], ?_, km_up (by decide) (km_rf)⟩
    rw [nw_f en, nw_f en, nw_f en, et]
    rw [e0]
    exact ks_tr (by decide) hS
  ·
    refine J_aload_n dX6_add_7 rfl ?_
    refine J_aload_n dX6_add_8 rfl ?_
    refine J_getR dX6_add_9 flX6_19 rfl rfl ?_
    refine J_iload_n dX6_add_12 rfl ?_
    refine J_callViQ (cl := mX0_isSet) [(0, i)] [(10, 0)] dX6_add_13 mlX6_287 cvX0_isSet rfl rfl rfl rfl rfl (by decide) (Nat.le_of_ble_eq_true rfl) rfl (ev_X0_isSet P D n F O (j_up M 0 6 (u1 (bT n))) (kr_up (by decide) hR) i (by omega)) ?_
    refine J_ifb_eq (tgt := 33) dX6_add_16 rfl (fun h16 => ?_) (fun h16 => ?_)
    ·
      refine J_iconst dX6_add_33 ?_
      refine J_goto (tgt := 38) dX6_add_34 rfl ?_
      refine J_iconst dX6_add_38 ?_
      refine J_callViQ (cl := mX6_refused) [(0, ((Bool.toNat (true) : Nat) : Int)), (0, 2)] [] dX6_add_39 mlX6_66 cvX6_refused rfl rfl rfl rfl rfl (by decide) (Nat.le_of_ble_eq_true rfl) rfl (ev_X6_refusedT 2 (j_up M 0 6 (u1 (bT n)))) ?_
      refine J_ifb_ne (tgt := 94) dX6_add_42 rfl (fun h42 => ?_) (fun h42 => ?_)
      ·
        refine J_iconst dX6_add_94 ?_
        refine J_ireturn dX6_add_95 rfl ?_
        have e1 : bA P D i = false := by unfold bA; rw [h16]; rfl
        have et : tAd P D n F i = 2 := by unfold tAd; rw [if_pos h4, if_neg (by rw [e1]; decide)]
        have en : ¬ tAd P D n F i = 0 := by rw [et]; decide
        refine ⟨by unfold A_add; rw [if_neg en], ?_, km_up (by decide) (km_up (by decide) (km_rf))⟩
        rw [nw_f en, nw_f en, nw_f en, et]
        rw [j_up2]
        exact ks_tr (by decide) hS
      · exact absurd h42 (by decide)
    ·
      refine J_iload_n dX6_add_19 rfl (J_top (v := (((Int.toNat i) : Nat) : Int)) (by have := of_decide_eq_true h16; omega) ?_)
      refine J_callSiQ (cl := mJ6_bitCount_0f7a4) [(0, (((Int.toNat i) : Nat) : Int))] [(10, 0)] dX6_add_20 mlX6_207 csJ6_bitCount_0f7a4 rfl rfl (by decide) (Nat.le_of_ble_eq_true rfl) rfl (ev_bitCount (Int.toNat i) (by have := of_decide_eq_true h16; omega) (j_up M 0 6 (u1 (bT n)))) ?_
      refine J_aload_n dX6_add_23 rfl ?_
      refine J_getR dX6_add_24 flX6_19 rfl rfl ?_
      refine J_getI dX6_add_27 flX6_99 rfl rfl (J_top (v := ((D : Nat) : Int)) (KR.gD (kr_up (by decide) hR)) ?_)
      refine J_icmp_eq (tgt := 37) dX6_add_30 rfl (j_R (popc_lt (by have := of_decide_eq_true h16; omega))) (j_R (by omega)) (fun h30 => ?_) (fun h30 => ?_)
      ·
        refine J_iconst dX6_add_37 ?_
        refine J_iconst dX6_add_38 ?_
        refine J_callViQ (cl := mX6_refused) [(0, ((Bool.toNat (false) : Nat) : Int)), (0, 2)] [] dX6_add_39 mlX6_66 cvX6_refused rfl rfl rfl rfl rfl (by decide) (Nat.le_of_ble_eq_true rfl) rfl (ev_X6_refusedF 2 (j_up M 0 6 (u1 (bT n)))) ?_
        refine J_ifb_ne (tgt := 94) dX6_add_42 rfl (fun h42 => ?_) (fun h42 => ?_)
        · exact absurd h42 (by decide)
        ·
          refine J_aload_n dX6_add_45 rfl ?_
          refine J_aload_n dX6_add_46 rfl ?_
          refine J_getR dX6_add_47 flX6_19 rfl rfl ?_
          refine J_iload_n dX6_add_50 rfl ?_
          refine J_callViQ (cl := mX0_numberOf) [(0, i)] [(10, 0)] dX6_add_51 mlX6_290 cvX0_numberOf rfl rfl rfl rfl rfl (by decide) (Nat.le_of_ble_eq_true rfl) rfl (ev_X0_numberOf P D n F O (j_up (j_up M 0 6 (u1 (bT n))) 0 6 0) (kr_up (by decide) (kr_up (by decide) hR)) i (by omega)) ?_
          refine J_if_lt (tgt := 61) dX6_add_54 rfl (fstK hR _ _) (fun h54 => ?_) (fun h54 => ?_)
          ·
            refine J_iconst dX6_add_61 ?_
            refine J_iconst dX6_add_62 ?_
            refine J_callViQ (cl := mX6_refused) [(0, ((Bool.toNat (false) : Nat) : Int)), (0, 5)] [] dX6_add_63 mlX6_66 cvX6_refused rfl rfl rfl rfl rfl (by decide) (Nat.le_of_ble_eq_true rfl) rfl (ev_X6_refusedF 5 (j_up (j_up M 0 6 (u1 (bT n))) 0 6 0)) ?_
            refine J_ifb_ne (tgt := 94) dX6_add_66 rfl (fun h66 => ?_) (fun h66 => ?_)
            · exact absurd (h42.symm.trans h66) (by decide)
            ·
              refine J_aload_n dX6_add_69 rfl ?_
              refine J_aload_n dX6_add_70 rfl ?_
              refine J_getR dX6_add_71 flX6_19 rfl rfl ?_
              refine J_getI dX6_add_74 flX6_84 rfl rfl (J_top (v := ((n : Nat) : Int)) (KR.gn (kr_up (by decide) (kr_up (by decide) (kr_up (by decide) hR)))) ?_)
              refine J_bipush dX6_add_77 (by decide) ?_
              refine J_icmp_lt (tgt := 86) dX6_add_79 rfl (j_R (by omega)) (by decide) (fun h79 => ?_) (fun h79 => ?_)
              ·
                refine J_iconst dX6_add_86 ?_
                refine J_iconst dX6_add_87 ?_
                refine J_callViQ (cl := mX6_refused) [(0, ((Bool.toNat (false) : Nat) : Int)), (0, 3)] [] dX6_add_88 mlX6_66 cvX6_refused rfl rfl rfl rfl rfl (by decide) (Nat.le_of_ble_eq_true rfl) rfl (ev_X6_refusedF 3 (j_up (j_up (j_up M 0 6 (u1 (bT n))) 0 6 0) 0 6 0)) ?_
                refine J_ifb_eq (tgt := 96) dX6_add_91 rfl (fun h91 => ?_) (fun h91 => ?_)
                ·
                  have e1 : bA P D i = true := by unfold bA; rw [h16, Bool.true_and]; exact decide_eq_true (by omega)
                  have e2 : anyN n (fun k => F k == i.toNat) = false := by
                    cases q : anyN n (fun k => F k == i.toNat)
                    · rfl
                    · have := (num_any (n := n) (F := F) (i := i) (by have := of_decide_eq_true h16; omega)).mpr q
                      omega
                  have hn0 := bT_n h4
                  have hn1 : n < 12 := by omega
                  have hix := of_decide_eq_true h16
                  have wf9 : WF P D (n + 1) (adF F n (Int.toNat i)) (adF O n n) := ad_wf hR.wf hn0 hn1 (by omega) (by omega) (fun k hk q => beq_eq_false_iff_ne.mp (anyN_false.mp e2 k hk) q)
                  have kf9 : KF P D (n + 1) (adF F n (Int.toNat i)) (adF O n n) (j_up (j_up (j_up (j_up (j_up (j_up (j_up M 0 6 (u1 (bT n))) 0 6 0) 0 6 0) 0 6 0) 10 ((n : Nat) : Int) ((n : Nat) : Int)) 5 ((n : Nat) : Int) (((Int.toNat i) : Nat) : Int)) 4 2 (((n + 1 : Nat)) : Int)) := kf_add (kr_up (by decide) (kr_up (by decide) (kr_up (by decide) (kr_up (by decide) hR)))).1 wf9
                  refine J_aload_n dX6_add_96 rfl ?_
                  refine J_getR dX6_add_97 flX6_26 rfl rfl ?_
                  refine J_aload_n dX6_add_100 rfl ?_
                  refine J_getR dX6_add_101 flX6_19 rfl rfl ?_
                  refine J_getI dX6_add_104 flX6_84 rfl rfl (J_top (v := ((n : Nat) : Int)) (KR.gn (kr_up (by decide) (kr_up (by decide) (kr_up (by decide) (kr_up (by decide) hR))))) ?_)
                  refine J_callVvQ (cl := mX3_append) [(0, ((n : Nat) : Int))] [] dX6_add_107 mlX6_293 cvX3_append rfl rfl rfl rfl rfl (by decide) (Nat.le_of_ble_eq_true rfl) rfl (ev_X3_append n hn1 (j_up (j_up (j_up (j_up M 0 6 (u1 (bT n))) 0 6 0) 0 6 0) 0 6 0)) ?_
                  refine J_aload_n dX6_add_110 rfl ?_
                  refine J_getR dX6_add_111 flX6_19 rfl rfl ?_
                  refine J_iload_n dX6_add_114 rfl (J_top (v := (((Int.toNat i) : Nat) : Int)) (by have := of_decide_eq_true h16; omega) ?_)
                  refine J_callVvQ (cl := mX0_append) [(0, (((Int.toNat i) : Nat) : Int))] [] dX6_add_115 mlX6_296 cvX0_append rfl rfl rfl rfl rfl (by decide) (Nat.le_of_ble_eq_true rfl) rfl (ev_X0_append n (Int.toNat i) hn1 (j_up (j_up (j_up (j_up (j_up M 0 6 (u1 (bT n))) 0 6 0) 0 6 0) 0 6 0) 10 ((n : Nat) : Int) ((n : Nat) : Int)) (by rw [j_up_ne (by decide), j_up_ne (by decide), j_up_ne (by decide), j_up_ne (by decide), j_up_ne (by decide)]; exact hR.gn)) ?_
                  refine J_aload_n dX6_add_118 rfl ?_
                  refine J_callVv (cl := mX6_renew) [] [] dX6_add_119 mlX6_81 cvX6_renew rfl rfl rfl rfl rfl (by decide) (Nat.le_of_ble_eq_true rfl) rfl (ev_X6_renew (n + 1) (adF F n (Int.toNat i)) (j_up (j_up (j_up (j_up (j_up (j_up (j_up M 0 6 (u1 (bT n))) 0 6 0) 0 6 0) 0 6 0) 10 ((n : Nat) : Int) ((n : Nat) : Int)) 5 ((n : Nat) : Int) (((Int.toNat i) : Nat) : Int)) 4 2 (((n + 1 : Nat)) : Int)) kf9.kb) (fun Ma hq119 => ?_)
                  obtain ⟨a1, a2, a3, a4⟩ := hq119
                  refine J_aload_n dX6_add_122 rfl ?_
                  refine J_getR dX6_add_123 flX6_19 rfl rfl ?_
                  refine J_getI dX6_add_126 flX6_84 rfl rfl (J_top (v := (((n + 1) : Nat) : Int)) (by rw [a1 4 (by decide)]; exact j_up_eq) ?_)
                  refine J_ireturn dX6_add_129 rfl ?_
                  have et : tAd P D n F i = 0 := by unfold tAd; rw [if_pos h4, if_pos e1, if_neg (by rw [e2]; decide), if_neg (by omega)]
                  refine ⟨by unfold A_add; rw [if_pos et], ?_, km_tr (km_up (by decide) (km_up (by decide) (km_up (by decide) (km_up (by decide) (km_up (by decide) (km_up (by decide) (km_up (by decide) (km_rf)))))))) (km_ch a1 (by decide))⟩
                  rw [nw_t et, nw_t et, nw_t et, et]
                  have hc9 : Ch [0, 4, 5, 10] M (j_up (j_up (j_up (j_up (j_up (j_up (j_up M 0 6 (u1 (bT n))) 0 6 0) 0 6 0) 0 6 0) 10 ((n : Nat) : Int) ((n : Nat) : Int)) 5 ((n : Nat) : Int) (((Int.toNat i) : Nat) : Int)) 4 2 (((n + 1 : Nat)) : Int)) := Ch_up (by decide) (Ch_up (by decide) (Ch_up (by decide) (Ch_up (by decide) (Ch_up (by decide) (Ch_up (by decide) (Ch_up (by decide) Ch_rf))))))
                  exact ks_new (by rw [j_up_ne (by decide), j_up_ne (by decide), j_up_ne (by decide), j_up_eq]) (hS.tp hc9 (by decide) (by decide)) (cc_ch hc9 (by decide) hS.cc) kf9 a1 a2 a3 a4
                · exact absurd (h42.symm.trans h91) (by decide)
              ·
                refine J_iconst dX6_add_82 ?_
                refine J_goto (tgt := 87) dX6_add_83 rfl ?_
                refine J_iconst dX6_add_87 ?_
                refine J_callViQ (cl := mX6_refused) [(0, ((Bool.toNat (true) : Nat) : Int)), (0, 3)] [] dX6_add_88 mlX6_66 cvX6_refused rfl rfl rfl rfl rfl (by decide) (Nat.le_of_ble_eq_true rfl) rfl (ev_X6_refusedT 3 (j_up (j_up (j_up M 0 6 (u1 (bT n))) 0 6 0) 0 6 0)) ?_
                refine J_ifb_eq (tgt := 96) dX6_add_91 rfl (fun h91 => ?_) (fun h91 => ?_)
                · exact absurd h91 (by decide)
                ·
                  refine J_iconst dX6_add_94 ?_
                  refine J_ireturn dX6_add_95 rfl ?_
                  have e1 : bA P D i = true := by unfold bA; rw [h16, Bool.true_and]; exact decide_eq_true (by omega)
                  have e2 : anyN n (fun k => F k == i.toNat) = false := by
                    cases q : anyN n (fun k => F k == i.toNat)
                    · rfl
                    · have := (num_any (n := n) (F := F) (i := i) (by have := of_decide_eq_true h16; omega)).mpr q
                      omega
                  have et : tAd P D n F i = 3 := by unfold tAd; rw [if_pos h4, if_pos e1, if_neg (by rw [e2]; decide), if_pos (by omega)]
                  have en : ¬ tAd P D n F i = 0 := by rw [et]; decide
                  refine ⟨by unfold A_add; rw [if_neg en], ?_, km_up (by decide) (km_up (by decide) (km_up (by decide) (km_up (by decide) (km_rf))))⟩
                  rw [nw_f en, nw_f en, nw_f en, et]
                  rw [j_up2, j_up2, j_up2]
                  exact ks_tr (by decide) hS
          ·
            refine J_iconst dX6_add_57 ?_
            refine J_goto (tgt := 62) dX6_add_58 rfl ?_
            refine J_iconst dX6_add_62 ?_
            refine J_callViQ (cl := mX6_refused) [(0, ((Bool.toNat (true) : Nat) : Int)), (0, 5)] [] dX6_add_63 mlX6_66 cvX6_refused rfl rfl rfl rfl rfl (by decide) (Nat.le_of_ble_eq_true rfl) rfl (ev_X6_refusedT 5 (j_up (j_up M 0 6 (u1 (bT n))) 0 6 0)) ?_
            refine J_ifb_ne (tgt := 94) dX6_add_66 rfl (fun h66 => ?_) (fun h66 => ?_)
            ·
              refine J_iconst dX6_add_94 ?_
              refine J_ireturn dX6_add_95 rfl ?_
              have e1 : bA P D i = true := by unfold bA; rw [h16, Bool.true_and]; exact decide_eq_true (by omega)
              have e2 := (num_any (n := n) (F := F) (i := i) (by have := of_decide_eq_true h16; omega)).mp h54
              have et : tAd P D n F i = 5 := by unfold tAd; rw [if_pos h4, if_pos e1, if_pos e2]
              have en : ¬ tAd P D n F i = 0 := by rw [et]; decide
              refine ⟨by unfold A_add; rw [if_neg en], ?_, km_up (by decide) (km_up (by decide) (km_up (by decide) (km_rf)))⟩
              rw [nw_f en, nw_f en, nw_f en, et]
              rw [j_up2, j_up2]
              exact ks_tr (by decide) hS
            · exact absurd h66 (by decide)
      ·
        refine J_iconst dX6_add_33 ?_
        refine J_goto (tgt := 38) dX6_add_34 rfl ?_
        refine J_iconst dX6_add_38 ?_
        refine J_callViQ (cl := mX6_refused) [(0, ((Bool.toNat (true) : Nat) : Int)), (0, 2)] [] dX6_add_39 mlX6_66 cvX6_refused rfl rfl rfl rfl rfl (by decide) (Nat.le_of_ble_eq_true rfl) rfl (ev_X6_refusedT 2 (j_up M 0 6 (u1 (bT n)))) ?_
        refine J_ifb_ne (tgt := 94) dX6_add_42 rfl (fun h42 => ?_) (fun h42 => ?_)
        ·
          refine J_iconst dX6_add_94 ?_
          refine J_ireturn dX6_add_95 rfl ?_
          have e1 : bA P D i = false := by unfold bA; rw [decide_eq_false (by omega), Bool.and_false]
          have et : tAd P D n F i = 2 := by unfold tAd; rw [if_pos h4, if_neg (by rw [e1]; decide)]
          have en : ¬ tAd P D n F i = 0 := by rw [et]; decide
          refine ⟨by unfold A_add; rw [if_neg en], ?_, km_up (by decide) (km_up (by decide) (km_rf))⟩
          rw [nw_f en, nw_f en, nw_f en, et]
          rw [j_up2]
          exact ks_tr (by decide) hS
        · exact absurd h42 (by decide)
set_option maxRecDepth 100000 in
set_option maxHeartbeats 4000000 in
theorem ev_X6_takeAway (P D n : Nat) (F O : Nat → Nat) (M : jM) (hR : KR P D n F O M) (i : Nat) (hi : i < n) (hn2 : 2 ≤ n) : Ev 5 mX6_takeAway [(10, 0), (0, ((i : Nat) : Int))] M (fun z M' => Ch [4, 5, 6, 7, 8, 10, 16, 20] M M' ∧ KR P D (n - 1) (drF F i) (drO n O i) M' ∧ M' 16 0 = 0 ∧ M' 20 0 = 0) := by
  refine Ev_of (by decide +kernel) (Nat.le_of_ble_eq_true rfl) (L := [(10, 0), (0, ((i : Nat) : Int))]) rfl ?_
  have hn12 := KR.hn hR
  have hP7 := KR.hP hR
  have hD5 := KR.hD hR
  have h2P : 2 ^ P ≤ 128 := Nat.pow_le_pow_right (n := 2) (by decide) hP7
  have h2p := Nat.two_pow_pos P
  refine J_aload_n dX6_takeAway_0 rfl ?_
  refine J_getR dX6_takeAway_1 flX6_26 rfl rfl ?_
  refine J_aload_n dX6_takeAway_4 rfl ?_
  refine J_getR dX6_takeAway_5 flX6_19 rfl rfl ?_
  refine J_getI dX6_takeAway_8 flX6_84 rfl rfl (J_top (v := ((n : Nat) : Int)) (KR.gn hR) ?_)
  refine J_iload_n dX6_takeAway_11 rfl ?_
  refine J_callVv (cl := mX3_remove) [(0, ((n : Nat) : Int)), (0, ((i : Nat) : Int))] [] dX6_takeAway_12 mlX6_328 cvX3_remove rfl rfl rfl rfl rfl (by decide) (Nat.le_of_ble_eq_true rfl) rfl (ev_X3_remove n hn12 O (fun k hk => KR.ob hR hk) M (fun k hk => KR.gO hR hk) i hi) (fun Ma hq12 => ?_)
  obtain ⟨a1, a2⟩ := hq12
  refine J_aload_n dX6_takeAway_15 rfl ?_
  refine J_getR dX6_takeAway_16 flX6_19 rfl rfl ?_
  refine J_iload_n dX6_takeAway_19 rfl ?_
  refine J_callVv (cl := mX0_remove) [(0, ((i : Nat) : Int))] [] dX6_takeAway_20 mlX6_331 cvX0_remove rfl rfl rfl rfl rfl (by decide) (Nat.le_of_ble_eq_true rfl) rfl (ev_X0_remove n F Ma (kb_ch a1 (by decide) hR.1.kb) i hi) (fun Mb hq20 => ?_)
  obtain ⟨b1, b2, b3, b4, b5⟩ := hq20
  have hcn := drQ_cnt (O := O) (fun j hj => KR.ob hR hj) (fun i j hi hj e => hR.wf.oi hi hj e) hi
  have kf9 : KF P D (n - 1) (drF F i) (drO n O i) Mb := by
    refine ⟨dr_wf hR.wf hi hn2, ?_, ?_, b4, b5, ?_⟩
    · rw [b2, a1 4 (by decide)]; exact hR.gP
    · rw [b3, a1 4 (by decide)]; exact hR.gD
    · intro j hj
      rw [b1 10 (by decide)]
      exact a2 j (by omega)
  refine J_aload_n dX6_takeAway_23 rfl ?_
  refine J_callVv (cl := mX6_renew) [] [] dX6_takeAway_24 mlX6_81 cvX6_renew rfl rfl rfl rfl rfl (by decide) (Nat.le_of_ble_eq_true rfl) rfl (ev_X6_renew (n - 1) (drF F i) Mb kf9.kb) (fun Mc hq24 => ?_)
  obtain ⟨c1, c2, c3, c4⟩ := hq24
  refine J_return dX6_takeAway_27 rfl ?_
  exact ⟨Ch_tr (Ch_mo a1 (by decide)) (Ch_tr (Ch_mo b1 (by decide)) (Ch_mo c1 (by decide))), ⟨kf_ch c1 (by decide) kf9, c2⟩, c3, c4⟩
set_option maxRecDepth 100000 in
set_option maxHeartbeats 4000000 in
theorem ev_X6_drop (P D n : Nat) (F O : Nat → Nat) (tl : Nat) (tb : Nat → Nat) (fa tr wh : Int) (M : jM) (hS : KS P D n F O tl tb fa tr wh M) (i : Int) (hi : -2147483648 ≤ i ∧ i < 2147483648) : Ev 6 mX6_drop [(10, 0), (0, i)] M (fun z M' => z = A_drop n i ∧ KS P D (nw (tDr n i) (n - 1) n) (nw (tDr n i) (drF F i.toNat) F) (nw (tDr n i) (drO n O i.toNat) O) tl tb fa (tDr n i) 0 M' ∧ KM M M') := by
  refine Ev_of (by decide +kernel) (Nat.le_of_ble_eq_true rfl) (L := [(10, 0), (0, i)]) rfl ?_
  have hR := hS.1
  have hn12 := KR.hn hR
  have hP7 := KR.hP hR
  have hD5 := KR.hD hR
  have h2P : 2 ^ P ≤ 128 := Nat.pow_le_pow_right (n := 2) (by decide) hP7
  have h2p := Nat.two_pow_pos P
  refine J_aload_n dX6_drop_0 rfl ?_
  refine J_aload_n dX6_drop_1 rfl ?_
  refine J_getR dX6_drop_2 flX6_19 rfl rfl ?_
  refine J_iload_n dX6_drop_5 rfl ?_
  refine J_callViQ (cl := mX0_isFacet) [(0, i)] [(10, 0)] dX6_drop_6 mlX6_115 cvX0_isFacet rfl rfl rfl rfl rfl (by decide) (Nat.le_of_ble_eq_true rfl) rfl (ev_X0_isFacet P D n F O M hR i (by omega)) ?_
  refine J_ifb_ne (tgt := 16) dX6_drop_9 rfl (fun h9 => ?_) (fun h9 => ?_)
  ·
    refine J_iconst dX6_drop_16 ?_
    refine J_iconst dX6_drop_17 ?_
    refine J_callViQ (cl := mX6_refused) [(0, ((Bool.toNat (false) : Nat) : Int)), (0, 1)] [] dX6_drop_18 mlX6_66 cvX6_refused rfl rfl rfl rfl rfl (by decide) (Nat.le_of_ble_eq_true rfl) rfl (ev_X6_refusedF 1 M) ?_
    refine J_ifb_ne (tgt := 48) dX6_drop_21 rfl (fun h21 => ?_) (fun h21 => ?_)
    · exact absurd h21 (by decide)
    ·
      refine J_aload_n dX6_drop_24 rfl ?_
      refine J_aload_n dX6_drop_25 rfl ?_
      refine J_getR dX6_drop_26 flX6_19 rfl rfl ?_
      refine J_getI dX6_drop_29 flX6_84 rfl rfl (J_top (v := ((n : Nat) : Int)) (KR.gn (kr_up (by decide) hR)) ?_)
      refine J_iconst dX6_drop_32 ?_
      refine J_icmp_ne (tgt := 40) dX6_drop_33 rfl (j_R (by omega)) (by decide) (fun h33 => ?_) (fun h33 => ?_)
      ·
        refine J_iconst dX6_drop_40 ?_
        refine J_iconst dX6_drop_41 ?_
        refine J_callViQ (cl := mX6_refused) [(0, ((Bool.toNat (false) : Nat) : Int)), (0, 5)] [] dX6_drop_42 mlX6_66 cvX6_refused rfl rfl rfl rfl rfl (by decide) (Nat.le_of_ble_eq_true rfl) rfl (ev_X6_refusedF 5 (j_up M 0 6 0)) ?_
        refine J_ifb_eq (tgt := 50) dX6_drop_45 rfl (fun h45 => ?_) (fun h45 => ?_)
        ·
          have hin := bI_n h9
          refine J_aload_n dX6_drop_50 rfl ?_
          refine J_iload_n dX6_drop_51 rfl (J_top (v := (((Int.toNat i) : Nat) : Int)) (by have := bI_n h9; omega) ?_)
          refine J_callVv (cl := mX6_takeAway) [(0, (((Int.toNat i) : Nat) : Int))] [] dX6_drop_52 mlX6_297 cvX6_takeAway rfl rfl rfl rfl rfl (by decide) (Nat.le_of_ble_eq_true rfl) rfl (ev_X6_takeAway P D n F O (j_up (j_up M 0 6 0) 0 6 0) (kr_up (by decide) (kr_up (by decide) hR)) (Int.toNat i) (by omega) (by omega)) (fun Ma hq52 => ?_)
          obtain ⟨a1, a2, a3, a4⟩ := hq52
          refine J_aload_n dX6_drop_55 rfl ?_
          refine J_getR dX6_drop_56 flX6_19 rfl rfl ?_
          refine J_getI dX6_drop_59 flX6_84 rfl rfl (J_top (v := (((n - 1) : Nat) : Int)) (KR.gn a2) ?_)
          refine J_ireturn dX6_drop_62 rfl ?_
          have et : tDr n i = 0 := by unfold tDr; rw [if_pos h9, if_neg (by omega)]
          refine ⟨by unfold A_drop; rw [if_pos et], ?_, km_tr (km_up (by decide) (km_up (by decide) (km_rf))) (km_ch a1 (by decide))⟩
          rw [nw_t et, nw_t et, nw_t et, et]
          exact ks_rm hS (Ch_up (by decide) (Ch_up (by decide) Ch_rf)) j_up_eq (by decide) a1 a2 a3 a4
        · exact absurd (h21.symm.trans h45) (by decide)
      ·
        refine J_iconst dX6_drop_36 ?_
        refine J_goto (tgt := 41) dX6_drop_37 rfl ?_
        refine J_iconst dX6_drop_41 ?_
        refine J_callViQ (cl := mX6_refused) [(0, ((Bool.toNat (true) : Nat) : Int)), (0, 5)] [] dX6_drop_42 mlX6_66 cvX6_refused rfl rfl rfl rfl rfl (by decide) (Nat.le_of_ble_eq_true rfl) rfl (ev_X6_refusedT 5 (j_up M 0 6 0)) ?_
        refine J_ifb_eq (tgt := 50) dX6_drop_45 rfl (fun h45 => ?_) (fun h45 => ?_)
        · exact absurd h45 (by decide)
        ·
          refine J_iconst dX6_drop_48 ?_
          refine J_ireturn dX6_drop_49 rfl ?_
          have et : tDr n i = 5 := by unfold tDr; rw [if_pos h9, if_pos (by omega)]
          have en : ¬ tDr n i = 0 := by rw [et]; decide
          refine ⟨by unfold A_drop; rw [if_neg en], ?_, km_up (by decide) (km_up (by decide) (km_rf))⟩
          rw [nw_f en, nw_f en, nw_f en, et, j_up2]
          exact ks_tr (by decide) hS
  ·
    refine J_iconst dX6_drop_12 ?_
    refine J_goto (tgt := 17) dX6_drop_13 rfl ?_
    refine J_iconst dX6_drop_17 ?_
    refine J_callViQ (cl := mX6_refused) [(0, ((Bool.toNat (true) : Nat) : Int)), (0, 1)] [] dX6_drop_18 mlX6_66 cvX6_refused rfl rfl rfl rfl rfl (by decide) (Nat.le_of_ble_eq_true rfl) rfl (ev_X6_refusedT 1 M) ?_
    refine J_ifb_ne (tgt := 48) dX6_drop_21 rfl (fun h21 => ?_) (fun h21 => ?_)
    ·
      refine J_iconst dX6_drop_48 ?_
      refine J_ireturn dX6_drop_49 rfl ?_
      have et : tDr n i = 1 := by unfold tDr; rw [if_neg (by rw [h9]; decide)]
      have en : ¬ tDr n i = 0 := by rw [et]; decide
      refine ⟨by unfold A_drop; rw [if_neg en], ?_, km_up (by decide) (km_rf)⟩
      rw [nw_f en, nw_f en, nw_f en, et]
      exact ks_tr (by decide) hS
    · exact absurd h21 (by decide)
set_option maxRecDepth 100000 in
set_option maxHeartbeats 4000000 in
theorem ev_X6_peel (P D n : Nat) (F O : Nat → Nat) (tl : Nat) (tb : Nat → Nat) (fa tr wh : Int) (M : jM) (hS : KS P D n F O tl tb fa tr wh M) : Ev 6 mX6_peel [(10, 0)] M (fun z M' => z = A_peel n F O ∧ KS P D (nw (tPe n) (n - 1) n) (nw (tPe n) (drF F (O (n - 1))) F) (nw (tPe n) (drO n O (O (n - 1))) O) tl tb fa (tPe n) 0 M' ∧ KM M M') := by
  refine Ev_of (by decide +kernel) (Nat.le_of_ble_eq_true rfl) (L := [(10, 0), (9, 0), (9, 0)]) rfl ?_
  have hR := hS.1
  have hn12 := KR.hn hR
  have hP7 := KR.hP hR
  have hD5 := KR.hD hR
  have h2P : 2 ^ P ≤ 128 := Nat.pow_le_pow_right (n := 2) (by decide) hP7
  have h2p := Nat.two_pow_pos P
  refine J_aload_n dX6_peel_0 rfl ?_
  refine J_callViQ (cl := mX6_refusesEmpty) [] [] dX6_peel_1 mlX6_146 cvX6_refusesEmpty rfl rfl rfl rfl rfl (by decide) (Nat.le_of_ble_eq_true rfl) rfl (ev_X6_refusesEmpty P D n F O M hR) ?_
  refine J_ifn_ne (b := bT n) (tgt := 31) dX6_peel_4 rfl (fun h4 => ?_) (fun h4 => ?_)
  ·
    refine J_iconst dX6_peel_31 ?_
    refine J_ireturn dX6_peel_32 rfl ?_
    have et : tPe n = 1 := by unfold tPe; rw [if_neg (by rw [h4]; decide)]
    have en : ¬ tPe n = 0 := by rw [et]; decide
    refine ⟨by unfold A_peel; rw [if_neg en], ?_, km_up (by decide) (km_rf)⟩
    rw [nw_f en, nw_f en, nw_f en, et, u1_f h4]
    exact ks_tr (by decide) hS
  ·
    refine J_aload_n dX6_peel_7 rfl ?_
    refine J_aload_n dX6_peel_8 rfl ?_
    refine J_getR dX6_peel_9 flX6_19 rfl rfl ?_
    refine J_getI dX6_peel_12 flX6_84 rfl rfl (J_top (v := ((n : Nat) : Int)) (KR.gn (kr_up (by decide) hR)) ?_)
    refine J_iconst dX6_peel_15 ?_
    refine J_icmp_gt (tgt := 23) dX6_peel_16 rfl (j_R (by omega)) (by decide) (fun h16 => ?_) (fun h16 => ?_)
    ·
      refine J_iconst dX6_peel_23 ?_
      refine J_iconst dX6_peel_24 ?_
      refine J_callViQ (cl := mX6_refused) [(0, ((Bool.toNat (false) : Nat) : Int)), (0, 5)] [] dX6_peel_25 mlX6_66 cvX6_refused rfl rfl rfl rfl rfl (by decide) (Nat.le_of_ble_eq_true rfl) rfl (ev_X6_refusedF 5 (j_up M 0 6 (u1 (bT n)))) ?_
      refine J_ifb_eq (tgt := 33) dX6_peel_28 rfl (fun h28 => ?_) (fun h28 => ?_)
      ·
        refine J_aload_n dX6_peel_33 rfl ?_
        refine J_getR dX6_peel_34 flX6_26 rfl rfl ?_
        refine J_getR dX6_peel_37 flX6_174 rfl rfl ?_
        refine J_aload_n dX6_peel_40 rfl ?_
        refine J_getR dX6_peel_41 flX6_19 rfl rfl ?_
        refine J_getI dX6_peel_44 flX6_84 rfl rfl (J_top (v := ((n : Nat) : Int)) (KR.gn (kr_up (by decide) (kr_up (by decide) hR))) ?_)
        refine J_iconst dX6_peel_47 ?_
        refine J_isub dX6_peel_48 (J_top (v := (((n - 1) : Nat) : Int)) (by omega) ?_)
        refine J_iald dX6_peel_49 rfl (by decide) (KR.ix hR (by omega)) (J_top (v := (((O (n - 1)) : Nat) : Int)) (KR.gO (kr_up (by decide) (kr_up (by decide) hR)) (by omega)) ?_)
        refine J_istore_n (L' := [(10, 0), (0, (((O (n - 1)) : Nat) : Int)), (9, 0)]) dX6_peel_50 (by decide) rfl rfl ?_
        refine J_aload_n dX6_peel_51 rfl ?_
        refine J_getR dX6_peel_52 flX6_19 rfl rfl ?_
        refine J_getR dX6_peel_55 flX6_118 rfl rfl ?_
        refine J_iload_n dX6_peel_58 rfl ?_
        refine J_iald dX6_peel_59 rfl (by decide) (KR.ix hR (KR.ob hR (by omega))) (J_top (v := (((F (O (n - 1))) : Nat) : Int)) (KR.gF (kr_up (by decide) (kr_up (by decide) hR)) (KR.ob hR (by omega))) ?_)
        refine J_istore_n (L' := [(10, 0), (0, (((O (n - 1)) : Nat) : Int)), (0, (((F (O (n - 1))) : Nat) : Int))]) dX6_peel_60 (by decide) rfl rfl ?_
        refine J_aload_n dX6_peel_61 rfl ?_
        refine J_iload_n dX6_peel_62 rfl ?_
        refine J_callVv (cl := mX6_takeAway) [(0, (((O (n - 1)) : Nat) : Int))] [] dX6_peel_63 mlX6_297 cvX6_takeAway rfl rfl rfl rfl rfl (by decide) (Nat.le_of_ble_eq_true rfl) rfl (ev_X6_takeAway P D n F O (j_up (j_up M 0 6 (u1 (bT n))) 0 6 0) (kr_up (by decide) (kr_up (by decide) hR)) (O (n - 1)) (KR.ob hR (by omega)) (by omega)) (fun Ma hq63 => ?_)
        obtain ⟨a1, a2, a3, a4⟩ := hq63
        refine J_iload_n dX6_peel_66 rfl ?_
        refine J_ireturn dX6_peel_67 rfl ?_
        have et : tPe n = 0 := by unfold tPe; rw [if_pos h4, if_neg (by omega)]
        refine ⟨by unfold A_peel; rw [if_pos et], ?_, km_tr (km_up (by decide) (km_up (by decide) (km_rf))) (km_ch a1 (by decide))⟩
        rw [nw_t et, nw_t et, nw_t et, et]
        exact ks_rm hS (Ch_up (by decide) (Ch_up (by decide) Ch_rf)) j_up_eq (by decide) a1 a2 a3 a4
      · exact absurd h28 (by decide)
    ·
      refine J_iconst dX6_peel_19 ?_
      refine J_goto (tgt := 24) dX6_peel_20 rfl ?_
      refine J_iconst dX6_peel_24 ?_
      refine J_callViQ (cl := mX6_refused) [(0, ((Bool.toNat (true) : Nat) : Int)), (0, 5)] [] dX6_peel_25 mlX6_66 cvX6_refused rfl rfl rfl rfl rfl (by decide) (Nat.le_of_ble_eq_true rfl) rfl (ev_X6_refusedT 5 (j_up M 0 6 (u1 (bT n)))) ?_
      refine J_ifb_eq (tgt := 33) dX6_peel_28 rfl (fun h28 => ?_) (fun h28 => ?_)
      · exact absurd h28 (by decide)
      ·
        refine J_iconst dX6_peel_31 ?_
        refine J_ireturn dX6_peel_32 rfl ?_
        have et : tPe n = 5 := by have := bT_n h4; unfold tPe; rw [if_pos h4, if_pos (by omega)]
        have en : ¬ tPe n = 0 := by rw [et]; decide
        refine ⟨by unfold A_peel; rw [if_neg en], ?_, km_up (by decide) (km_up (by decide) (km_rf))⟩
        rw [nw_f en, nw_f en, nw_f en, et, j_up2]
        exact ks_tr (by decide) hS
set_option maxRecDepth 100000 in
set_option maxHeartbeats 4000000 in
theorem ev_X6_move (P D n : Nat) (F O : Nat → Nat) (tl : Nat) (tb : Nat → Nat) (fa tr wh : Int) (M : jM) (hS : KS P D n F O tl tb fa tr wh M) (i : Int) (hi : -2147483648 ≤ i ∧ i < 2147483648) (j : Int) (hj : -2147483648 ≤ j ∧ j < 2147483648) : Ev 5 mX6_move [(10, 0), (0, i), (0, j)] M (fun z M' => z = A_move n F O i j ∧ KS P D n F (nw (u1 (bV2 n i j)) (mvO O i.toNat j.toNat) O) tl tb fa (u1 (bV2 n i j)) 0 M' ∧ KM M M') := by
  refine Ev_of (by decide +kernel) (Nat.le_of_ble_eq_true rfl) (L := [(10, 0), (0, i), (0, j)]) rfl ?_
  have hR := hS.1
  have hn12 := KR.hn hR
  have hP7 := KR.hP hR
  have hD5 := KR.hD hR
  have h2P : 2 ^ P ≤ 128 := Nat.pow_le_pow_right (n := 2) (by decide) hP7
  have h2p := Nat.two_pow_pos P
  refine J_aload_n dX6_move_0 rfl ?_
  refine J_aload_n dX6_move_1 rfl ?_
  refine J_getR dX6_move_2 flX6_26 rfl rfl ?_
  refine J_aload_n dX6_move_5 rfl ?_
  refine J_getR dX6_move_6 flX6_19 rfl rfl ?_
  refine J_iload_n dX6_move_9 rfl ?_
  refine J_callViQ (cl := mX3_isPlace) [(14, 0), (0, i)] [(10, 0)] dX6_move_10 mlX6_225 cvX3_isPlace rfl rfl rfl rfl rfl (by decide) (Nat.le_of_ble_eq_true rfl) rfl (ev_X3_isPlace P D n F O M hR i (by omega)) ?_
  refine J_ifb_eq (tgt := 31) dX6_move_13 rfl (fun h13 => ?_) (fun h13 => ?_)
  ·
    refine J_iconst dX6_move_31 ?_
    refine J_goto (tgt := 36) dX6_move_32 rfl ?_
    refine J_iconst dX6_move_36 ?_
    refine J_callViQ (cl := mX6_refused) [(0, ((Bool.toNat (true) : Nat) : Int)), (0, 1)] [] dX6_move_37 mlX6_66 cvX6_refused rfl rfl rfl rfl rfl (by decide) (Nat.le_of_ble_eq_true rfl) rfl (ev_X6_refusedT 1 M) ?_
    refine J_ifb_eq (tgt := 45) dX6_move_40 rfl (fun h40 => ?_) (fun h40 => ?_)
    · exact absurd h40 (by decide)
    ·
      refine J_iconst dX6_move_43 ?_
      refine J_ireturn dX6_move_44 rfl ?_
      have e : bV2 n i j = false := by unfold bV2; rw [h13]; rfl
      have en : ¬ u1 (bV2 n i j) = 0 := by rw [u1_f e]; decide
      exact ⟨by unfold A_move; rw [if_neg (by rw [e]; decide)], by rw [nw_f en, u1_f e]; exact ks_tr (by decide) hS, km_up (by decide) (km_rf)⟩
  ·
    refine J_aload_n dX6_move_16 rfl ?_
    refine J_getR dX6_move_17 flX6_26 rfl rfl ?_
    refine J_aload_n dX6_move_20 rfl ?_
    refine J_getR dX6_move_21 flX6_19 rfl rfl ?_
    refine J_iload_n dX6_move_24 rfl ?_
    refine J_callViQ (cl := mX3_isPlace) [(14, 0), (0, j)] [(10, 0)] dX6_move_25 mlX6_225 cvX3_isPlace rfl rfl rfl rfl rfl (by decide) (Nat.le_of_ble_eq_true rfl) rfl (ev_X3_isPlace P D n F O M hR j (by omega)) ?_
    refine J_ifb_ne (tgt := 35) dX6_move_28 rfl (fun h28 => ?_) (fun h28 => ?_)
    ·
      refine J_iconst dX6_move_35 ?_
      refine J_iconst dX6_move_36 ?_
      refine J_callViQ (cl := mX6_refused) [(0, ((Bool.toNat (false) : Nat) : Int)), (0, 1)] [] dX6_move_37 mlX6_66 cvX6_refused rfl rfl rfl rfl rfl (by decide) (Nat.le_of_ble_eq_true rfl) rfl (ev_X6_refusedF 1 M) ?_
      refine J_ifb_eq (tgt := 45) dX6_move_40 rfl (fun h40 => ?_) (fun h40 => ?_)
      ·
        refine J_aload_n dX6_move_45 rfl ?_
        refine J_getR dX6_move_46 flX6_26 rfl rfl ?_
        refine J_iload_n dX6_move_49 rfl (J_top (v := (((Int.toNat i) : Nat) : Int)) (by have := bI_n h13; omega) ?_)
        refine J_iload_n dX6_move_50 rfl (J_top (v := (((Int.toNat j) : Nat) : Int)) (by have := bI_n h28; omega) ?_)
        refine J_callVv (cl := mX3_carry) [(0, (((Int.toNat i) : Nat) : Int)), (0, (((Int.toNat j) : Nat) : Int))] [] dX6_move_51 mlX6_300 cvX3_carry rfl rfl rfl rfl rfl (by decide) (Nat.le_of_ble_eq_true rfl) rfl (ev_X3_carry P D n F O (j_up M 0 6 0) (kr_up (by decide) hR) (Int.toNat i) (Int.toNat j) (by have := bI_n h13; omega) (by have := bI_n h28; omega)) (fun Ma hq51 => ?_)
        obtain ⟨a1, a2⟩ := hq51
        refine J_aload_n dX6_move_54 rfl ?_
        refine J_getR dX6_move_55 flX6_26 rfl rfl ?_
        refine J_aload_n dX6_move_58 rfl ?_
        refine J_getR dX6_move_59 flX6_19 rfl rfl ?_
        refine J_callViQ (cl := mX3_goodStart) [(14, 0)] [] dX6_move_62 mlX6_185 cvX3_goodStart rfl rfl rfl rfl rfl (by decide) (Nat.le_of_ble_eq_true rfl) rfl (ev_X3_goodStart P D n F (mvO O (Int.toNat i) (Int.toNat j)) Ma a1) ?_
        refine J_ireturn dX6_move_65 rfl ?_
        have e : bV2 n i j = true := by unfold bV2; rw [h13, h28]; rfl
        exact ⟨by unfold A_move; rw [if_pos e], by rw [nw_t (u1_t e), u1_t e]; exact ks_od (ks_tr (by decide) hS) a2 a1, km_tr (km_up (by decide) (km_rf)) (km_ch a2 (by decide))⟩
      · exact absurd h40 (by decide)
    ·
      refine J_iconst dX6_move_31 ?_
      refine J_goto (tgt := 36) dX6_move_32 rfl ?_
      refine J_iconst dX6_move_36 ?_
      refine J_callViQ (cl := mX6_refused) [(0, ((Bool.toNat (true) : Nat) : Int)), (0, 1)] [] dX6_move_37 mlX6_66 cvX6_refused rfl rfl rfl rfl rfl (by decide) (Nat.le_of_ble_eq_true rfl) rfl (ev_X6_refusedT 1 M) ?_
      refine J_ifb_eq (tgt := 45) dX6_move_40 rfl (fun h40 => ?_) (fun h40 => ?_)
      · exact absurd h40 (by decide)
      ·
        refine J_iconst dX6_move_43 ?_
        refine J_ireturn dX6_move_44 rfl ?_
        have e : bV2 n i j = false := by unfold bV2; rw [h28, Bool.and_false]
        have en : ¬ u1 (bV2 n i j) = 0 := by rw [u1_f e]; decide
        exact ⟨by unfold A_move; rw [if_neg (by rw [e]; decide)], by rw [nw_f en, u1_f e]; exact ks_tr (by decide) hS, km_up (by decide) (km_rf)⟩
