/-- what ranks are told from -/
def HG (L : Nat) (G : Nat → Bool) (M : jM) : Prop := CC M ∧ IK L G M ∧ L < 128 ∧ Cl G ∧ ∀ s, L < s → s < 128 → G s = false
theorem cc_ch {M M' : jM} {ks : List Nat} (hc : Ch ks M M') (hk : 12 ∉ ks) (h : CC M) : CC M' := by
  intro t ht
  rw [hc 12 hk]
  exact h t ht
theorem hg_ch {L : Nat} {G : Nat → Bool} {M M' : jM} {ks : List Nat} (hc : Ch ks M M') (hk : 12 ∉ ks ∧ 13 ∉ ks) (h2 : M' 11 2 = M 11 2) (h : HG L G M) : HG L G M' := by
  refine ⟨cc_ch hc hk.1 h.1, ⟨by rw [h2]; exact h.2.1.1, fun s hs => ?_⟩, h.2.2⟩
  rw [hc 13 hk.2]
  exact h.2.1.2 s hs
theorem cnt_L {L : Nat} {G : Nat → Bool} (hL : L < 128) (hout : ∀ s, L < s → s < 128 → G s = false) (q : Nat → Bool) : cntN (L + 1) (fun s => G s && q s) = cntN 128 (fun s => G s && q s) := by
  symm
  exact cntN_beyond (by omega) (fun s h1 h2 => by rw [hout s (by omega) h2]; rfl)
theorem hg_faces {P D n : Nat} {F O : Nat → Nat} {M M' : jM} (h : KR P D n F O M) (hC : CC M) (hc : Ch [11, 13] M M') (hi : IK (2 ^ P - 1) (isF n F) M') : HG (2 ^ P - 1) (isF n F) M' := by
  have h1 := Nat.pow_le_pow_right (n := 2) (by decide) h.hP
  have h2 := Nat.two_pow_pos P
  refine ⟨cc_ch hc (by decide) hC, hi, by omega, isF_cl _ _, fun s hs _ => ?_⟩
  cases e : isF n F s
  · rfl
  · have := isF_lt h.wf e
    omega
theorem hg_link {P D n : Nat} {F O : Nat → Nat} {M M' : jM} {x : Nat} (h : KR P D n F O M) (hC : CC M) (hc : Ch [11, 13] M M') (hi : IK (2 ^ P - 1) (lnB n F x) M') : HG (2 ^ P - 1) (lkF n F x) M' := by
  have h1 := Nat.pow_le_pow_right (n := 2) (by decide) h.hP
  have h2 := Nat.two_pow_pos P
  refine ⟨cc_ch hc (by decide) hC, ik_congr hi (fun s _ => ln_eq n F x s), by omega, isF_cl _ _, fun s hs _ => ?_⟩
  cases e : lkF n F x s
  · rfl
  · have := lk_out h.wf e
    omega
theorem hg_dual {P D n : Nat} {F O : Nat → Nat} {M M' : jM} (h : KR P D n F O M) (hC : CC M) (hc : Ch [11, 13] M M') (hi : IK (2 ^ P - 1) (duF P n F) M') : HG (2 ^ P - 1) (duF P n F) M' := by
  have h1 := Nat.pow_le_pow_right (n := 2) (by decide) h.hP
  have h2 := Nat.two_pow_pos P
  refine ⟨cc_ch hc (by decide) hC, hi, by omega, isF_cl _ _, fun s hs _ => ?_⟩
  cases e : duF P n F s
  · rfl
  · have := du_out e
    omega
theorem rkN_0 (G : Nat → Bool) : rkN G 0 = 0 := rfl
def cyS (F : Nat → Nat) (pl : Nat) : Nat → Nat → Nat × Nat
  | 0 => fun _ => (0, 0)
  | i + 1 => if pl.testBit i = true then stT (cyS F pl i) (stF (cyS F pl i) 35 (crN (F i) 7) (2 ^ i)) else cyS F pl i
def cyN (n : Nat) (F : Nat → Nat) (one pl : Nat) : Nat := (stF (cyS F pl n) 35 (crN (F one) 7) (2 ^ one)).2.2.2
set_option maxRecDepth 100000 in
set_option maxHeartbeats 4000000 in
theorem ev_X1_rankOf_L15 (L : Nat) (G : Nat → Bool) (k : Nat) (hk : k ≤ 8) (M : jM) (hG : HG L G M) (hk1 : 1 ≤ k) : ∀ (fu : Nat) (M1 : jM) (s : Nat) (f1 : Ch [11, 14, 15] M M1) (f0 : M1 11 2 = ((L : Nat) : Int)) (f2 : HS (rkS G k s).1 M1) (f3 : s ≤ L + 1) (hfu : L + 1 - s < fu), J none 1 mX1_rankOf 15 [(21, 0), (0, ((k : Nat) : Int)), (0, (((rkS G k s).2 : Nat) : Int)), (0, ((s : Nat) : Int))] [] M1 (j_ret mX1_rankOf (fun z M' => z = ((rkN G k : Nat) : Int) ∧ Ch [11, 14, 15] M M' ∧ M' 11 2 = M 11 2)) := by
  intro fu
  induction fu with
  | zero => intro M1 s f1 f0 f2 f3 hfu; exact absurd hfu (Nat.not_lt_zero _)
  | succ fu ih =>
    intro M1 s f1 f0 f2 f3 hfu
    have hL128 := hG.2.2.1
    refine J_iload_n dX1_rankOf_15 rfl ?_
    refine J_aload_n dX1_rankOf_16 rfl ?_
    refine J_getI dX1_rankOf_17 flX1_42 rfl rfl (J_top (v := ((L : Nat) : Int)) f0 ?_)
    refine J_icmp_gt (tgt := 62) dX1_rankOf_20 rfl (j_R (by omega)) (j_R (by have := hG.2.2.1; omega)) (fun h20 => ?_) (fun h20 => ?_)
    ·
      refine J_iload_n dX1_rankOf_62 rfl ?_
      refine J_ireturn dX1_rankOf_63 rfl ?_
      have : s = L + 1 := by omega
      subst this
      exact ⟨by rw [rk_eq hG.2.2.2.1 (by omega) hL128 hG.2.2.2.2], f1, f0.trans hG.2.1.1.symm⟩
    ·
      refine J_aload_n dX1_rankOf_23 rfl ?_
      refine J_getR dX1_rankOf_24 flX1_15 rfl rfl ?_
      refine J_iload_n dX1_rankOf_27 rfl ?_
      refine J_bald dX1_rankOf_28 rfl (by decide) (by have := hG.2.2.1; omega) (J_top (v := ((Bool.toNat (G s) : Nat) : Int)) (by rw [f1 13 (by decide)]; exact hG.2.1.2 s (by omega)) ?_)
      refine J_ifb_eq (tgt := 56) dX1_rankOf_29 rfl (fun h29 => ?_) (fun h29 => ?_)
      ·
        have hq : nmQ G k s = false := by unfold nmQ; rw [h29]; rfl
        refine J_eq (L' := [(21, 0), (0, ((k : Nat) : Int)), (0, (((rkS G k (s + 1)).2 : Nat) : Int)), (0, ((s : Nat) : Int))]) (by rw [rkS_f hq]) rfl rfl ?_
        refine J_iinc (v := (((s + 1) : Nat) : Int)) (L' := [(21, 0), (0, ((k : Nat) : Int)), (0, (((rkS G k (s + 1)).2 : Nat) : Int)), (0, (((s + 1) : Nat) : Int))]) dX1_rankOf_56 rfl (by omega) (by decide) rfl rfl ?_
        refine J_goto (tgt := 15) dX1_rankOf_59 rfl ?_
        exact ih _ _ (by exact f1) (by exact f0) (by rw [rkS_f hq]; exact f2) (by omega) (by omega)
      ·
        refine J_iload_n dX1_rankOf_32 rfl ?_
        refine J_callSiQ (cl := mJ6_bitCount_0f7a4) [(0, ((s : Nat) : Int))] [] dX1_rankOf_33 mlX1_26 csJ6_bitCount_0f7a4 rfl rfl (by decide) (Nat.le_of_ble_eq_true rfl) rfl (ev_bitCount s (by omega) M1) ?_
        refine J_iload_n dX1_rankOf_36 rfl ?_
        refine J_icmp_ne (tgt := 56) dX1_rankOf_37 rfl (j_R (popc_lt (by omega))) (j_R (by omega)) (fun h37 => ?_) (fun h37 => ?_)
        ·
          have hq : nmQ G k s = false := by unfold nmQ; rw [beq_eq_false_iff_ne.mpr (by omega), Bool.and_false]
          refine J_eq (L' := [(21, 0), (0, ((k : Nat) : Int)), (0, (((rkS G k (s + 1)).2 : Nat) : Int)), (0, ((s : Nat) : Int))]) (by rw [rkS_f hq]) rfl rfl ?_
          refine J_iinc (v := (((s + 1) : Nat) : Int)) (L' := [(21, 0), (0, ((k : Nat) : Int)), (0, (((rkS G k (s + 1)).2 : Nat) : Int)), (0, (((s + 1) : Nat) : Int))]) dX1_rankOf_56 rfl (by omega) (by decide) rfl rfl ?_
          refine J_goto (tgt := 15) dX1_rankOf_59 rfl ?_
          exact ih _ _ (by exact f1) (by exact f0) (by rw [rkS_f hq]; exact f2) (by omega) (by omega)
        ·
          refine J_aload_n dX1_rankOf_40 rfl ?_
          refine J_aload_n dX1_rankOf_41 rfl ?_
          refine J_iload_n dX1_rankOf_42 rfl ?_
          refine J_callVlQ (cl := mX1_rowOf) [(0, ((s : Nat) : Int))] [(21, 0)] dX1_rankOf_43 mlX1_56 cvX1_rowOf rfl rfl rfl rfl rfl (by decide) (Nat.le_of_ble_eq_true rfl) rfl (ev_X1_rowOf s (by omega) M1 (cc_ch f1 (by decide) hG.1)) ?_
          refine J_iconst dX1_rankOf_46 ?_
          refine J_callVi (cl := mX1_settle) [(1, (((crN s 7) : Nat) : Int)), (0, 0)] [] dX1_rankOf_47 mlX1_60 cvX1_settle rfl rfl rfl rfl rfl (by decide) (Nat.le_of_ble_eq_true rfl) rfl (ev_X1_settle (rkS G k s).1 (crN s 7) 0 (by have := crN_lt (x := s) (by omega) 7; omega) (by decide) M1 f2) (fun z47 Mb hq47 => ?_)
          obtain ⟨rfl, b1, b2, b3, b4, b5⟩ := hq47
          refine J_ifb_eq (tgt := 56) dX1_rankOf_50 rfl (fun h50 => ?_) (fun h50 => ?_)
          ·
            have hq : nmQ G k s = true := by unfold nmQ; rw [h29, beq_iff_eq.mpr (by omega)]; rfl
            refine J_eq (L' := [(21, 0), (0, ((k : Nat) : Int)), (0, (((rkS G k (s + 1)).2 : Nat) : Int)), (0, ((s : Nat) : Int))]) (by rw [rkS_t hq]; dsimp only; rw [h50]; rfl) rfl rfl ?_
            refine J_iinc (v := (((s + 1) : Nat) : Int)) (L' := [(21, 0), (0, ((k : Nat) : Int)), (0, (((rkS G k (s + 1)).2 : Nat) : Int)), (0, (((s + 1) : Nat) : Int))]) dX1_rankOf_56 rfl (by omega) (by decide) rfl rfl ?_
            refine J_goto (tgt := 15) dX1_rankOf_59 rfl ?_
            exact ih _ _ (by exact Ch_tr f1 b4) (by rw [b3]; exact f0) (by rw [rkS_t hq]; exact b1) (by omega) (by omega)
          ·
            have hq : nmQ G k s = true := by unfold nmQ; rw [h29, beq_iff_eq.mpr (by omega)]; rfl
            refine J_iinc (v := ((((rkS G k s).2 + 1) : Nat) : Int)) (L' := [(21, 0), (0, ((k : Nat) : Int)), (0, ((((rkS G k s).2 + 1) : Nat) : Int)), (0, ((s : Nat) : Int))]) dX1_rankOf_53 rfl (by omega) (by decide) rfl rfl ?_
            refine J_eq (L' := [(21, 0), (0, ((k : Nat) : Int)), (0, (((rkS G k (s + 1)).2 : Nat) : Int)), (0, ((s : Nat) : Int))]) (by rw [rkS_t hq]; dsimp only; rw [h50]; rfl) rfl rfl ?_
            refine J_iinc (v := (((s + 1) : Nat) : Int)) (L' := [(21, 0), (0, ((k : Nat) : Int)), (0, (((rkS G k (s + 1)).2 : Nat) : Int)), (0, (((s + 1) : Nat) : Int))]) dX1_rankOf_56 rfl (by omega) (by decide) rfl rfl ?_
            refine J_goto (tgt := 15) dX1_rankOf_59 rfl ?_
            exact ih _ _ (by exact Ch_tr f1 b4) (by rw [b3]; exact f0) (by rw [rkS_t hq]; exact b1) (by omega) (by omega)
set_option maxRecDepth 100000 in
set_option maxHeartbeats 4000000 in
theorem ev_X1_rankOf (L : Nat) (G : Nat → Bool) (k : Nat) (hk : k ≤ 8) (M : jM) (hG : HG L G M) : Ev 1 mX1_rankOf [(21, 0), (0, ((k : Nat) : Int))] M (fun z M' => z = ((rkN G k : Nat) : Int) ∧ Ch [11, 14, 15] M M' ∧ M' 11 2 = M 11 2) := by
  refine Ev_of (by decide +kernel) (Nat.le_of_ble_eq_true rfl) (L := [(21, 0), (0, ((k : Nat) : Int)), (9, 0), (9, 0)]) rfl ?_
  have hL128 := hG.2.2.1
  refine J_iload_n dX1_rankOf_0 rfl ?_
  refine J_iconst dX1_rankOf_1 ?_
  refine J_icmp_ge (tgt := 7) dX1_rankOf_2 rfl (j_R (by omega)) (by decide) (fun h2 => ?_) (fun h2 => ?_)
  ·
    refine J_aload_n dX1_rankOf_7 rfl ?_
    refine J_callVv (cl := mX1_clear) [] [] dX1_rankOf_8 mlX1_53 cvX1_clear rfl rfl rfl rfl rfl (by decide) (Nat.le_of_ble_eq_true rfl) rfl (ev_X1_clear M) (fun Ma hq8 => ?_)
    obtain ⟨a1, a2⟩ := hq8
    refine J_iconst dX1_rankOf_11 ?_
    refine J_istore_n (L' := [(21, 0), (0, ((k : Nat) : Int)), (0, 0), (9, 0)]) dX1_rankOf_12 (by decide) rfl rfl ?_
    refine J_eq (L' := [(21, 0), (0, ((k : Nat) : Int)), (0, (((rkS G k 0).2 : Nat) : Int)), (9, 0)]) rfl rfl rfl ?_
    refine J_iconst dX1_rankOf_13 ?_
    refine J_istore_n (L' := [(21, 0), (0, ((k : Nat) : Int)), (0, (((rkS G k 0).2 : Nat) : Int)), (0, 0)]) dX1_rankOf_14 (by decide) rfl rfl ?_
    refine J_eq (L' := [(21, 0), (0, ((k : Nat) : Int)), (0, (((rkS G k 0).2 : Nat) : Int)), (0, ((0 : Nat) : Int))]) rfl rfl rfl ?_
    exact ev_X1_rankOf_L15 L G k hk M hG (by omega) _ _ _ (by exact Ch_mo a1 (by decide)) (by rw [a1 11 (by decide)]; exact hG.2.1.1) (by exact a2) (by omega) (Nat.lt_succ_self _)
  ·
    refine J_iconst dX1_rankOf_5 ?_
    refine J_ireturn dX1_rankOf_6 rfl ?_
    have : k = 0 := by omega
    subst this
    exact ⟨by rw [rkN_0]; rfl, Ch_rf, rfl⟩
set_option maxRecDepth 100000 in
set_option maxHeartbeats 4000000 in
theorem ev_X1_countOf_L4 (L : Nat) (G : Nat → Bool) (k : Int) (hk : -2147483648 ≤ k ∧ k < 2147483648) (M : jM) (hG : HG L G M)  : ∀ (fu : Nat) (c s : Nat) (h1 : c = cntN s (fun s => G s && decide ((popc s : Int) = k))) (h2 : s ≤ L + 1) (hfu : L + 1 - s < fu), J none 1 mX1_countOf 4 [(21, 0), (0, k), (0, ((c : Nat) : Int)), (0, ((s : Nat) : Int))] [] M (j_ret mX1_countOf (fun z M' => z = ((cntN 128 (fun s => G s && decide ((popc s : Int) = k)) : Nat) : Int) ∧ M' = M)) := by
  intro fu
  induction fu with
  | zero => intro c s h1 h2 hfu; exact absurd hfu (Nat.not_lt_zero _)
  | succ fu ih =>
    intro c s h1 h2 hfu
    have hL128 := hG.2.2.1
    refine J_iload_n dX1_countOf_4 rfl ?_
    refine J_aload_n dX1_countOf_5 rfl ?_
    refine J_getI dX1_countOf_6 flX1_42 rfl rfl (J_top (v := ((L : Nat) : Int)) hG.2.1.1 ?_)
    refine J_icmp_gt (tgt := 38) dX1_countOf_9 rfl (j_R (by omega)) (j_R (by have := hG.2.2.1; omega)) (fun h9 => ?_) (fun h9 => ?_)
    ·
      refine J_iload_n dX1_countOf_38 rfl ?_
      refine J_ireturn dX1_countOf_39 rfl ?_
      have : s = L + 1 := by omega
      subst this
      exact ⟨by rw [h1, cnt_L hL128 hG.2.2.2.2], rfl⟩
    ·
      refine J_aload_n dX1_countOf_12 rfl ?_
      refine J_getR dX1_countOf_13 flX1_15 rfl rfl ?_
      refine J_iload_n dX1_countOf_16 rfl ?_
      refine J_bald dX1_countOf_17 rfl (by decide) (by have := hG.2.2.1; omega) (J_top (v := ((Bool.toNat (G s) : Nat) : Int)) (hG.2.1.2 s (by omega)) ?_)
      refine J_ifb_eq (tgt := 32) dX1_countOf_18 rfl (fun h18 => ?_) (fun h18 => ?_)
      ·
        refine J_iinc (v := (((s + 1) : Nat) : Int)) (L' := [(21, 0), (0, k), (0, ((c : Nat) : Int)), (0, (((s + 1) : Nat) : Int))]) dX1_countOf_32 rfl (by omega) (by decide) rfl rfl ?_
        refine J_goto (tgt := 4) dX1_countOf_35 rfl ?_
        exact ih _ _ (by rw [cntN_f (by simp [h18]), h1]) (by omega) (by omega)
      ·
        refine J_iload_n dX1_countOf_21 rfl ?_
        refine J_callSiQ (cl := mJ6_bitCount_0f7a4) [(0, ((s : Nat) : Int))] [] dX1_countOf_22 mlX1_26 csJ6_bitCount_0f7a4 rfl rfl (by decide) (Nat.le_of_ble_eq_true rfl) rfl (ev_bitCount s (by omega) M) ?_
        refine J_iload_n dX1_countOf_25 rfl ?_
        refine J_icmp_ne (tgt := 32) dX1_countOf_26 rfl (j_R (popc_lt (by omega))) (by omega) (fun h26 => ?_) (fun h26 => ?_)
        ·
          refine J_iinc (v := (((s + 1) : Nat) : Int)) (L' := [(21, 0), (0, k), (0, ((c : Nat) : Int)), (0, (((s + 1) : Nat) : Int))]) dX1_countOf_32 rfl (by omega) (by decide) rfl rfl ?_
          refine J_goto (tgt := 4) dX1_countOf_35 rfl ?_
          exact ih _ _ (by have a2 : ¬ (popc s : Int) = k := (by omega); rw [cntN_f (by simp [a2]), h1]) (by omega) (by omega)
        ·
          refine J_iinc (v := (((c + 1) : Nat) : Int)) (L' := [(21, 0), (0, k), (0, (((c + 1) : Nat) : Int)), (0, ((s : Nat) : Int))]) dX1_countOf_29 rfl (by omega) (by decide) rfl rfl ?_
          refine J_iinc (v := (((s + 1) : Nat) : Int)) (L' := [(21, 0), (0, k), (0, (((c + 1) : Nat) : Int)), (0, (((s + 1) : Nat) : Int))]) dX1_countOf_32 rfl (by omega) (by decide) rfl rfl ?_
          refine J_goto (tgt := 4) dX1_countOf_35 rfl ?_
          exact ih _ _ (by have a2 : (popc s : Int) = k := (by omega); rw [cntN_t (by simp [h18, a2]), h1]) (by omega) (by omega)
set_option maxRecDepth 100000 in
set_option maxHeartbeats 4000000 in
theorem ev_X1_countOf (L : Nat) (G : Nat → Bool) (k : Int) (hk : -2147483648 ≤ k ∧ k < 2147483648) (M : jM) (hG : HG L G M) : Ev 1 mX1_countOf [(21, 0), (0, k)] M (fun z M' => z = ((cntN 128 (fun s => G s && decide ((popc s : Int) = k)) : Nat) : Int) ∧ M' = M) := by
  refine Ev_of (by decide +kernel) (Nat.le_of_ble_eq_true rfl) (L := [(21, 0), (0, k), (9, 0), (9, 0)]) rfl ?_
  have hL128 := hG.2.2.1
  refine J_iconst dX1_countOf_0 ?_
  refine J_istore_n (L' := [(21, 0), (0, k), (0, 0), (9, 0)]) dX1_countOf_1 (by decide) rfl rfl ?_
  refine J_iconst dX1_countOf_2 ?_
  refine J_istore_n (L' := [(21, 0), (0, k), (0, 0), (0, 0)]) dX1_countOf_3 (by decide) rfl rfl ?_
  refine J_eq (L' := [(21, 0), (0, k), (0, ((0 : Nat) : Int)), (0, ((0 : Nat) : Int))]) rfl rfl rfl ?_
  exact ev_X1_countOf_L4 L G k hk M hG  _ _ _ (by rfl) (by omega) (Nat.lt_succ_self _)
set_option maxRecDepth 100000 in
set_option maxHeartbeats 4000000 in
theorem ev_X1_roundOf (L : Nat) (G : Nat → Bool) (k : Nat) (hk : k ≤ 7) (M : jM) (hG : HG L G M) : Ev 2 mX1_roundOf [(21, 0), (0, ((k : Nat) : Int))] M (fun z M' => z = rdN G k ∧ Ch [11, 14, 15] M M' ∧ M' 11 2 = M 11 2) := by
  refine Ev_of (by decide +kernel) (Nat.le_of_ble_eq_true rfl) (L := [(21, 0), (0, ((k : Nat) : Int))]) rfl ?_
  refine J_aload_n dX1_roundOf_0 rfl ?_
  refine J_iload_n dX1_roundOf_1 rfl ?_
  refine J_callViQ (cl := mX1_countOf) [(0, ((k : Nat) : Int))] [] dX1_roundOf_2 mlX1_64 cvX1_countOf rfl rfl rfl rfl rfl (by decide) (Nat.le_of_ble_eq_true rfl) rfl (ev_X1_countOf L G ((k : Nat) : Int) (by omega) M hG) ?_
  refine J_aload_n dX1_roundOf_5 rfl ?_
  refine J_iload_n dX1_roundOf_6 rfl ?_
  refine J_callVi (cl := mX1_rankOf) [(0, ((k : Nat) : Int))] [(0, (((cntN 128 (fun s => G s && decide ((popc s : Int) = ((k : Nat) : Int)))) : Nat) : Int))] dX1_roundOf_7 mlX1_67 cvX1_rankOf rfl rfl rfl rfl rfl (by decide) (Nat.le_of_ble_eq_true rfl) rfl (ev_X1_rankOf L G k (by omega) M hG) (fun z7 Ma hq7 => ?_)
  obtain ⟨rfl, a1, a2⟩ := hq7
  refine J_isub dX1_roundOf_10 ?_
  refine J_aload_n dX1_roundOf_11 rfl ?_
  refine J_iload_n dX1_roundOf_12 rfl ?_
  refine J_iconst dX1_roundOf_13 ?_
  refine J_iadd dX1_roundOf_14 (J_top (v := (((k + 1) : Nat) : Int)) (by omega) ?_)
  refine J_callVi (cl := mX1_rankOf) [(0, (((k + 1) : Nat) : Int))] [(0, ((((cntN 128 (fun s => G s && decide ((popc s : Int) = ((k : Nat) : Int)))) : Nat) : Int) - (((rkN G k) : Nat) : Int)))] dX1_roundOf_15 mlX1_67 cvX1_rankOf rfl rfl rfl rfl rfl (by decide) (Nat.le_of_ble_eq_true rfl) rfl (ev_X1_rankOf L G (k + 1) (by omega) Ma (hg_ch a1 (by decide) a2 hG)) (fun z15 Mb hq15 => ?_)
  obtain ⟨rfl, b1, b2⟩ := hq15
  refine J_isub dX1_roundOf_18 ?_
  refine J_ireturn dX1_roundOf_19 rfl ?_
  exact ⟨rfl, Ch_tr a1 b1, b2.trans a2⟩
set_option maxRecDepth 100000 in
set_option maxHeartbeats 4000000 in
theorem ev_X1_isFlatLink_L11 (P D n : Nat) (F O : Nat → Nat) (M : jM) (hR : KR P D n F O M) (hC : CC M) (x : Nat) (hx : x < 128) (hxD : popc x ≤ D)  : ∀ (fu : Nat) (M1 : jM) (k : Nat) (f1 : Ch [11, 13, 14, 15] M M1) (f2 : HG (2 ^ P - 1) (lkF n F x) M1) (f3 : allN k (fun k => rdN (lkF n F x) k == 0) = true) (f4 : k ≤ D - popc x) (hfu : D - popc x - k < fu), J none 4 mX1_isFlatLink 11 [(21, 0), (14, 0), (0, ((x : Nat) : Int)), (0, (((rkN (lkF n F x) k) : Nat) : Int)), (0, ((k : Nat) : Int)), (9, 0)] [] M1 (j_ret mX1_isFlatLink (fun z M' => z = ((Bool.toNat (evB D n F x) : Nat) : Int) ∧ Ch [11, 13, 14, 15] M M')) := by
  intro fu
  induction fu with
  | zero => intro M1 k f1 f2 f3 f4 hfu; exact absurd hfu (Nat.not_lt_zero _)
  | succ fu ih =>
    intro M1 k f1 f2 f3 f4 hfu
    have hn12 := KR.hn hR
    have hP7 := KR.hP hR
    have hD5 := KR.hD hR
    have h2P : 2 ^ P ≤ 128 := Nat.pow_le_pow_right (n := 2) (by decide) hP7
    have h2p := Nat.two_pow_pos P
    refine J_iload dX1_isFlatLink_11 rfl ?_
    refine J_aload_n dX1_isFlatLink_13 rfl ?_
    refine J_getI dX1_isFlatLink_14 flX1_70 rfl rfl (J_top (v := ((D : Nat) : Int)) (KR.gD (kr_ch f1 (by decide) hR)) ?_)
    refine J_iload_n dX1_isFlatLink_17 rfl ?_
    refine J_callSiQ (cl := mJ6_bitCount_0f7a4) [(0, ((x : Nat) : Int))] [(0, ((D : Nat) : Int)), (0, ((k : Nat) : Int))] dX1_isFlatLink_18 mlX1_26 csJ6_bitCount_0f7a4 rfl rfl (by decide) (Nat.le_of_ble_eq_true rfl) rfl (ev_bitCount x (by omega) M1) ?_
    refine J_isub dX1_isFlatLink_21 (J_top (v := (((D - popc x) : Nat) : Int)) (by omega) ?_)
    refine J_icmp_ge (tgt := 59) dX1_isFlatLink_22 rfl (j_R (by omega)) (j_R (by omega)) (fun h22 => ?_) (fun h22 => ?_)
    ·
      refine J_iconst dX1_isFlatLink_59 ?_
      refine J_zreturn dX1_isFlatLink_60 rfl (Or.inr rfl) ?_
      have : k = D - popc x := by omega
      subst this
      exact ⟨bt f3, f1⟩
    ·
      refine J_aload_n dX1_isFlatLink_25 rfl ?_
      refine J_iload dX1_isFlatLink_26 rfl ?_
      refine J_iconst dX1_isFlatLink_28 ?_
      refine J_iadd dX1_isFlatLink_29 (J_top (v := (((k + 1) : Nat) : Int)) (by omega) ?_)
      refine J_callVi (cl := mX1_rankOf) [(0, (((k + 1) : Nat) : Int))] [] dX1_isFlatLink_30 mlX1_67 cvX1_rankOf rfl rfl rfl rfl rfl (by decide) (Nat.le_of_ble_eq_true rfl) rfl (ev_X1_rankOf (2 ^ P - 1) (lkF n F x) (k + 1) (by omega) M1 f2) (fun z30 Mb hq30 => ?_)
      obtain ⟨rfl, b1, b2⟩ := hq30
      refine J_istore (L' := [(21, 0), (14, 0), (0, ((x : Nat) : Int)), (0, (((rkN (lkF n F x) k) : Nat) : Int)), (0, ((k : Nat) : Int)), (0, (((rkN (lkF n F x) (k + 1)) : Nat) : Int))]) dX1_isFlatLink_33 (by decide) rfl rfl ?_
      refine J_aload_n dX1_isFlatLink_35 rfl ?_
      refine J_iload dX1_isFlatLink_36 rfl ?_
      refine J_callViQ (cl := mX1_countOf) [(0, ((k : Nat) : Int))] [] dX1_isFlatLink_38 mlX1_64 cvX1_countOf rfl rfl rfl rfl rfl (by decide) (Nat.le_of_ble_eq_true rfl) rfl (ev_X1_countOf (2 ^ P - 1) (lkF n F x) ((k : Nat) : Int) (by omega) Mb (hg_ch b1 (by decide) b2 f2)) ?_
      refine J_iload_n dX1_isFlatLink_41 rfl ?_
      refine J_iload dX1_isFlatLink_42 rfl ?_
      refine J_iadd dX1_isFlatLink_44 (J_top (v := ((((rkN (lkF n F x) k) + (rkN (lkF n F x) (k + 1))) : Nat) : Int)) (by omega) ?_)
      refine J_icmp_eq (tgt := 50) dX1_isFlatLink_45 rfl (j_R (fo31 _ _)) (by have := rkN_le (lkF n F x) k; have := rkN_le (lkF n F x) (k + 1); omega) (fun h45 => ?_) (fun h45 => ?_)
      ·
        refine J_iload dX1_isFlatLink_50 rfl ?_
        refine J_istore_n (L' := [(21, 0), (14, 0), (0, ((x : Nat) : Int)), (0, (((rkN (lkF n F x) (k + 1)) : Nat) : Int)), (0, ((k : Nat) : Int)), (0, (((rkN (lkF n F x) (k + 1)) : Nat) : Int))]) dX1_isFlatLink_52 (by decide) rfl rfl ?_
        refine J_iinc (v := (((k + 1) : Nat) : Int)) (L' := [(21, 0), (14, 0), (0, ((x : Nat) : Int)), (0, (((rkN (lkF n F x) (k + 1)) : Nat) : Int)), (0, (((k + 1) : Nat) : Int)), (0, (((rkN (lkF n F x) (k + 1)) : Nat) : Int))]) dX1_isFlatLink_53 rfl (by omega) (by decide) rfl rfl ?_
        refine J_goto (tgt := 11) dX1_isFlatLink_56 rfl ?_
        refine J_unset 5 (L' := [(21, 0), (14, 0), (0, ((x : Nat) : Int)), (0, (((rkN (lkF n F x) (k + 1)) : Nat) : Int)), (0, (((k + 1) : Nat) : Int)), (9, 0)]) rfl ?_
        exact ih _ _ (by exact Ch_tr f1 (Ch_mo b1 (by decide))) (by exact hg_ch b1 (by decide) b2 f2) (by rw [allN_t (by exact beq_iff_eq.mpr (by unfold rdN; omega)), f3]) (by omega) (by omega)
      ·
        refine J_iconst dX1_isFlatLink_48 ?_
        refine J_zreturn dX1_isFlatLink_49 rfl (Or.inl rfl) ?_
        refine ⟨bf ?_, Ch_tr f1 (Ch_mo b1 (by decide))⟩
        unfold evB
        exact allN_no (k := k) (by exact beq_eq_false_iff_ne.mpr (by unfold rdN; omega)) (by omega)
set_option maxRecDepth 100000 in
set_option maxHeartbeats 4000000 in
theorem ev_X1_isFlatLink (P D n : Nat) (F O : Nat → Nat) (M : jM) (hR : KR P D n F O M) (hC : CC M) (x : Nat) (hx : x < 128) (hxD : popc x ≤ D) : Ev 4 mX1_isFlatLink [(21, 0), (14, 0), (0, ((x : Nat) : Int))] M (fun z M' => z = ((Bool.toNat (evB D n F x) : Nat) : Int) ∧ Ch [11, 13, 14, 15] M M') := by
  refine Ev_of (by decide +kernel) (Nat.le_of_ble_eq_true rfl) (L := [(21, 0), (14, 0), (0, ((x : Nat) : Int)), (9, 0), (9, 0), (9, 0)]) rfl ?_
  have hn12 := KR.hn hR
  have hP7 := KR.hP hR
  have hD5 := KR.hD hR
  have h2P : 2 ^ P ≤ 128 := Nat.pow_le_pow_right (n := 2) (by decide) hP7
  have h2p := Nat.two_pow_pos P
  refine J_aload_n dX1_isFlatLink_0 rfl ?_
  refine J_aload_n dX1_isFlatLink_1 rfl ?_
  refine J_iload_n dX1_isFlatLink_2 rfl ?_
  refine J_callVv (cl := mX1_takeLink) [(14, 0), (0, ((x : Nat) : Int))] [] dX1_isFlatLink_3 mlX1_32 cvX1_takeLink rfl rfl rfl rfl rfl (by decide) (Nat.le_of_ble_eq_true rfl) rfl (ev_X1_takeLink P D n F O M hR x hx) (fun Ma hq3 => ?_)
  obtain ⟨a1, a2⟩ := hq3
  refine J_iconst dX1_isFlatLink_6 ?_
  refine J_istore_n (L' := [(21, 0), (14, 0), (0, ((x : Nat) : Int)), (0, 0), (9, 0), (9, 0)]) dX1_isFlatLink_7 (by decide) rfl rfl ?_
  refine J_eq (L' := [(21, 0), (14, 0), (0, ((x : Nat) : Int)), (0, (((rkN (lkF n F x) 0) : Nat) : Int)), (9, 0), (9, 0)]) rfl rfl rfl ?_
  refine J_iconst dX1_isFlatLink_8 ?_
  refine J_istore (L' := [(21, 0), (14, 0), (0, ((x : Nat) : Int)), (0, (((rkN (lkF n F x) 0) : Nat) : Int)), (0, 0), (9, 0)]) dX1_isFlatLink_9 (by decide) rfl rfl ?_
  refine J_eq (L' := [(21, 0), (14, 0), (0, ((x : Nat) : Int)), (0, (((rkN (lkF n F x) 0) : Nat) : Int)), (0, ((0 : Nat) : Int)), (9, 0)]) rfl rfl rfl ?_
  exact ev_X1_isFlatLink_L11 P D n F O M hR hC x hx hxD  _ _ _ (by exact Ch_mo a1 (by decide)) (by exact hg_link hR hC a1 a2) (by rfl) (by omega) (Nat.lt_succ_self _)
set_option maxRecDepth 100000 in
set_option maxHeartbeats 4000000 in
theorem ev_X1_cycleOf_L7 (P D n : Nat) (F O : Nat → Nat) (M : jM) (hR : KR P D n F O M) (hC : CC M) (one pl : Nat) (h1n : one < n) (hpl : pl < 2147483648)  : ∀ (fu : Nat) (M1 : jM) (k : Nat) (f1 : Ch [11, 14, 15] M M1) (f2 : HS (cyS F pl k) M1) (f3 : k ≤ n) (hfu : n - k < fu), J none 1 mX1_cycleOf 7 [(21, 0), (14, 0), (0, ((one : Nat) : Int)), (0, ((pl : Nat) : Int)), (0, ((k : Nat) : Int))] [] M1 (j_ret mX1_cycleOf (fun z M' => z = ((cyN n F one pl : Nat) : Int) ∧ Ch [11, 14, 15] M M')) := by
  intro fu
  induction fu with
  | zero => intro M1 k f1 f2 f3 hfu; exact absurd hfu (Nat.not_lt_zero _)
  | succ fu ih =>
    intro M1 k f1 f2 f3 hfu
    have hn12 := KR.hn hR
    have hP7 := KR.hP hR
    have hD5 := KR.hD hR
    have h2P : 2 ^ P ≤ 128 := Nat.pow_le_pow_right (n := 2) (by decide) hP7
    have h2p := Nat.two_pow_pos P
    refine J_iload dX1_cycleOf_7 rfl ?_
    refine J_aload_n dX1_cycleOf_9 rfl ?_
    refine J_getI dX1_cycleOf_10 flX1_73 rfl rfl (J_top (v := ((n : Nat) : Int)) (KR.gn (kr_ch f1 (by decide) hR)) ?_)
    refine J_icmp_ge (tgt := 52) dX1_cycleOf_13 rfl (j_R (by omega)) (j_R (by omega)) (fun h13 => ?_) (fun h13 => ?_)
    ·
      refine J_aload_n dX1_cycleOf_52 rfl ?_
      refine J_aload_n dX1_cycleOf_53 rfl ?_
      refine J_aload_n dX1_cycleOf_54 rfl ?_
      refine J_getR dX1_cycleOf_55 flX1_76 rfl rfl ?_
      refine J_iload_n dX1_cycleOf_58 rfl ?_
      refine J_iald dX1_cycleOf_59 rfl (by decide) (KR.ix hR (by omega)) (J_top (v := (((F one) : Nat) : Int)) (KR.gF (kr_ch f1 (by decide) hR) (by omega)) ?_)
      refine J_callVlQ (cl := mX1_rowOf) [(0, (((F one) : Nat) : Int))] [(21, 0)] dX1_cycleOf_60 mlX1_56 cvX1_rowOf rfl rfl rfl rfl rfl (by decide) (Nat.le_of_ble_eq_true rfl) rfl (ev_X1_rowOf (F one) (KR.fb hR (by omega)) M1 (cc_ch f1 (by decide) hC)) ?_
      refine J_iconst dX1_cycleOf_63 ?_
      refine J_iload_n dX1_cycleOf_64 rfl ?_
      refine J_ishl dX1_cycleOf_65 (J_top (v := (((2 ^ one) : Nat) : Int)) (j_shl1 rfl rfl (by omega)) ?_)
      refine J_callVi (cl := mX1_settle) [(1, (((crN (F one) 7) : Nat) : Int)), (0, (((2 ^ one) : Nat) : Int))] [] dX1_cycleOf_66 mlX1_60 cvX1_settle rfl rfl rfl rfl rfl (by decide) (Nat.le_of_ble_eq_true rfl) rfl (ev_X1_settle (cyS F pl n) (crN (F one) 7) (2 ^ one) (by have := crN_lt (x := F one) (KR.fb hR (by omega)) 7; omega) (nb_p2 (by omega)) M1 (by rw [show n = k by omega]; exact f2)) (fun z66 Me hq66 => ?_)
      obtain ⟨rfl, e1, e2, e3, e4, e5⟩ := hq66
      refine J_pop dX1_cycleOf_69 rfl ?_
      refine J_aload_n dX1_cycleOf_70 rfl ?_
      refine J_getI dX1_cycleOf_71 flX1_50 rfl rfl (J_top (v := (((cyN n F one pl) : Nat) : Int)) e2 ?_)
      refine J_ireturn dX1_cycleOf_74 rfl ?_
      exact ⟨rfl, Ch_tr f1 e4⟩
    ·
      refine J_iload_n dX1_cycleOf_16 rfl ?_
      refine J_iload dX1_cycleOf_17 rfl ?_
      refine J_ishr dX1_cycleOf_19 (J_top (v := (((pl >>> k) : Nat) : Int)) (j_shrN rfl rfl hpl (by omega)) ?_)
      refine J_iconst dX1_cycleOf_20 ?_
      refine J_iand dX1_cycleOf_21 (J_top (v := ((Bool.toNat (Nat.testBit pl k) : Nat) : Int)) ((j_andN rfl rfl (nb_shr hpl) (by decide)).trans (congrArg Nat.cast (bit_one _ _))) ?_)
      refine J_iconst dX1_cycleOf_22 ?_
      refine J_icmp_ne (tgt := 46) dX1_cycleOf_23 rfl (j_R (nb_bool _)) (by decide) (fun h23 => ?_) (fun h23 => ?_)
      ·
        refine J_iinc (v := (((k + 1) : Nat) : Int)) (L' := [(21, 0), (14, 0), (0, ((one : Nat) : Int)), (0, ((pl : Nat) : Int)), (0, (((k + 1) : Nat) : Int))]) dX1_cycleOf_46 rfl (by omega) (by decide) rfl rfl ?_
        refine J_goto (tgt := 7) dX1_cycleOf_49 rfl ?_
        exact ih _ _ (by exact f1) (by rw [show cyS F pl (k + 1) = cyS F pl k by simp only [cyS]; rw [bf' h23]; rfl]; exact f2) (by omega) (by omega)
      ·
        refine J_aload_n dX1_cycleOf_26 rfl ?_
        refine J_aload_n dX1_cycleOf_27 rfl ?_
        refine J_aload_n dX1_cycleOf_28 rfl ?_
        refine J_getR dX1_cycleOf_29 flX1_76 rfl rfl ?_
        refine J_iload dX1_cycleOf_32 rfl ?_
        refine J_iald dX1_cycleOf_34 rfl (by decide) (KR.ix hR (by omega)) (J_top (v := (((F k) : Nat) : Int)) (KR.gF (kr_ch f1 (by decide) hR) (by omega)) ?_)
        refine J_callVlQ (cl := mX1_rowOf) [(0, (((F k) : Nat) : Int))] [(21, 0)] dX1_cycleOf_35 mlX1_56 cvX1_rowOf rfl rfl rfl rfl rfl (by decide) (Nat.le_of_ble_eq_true rfl) rfl (ev_X1_rowOf (F k) (KR.fb hR (by omega)) M1 (cc_ch f1 (by decide) hC)) ?_
        refine J_iconst dX1_cycleOf_38 ?_
        refine J_iload dX1_cycleOf_39 rfl ?_
        refine J_ishl dX1_cycleOf_41 (J_top (v := (((2 ^ k) : Nat) : Int)) (j_shl1 rfl rfl (by omega)) ?_)
        refine J_callVi (cl := mX1_settle) [(1, (((crN (F k) 7) : Nat) : Int)), (0, (((2 ^ k) : Nat) : Int))] [] dX1_cycleOf_42 mlX1_60 cvX1_settle rfl rfl rfl rfl rfl (by decide) (Nat.le_of_ble_eq_true rfl) rfl (ev_X1_settle (cyS F pl k) (crN (F k) 7) (2 ^ k) (by have := crN_lt (x := F k) (KR.fb hR (by omega)) 7; omega) (nb_p2 (by omega)) M1 f2) (fun z42 Mb hq42 => ?_)
        obtain ⟨rfl, b1, b2, b3, b4, b5⟩ := hq42
        refine J_pop dX1_cycleOf_45 rfl ?_
        refine J_iinc (v := (((k + 1) : Nat) : Int)) (L' := [(21, 0), (14, 0), (0, ((one : Nat) : Int)), (0, ((pl : Nat) : Int)), (0, (((k + 1) : Nat) : Int))]) dX1_cycleOf_46 rfl (by omega) (by decide) rfl rfl ?_
        refine J_goto (tgt := 7) dX1_cycleOf_49 rfl ?_
        exact ih _ _ (by exact Ch_tr f1 b4) (by rw [show cyS F pl (k + 1) = stT (cyS F pl k) (stF (cyS F pl k) 35 (crN (F k) 7) (2 ^ k)) by rw [cyS, if_pos (bt' h23)]]; exact b1) (by omega) (by omega)
set_option maxRecDepth 100000 in
set_option maxHeartbeats 4000000 in
theorem ev_X1_cycleOf (P D n : Nat) (F O : Nat → Nat) (M : jM) (hR : KR P D n F O M) (hC : CC M) (one pl : Nat) (h1n : one < n) (hpl : pl < 2147483648) : Ev 1 mX1_cycleOf [(21, 0), (14, 0), (0, ((one : Nat) : Int)), (0, ((pl : Nat) : Int))] M (fun z M' => z = ((cyN n F one pl : Nat) : Int) ∧ Ch [11, 14, 15] M M') := by
  refine Ev_of (by decide +kernel) (Nat.le_of_ble_eq_true rfl) (L := [(21, 0), (14, 0), (0, ((one : Nat) : Int)), (0, ((pl : Nat) : Int)), (9, 0)]) rfl ?_
  have hn12 := KR.hn hR
  have hP7 := KR.hP hR
  have hD5 := KR.hD hR
  have h2P : 2 ^ P ≤ 128 := Nat.pow_le_pow_right (n := 2) (by decide) hP7
  have h2p := Nat.two_pow_pos P
  refine J_aload_n dX1_cycleOf_0 rfl ?_
  refine J_callVv (cl := mX1_clear) [] [] dX1_cycleOf_1 mlX1_53 cvX1_clear rfl rfl rfl rfl rfl (by decide) (Nat.le_of_ble_eq_true rfl) rfl (ev_X1_clear M) (fun Ma hq1 => ?_)
  obtain ⟨a1, a2⟩ := hq1
  refine J_iconst dX1_cycleOf_4 ?_
  refine J_istore (L' := [(21, 0), (14, 0), (0, ((one : Nat) : Int)), (0, ((pl : Nat) : Int)), (0, 0)]) dX1_cycleOf_5 (by decide) rfl rfl ?_
  refine J_eq (L' := [(21, 0), (14, 0), (0, ((one : Nat) : Int)), (0, ((pl : Nat) : Int)), (0, ((0 : Nat) : Int))]) rfl rfl rfl ?_
  exact ev_X1_cycleOf_L7 P D n F O M hR hC one pl h1n hpl  _ _ _ (by exact Ch_mo a1 (by decide)) (by exact a2) (by omega) (Nat.lt_succ_self _)
