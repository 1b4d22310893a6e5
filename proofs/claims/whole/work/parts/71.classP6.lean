def KW (P D n : Nat) (F O : Nat → Nat) (M : jM) : Prop := WF P D n F O ∧ M 4 2 = (n : Int)
theorem KW.hn {P D n : Nat} {F O : Nat → Nat} {M : jM} (h : KW P D n F O M) : n ≤ 12 := h.1.2.2.1
theorem KW.hP {P D n : Nat} {F O : Nat → Nat} {M : jM} (h : KW P D n F O M) : P ≤ 7 := h.1.1
theorem KW.hD {P D n : Nat} {F O : Nat → Nat} {M : jM} (h : KW P D n F O M) : D ≤ 5 := h.1.2.1
theorem KW.gn {P D n : Nat} {F O : Nat → Nat} {M : jM} (h : KW P D n F O M) : M 4 2 = (n : Int) := h.2
theorem fstKW {P D n : Nat} {F O : Nat → Nat} {M : jM} (h : KW P D n F O M) (p : Nat → Bool) (z : Int) (hz : -2147483648 ≤ z ∧ z < 2147483648 := by decide) : -2147483648 ≤ fstN n p z ∧ fstN n p z < 2147483648 := by
  have := h.hn
  rcases fstN_rng (n := n) (p := p) (z := z) with q | q <;> omega
set_option maxRecDepth 100000 in
set_option maxHeartbeats 4000000 in
theorem ew_X2_leastOnward_L2 (P D n : Nat) (F O : Nat → Nat) (M : jM) (hR : KW P D n F O M) (hO : ORD F n M) (s : Nat) (hs : s < 2 ^ n)  : ∀ (fu : Nat) (k : Nat) (h1 : anyN k (lsC F n s) = false) (h2 : k ≤ n) (hfu : n - k < fu), J none 0 mX2_leastOnward 2 [(26, 0), (14, 0), (0, ((s : Nat) : Int)), (0, ((k : Nat) : Int)), (9, 0)] [] M (j_ret mX2_leastOnward (fun z M' => z = fstN n (lsC F n s) (-2) ∧ M' = M)) := by
  intro fu
  induction fu with
  | zero => intro k h1 h2 hfu; exact absurd hfu (Nat.not_lt_zero _)
  | succ fu ih =>
    intro k h1 h2 hfu
    have hn12 := KW.hn hR
    have hP7 := KW.hP hR
    have hD5 := KW.hD hR
    have h2P : 2 ^ P ≤ 128 := Nat.pow_le_pow_right (n := 2) (by decide) hP7
    have h2p := Nat.two_pow_pos P
    have h2n := Nat.two_pow_pos n
    have h4k := p4096 hn12
    refine J_iload_n dX2_leastOnward_2 rfl ?_
    refine J_aload_n dX2_leastOnward_3 rfl ?_
    refine J_getI dX2_leastOnward_4 flX2_42 rfl rfl (J_top (v := ((n : Nat) : Int)) (KW.gn hR) ?_)
    refine J_icmp_ge (tgt := 47) dX2_leastOnward_7 rfl (j_R (by omega)) (j_R (by omega)) (fun h7 => ?_) (fun h7 => ?_)
    ·
      refine J_bipush dX2_leastOnward_47 (by decide) ?_
      refine J_ireturn dX2_leastOnward_49 rfl ?_
      have : k = n := by omega
      subst this
      exact ⟨by rw [fstN_none h1], rfl⟩
    ·
      refine J_iconst dX2_leastOnward_10 ?_
      refine J_iload_n dX2_leastOnward_11 rfl ?_
      refine J_ishl dX2_leastOnward_12 (J_top (v := (((2 ^ k) : Nat) : Int)) (j_shl1 rfl rfl (by omega)) ?_)
      refine J_istore (L' := [(26, 0), (14, 0), (0, ((s : Nat) : Int)), (0, ((k : Nat) : Int)), (0, (((2 ^ k) : Nat) : Int))]) dX2_leastOnward_13 (by decide) rfl rfl ?_
      refine J_aload_n dX2_leastOnward_15 rfl ?_
      refine J_getR dX2_leastOnward_16 flX2_15 rfl rfl ?_
      refine J_iload_n dX2_leastOnward_19 rfl ?_
      refine J_iald dX2_leastOnward_20 rfl (by decide) (ixn hn12 (by omega)) (J_top (v := (((rdyM F n s) : Nat) : Int)) (hO.2 s (by omega)).2.1 ?_)
      refine J_iload dX2_leastOnward_21 rfl ?_
      refine J_iand dX2_leastOnward_23 (J_top (v := ((((rdyM F n s) &&& (2 ^ k)) : Nat) : Int)) (j_andN rfl rfl (rdyM31 hn12) (nb_p2 (by omega))) ?_)
      refine J_if_eq (tgt := 41) dX2_leastOnward_24 rfl (j_R (nb_and (rdyM31 hn12))) (fun h24 => ?_) (fun h24 => ?_)
      ·
        refine J_iinc (v := (((k + 1) : Nat) : Int)) (L' := [(26, 0), (14, 0), (0, ((s : Nat) : Int)), (0, (((k + 1) : Nat) : Int)), (0, (((2 ^ k) : Nat) : Int))]) dX2_leastOnward_41 rfl (by omega) (by decide) rfl rfl ?_
        refine J_goto (tgt := 2) dX2_leastOnward_44 rfl ?_
        refine J_unset 4 (L' := [(26, 0), (14, 0), (0, ((s : Nat) : Int)), (0, (((k + 1) : Nat) : Int)), (9, 0)]) rfl ?_
        exact ih _ (by rw [anyN_f (by unfold lsC; rw [and_p2z h24]; rfl), h1]) (by omega) (by omega)
      ·
        refine J_aload_n dX2_leastOnward_27 rfl ?_
        refine J_getR dX2_leastOnward_28 flX2_18 rfl rfl ?_
        refine J_iload_n dX2_leastOnward_31 rfl ?_
        refine J_iload dX2_leastOnward_32 rfl ?_
        refine J_ior dX2_leastOnward_34 (J_top (v := (((s ||| (2 ^ k)) : Nat) : Int)) (j_orN rfl rfl (by omega) (nb_p2 (by omega))) ?_)
        refine J_iald dX2_leastOnward_35 rfl (by decide) (ixn hn12 (or_bit_lt hs (by omega : k < n))) (J_top (v := (((onw F n (s ||| (2 ^ k))) : Nat) : Int)) (hO.2 (s ||| (2 ^ k)) (or_bit_lt hs (by omega : k < n))).2.2 ?_)
        refine J_if_eq (tgt := 41) dX2_leastOnward_36 rfl (j_R (onw31 F hn12 _)) (fun h36 => ?_) (fun h36 => ?_)
        ·
          refine J_iinc (v := (((k + 1) : Nat) : Int)) (L' := [(26, 0), (14, 0), (0, ((s : Nat) : Int)), (0, (((k + 1) : Nat) : Int)), (0, (((2 ^ k) : Nat) : Int))]) dX2_leastOnward_41 rfl (by omega) (by decide) rfl rfl ?_
          refine J_goto (tgt := 2) dX2_leastOnward_44 rfl ?_
          refine J_unset 4 (L' := [(26, 0), (14, 0), (0, ((s : Nat) : Int)), (0, (((k + 1) : Nat) : Int)), (9, 0)]) rfl ?_
          exact ih _ (by rw [anyN_f (by unfold lsC; rw [decide_eq_false (by omega), Bool.and_false]), h1]) (by omega) (by omega)
        ·
          refine J_iload_n dX2_leastOnward_39 rfl ?_
          refine J_ireturn dX2_leastOnward_40 rfl ?_
          exact ⟨by rw [fstN_hit h1 (by unfold lsC; rw [and_p2n h24, decide_eq_true (by omega)]; rfl) (by omega)], rfl⟩
set_option maxRecDepth 100000 in
set_option maxHeartbeats 4000000 in
theorem ew_X2_leastOnward (P D n : Nat) (F O : Nat → Nat) (M : jM) (hR : KW P D n F O M) (hO : ORD F n M) (s : Nat) (hs : s < 2 ^ n) : Ev 0 mX2_leastOnward [(26, 0), (14, 0), (0, ((s : Nat) : Int))] M (fun z M' => z = fstN n (lsC F n s) (-2) ∧ M' = M) := by
  refine Ev_of (by decide +kernel) (Nat.le_of_ble_eq_true rfl) (L := [(26, 0), (14, 0), (0, ((s : Nat) : Int)), (9, 0), (9, 0)]) rfl ?_
  have hn12 := KW.hn hR
  have hP7 := KW.hP hR
  have hD5 := KW.hD hR
  have h2P : 2 ^ P ≤ 128 := Nat.pow_le_pow_right (n := 2) (by decide) hP7
  have h2p := Nat.two_pow_pos P
  have h2n := Nat.two_pow_pos n
  have h4k := p4096 hn12
  refine J_iconst dX2_leastOnward_0 ?_
  refine J_istore_n (L' := [(26, 0), (14, 0), (0, ((s : Nat) : Int)), (0, 0), (9, 0)]) dX2_leastOnward_1 (by decide) rfl rfl ?_
  refine J_eq (L' := [(26, 0), (14, 0), (0, ((s : Nat) : Int)), (0, ((0 : Nat) : Int)), (9, 0)]) rfl rfl rfl ?_
  exact ew_X2_leastOnward_L2 P D n F O M hR hO s hs  _ _ (by rfl) (by omega) (Nat.lt_succ_self _)
set_option maxRecDepth 100000 in
set_option maxHeartbeats 4000000 in
theorem ew_X2_leastAt_L9 (P D n : Nat) (F O : Nat → Nat) (M : jM) (hR : KW P D n F O M) (hO : ORD F n M) (pl : Nat) (hpl : pl < n)  : ∀ (fu : Nat) (t : Nat) (last : Int) (h1 : t ≤ pl + 1) (h2 : 0 < t → last = lsF F n (lsA F n (t - 1)) ∧ 0 < won F n 0) (h4 : lsA F n t < 2 ^ n ∧ ¬ wto F n (lsA F n t) = 0) (hfu : pl + 1 - t < fu), J none 1 mX2_leastAt 9 [(26, 0), (14, 0), (0, ((pl : Nat) : Int)), (0, (((lsA F n t) : Nat) : Int)), (0, last), (0, ((t : Nat) : Int))] [] M (j_ret mX2_leastAt (fun z M' => z = (if won F n 0 = 0 then -2 else lsF F n (lsA F n pl)) ∧ M' = M)) := by
  intro fu
  induction fu with
  | zero => intro t last h1 h2 h4 hfu; exact absurd hfu (Nat.not_lt_zero _)
  | succ fu ih =>
    intro t last h1 h2 h4 hfu
    have hn12 := KW.hn hR
    have hP7 := KW.hP hR
    have hD5 := KW.hD hR
    have h2P : 2 ^ P ≤ 128 := Nat.pow_le_pow_right (n := 2) (by decide) hP7
    have h2p := Nat.two_pow_pos P
    have h2n := Nat.two_pow_pos n
    have h4k := p4096 hn12
    refine J_iload dX2_leastAt_9 rfl ?_
    refine J_iload_n dX2_leastAt_11 rfl ?_
    refine J_icmp_gt (tgt := 51) dX2_leastAt_12 rfl (j_R (by omega)) (j_R (by omega)) (fun h12 => ?_) (fun h12 => ?_)
    ·
      refine J_iload dX2_leastAt_51 rfl ?_
      refine J_ireturn dX2_leastAt_53 rfl ?_
      have ht : t = pl + 1 := by omega
      have h9 := h2 (by omega)
      exact ⟨by rw [if_neg (by omega), h9.1, ht]; rfl, rfl⟩
    ·
      refine J_iload dX2_leastAt_15 rfl ?_
      refine J_bipush dX2_leastAt_17 (by decide) ?_
      refine J_icmp_ge (tgt := 51) dX2_leastAt_19 rfl (j_R (by omega)) (by decide) (fun h19 => ?_) (fun h19 => ?_)
      · omega
      ·
        refine J_aload_n dX2_leastAt_22 rfl ?_
        refine J_aload_n dX2_leastAt_23 rfl ?_
        refine J_iload_n dX2_leastAt_24 rfl ?_
        refine J_callViQ (cl := mX2_leastOnward) [(14, 0), (0, (((lsA F n t) : Nat) : Int))] [] dX2_leastAt_25 mlX2_54 cvX2_leastOnward rfl rfl rfl rfl rfl (by decide) (Nat.le_of_ble_eq_true rfl) rfl (ew_X2_leastOnward P D n F O M hR hO (lsA F n t) h4.1) ?_
        refine J_istore (L' := [(26, 0), (14, 0), (0, ((pl : Nat) : Int)), (0, (((lsA F n t) : Nat) : Int)), (0, (fstN n (lsC F n (lsA F n t)) (-2))), (0, ((t : Nat) : Int))]) dX2_leastAt_28 (by decide) rfl rfl ?_
        refine J_iload dX2_leastAt_30 rfl ?_
        refine J_if_ge (tgt := 38) dX2_leastAt_32 rfl (fstKW hR _ _) (fun h32 => ?_) (fun h32 => ?_)
        ·
          have hany : anyN n (lsC F n (lsA F n t)) = true := by
            cases q : anyN n (lsC F n (lsA F n t))
            · rw [fstN_none q] at h32; omega
            · rfl
          have e9 : (fstN n (lsC F n (lsA F n t)) (-2)) = (lsF F n (lsA F n t)) := by
            rw [lsC_fst h4.2]
            unfold lsF
            exact fst_def (by rw [← hany]; exact anyN_congr (fun k hk => (lsC_eq h4.2 hk).symm))
          have hw : 0 < won F n 0 := by
            rcases Nat.eq_zero_or_pos t with q | q
            · obtain ⟨k, k1, k2⟩ := anyN_iff.mp hany
              rw [q] at k2 h4
              rw [lsC_eq h4.2 k1] at k2
              exact ls_won h4.1 k1 k2
            · exact (h2 q).2
          obtain ⟨a1, a2, a3⟩ := lsA_ok hw t (by omega)
          obtain ⟨k9, b1, b2, b3, b4, b5, b6⟩ := ls_next a1 a2 (by omega)
          refine J_eq (L' := [(26, 0), (14, 0), (0, ((pl : Nat) : Int)), (0, (((lsA F n t) : Nat) : Int)), (0, (lsF F n (lsA F n t))), (0, ((t : Nat) : Int))]) (by rw [e9]) rfl rfl ?_
          refine J_iload_n dX2_leastAt_38 rfl ?_
          refine J_iconst dX2_leastAt_39 ?_
          refine J_iload dX2_leastAt_40 rfl (J_top (v := (((Int.toNat (lsF F n (lsA F n t))) : Nat) : Int)) (by omega) ?_)
          refine J_ishl dX2_leastAt_42 (J_top (v := (((2 ^ (Int.toNat (lsF F n (lsA F n t)))) : Nat) : Int)) (j_shl1 rfl rfl (by omega)) ?_)
          refine J_ior dX2_leastAt_43 (J_top (v := ((((lsA F n t) ||| (2 ^ (Int.toNat (lsF F n (lsA F n t))))) : Nat) : Int)) (j_orN rfl rfl (p12 hn12 h4.1) (nb_p2 (by omega))) ?_)
          refine J_istore_n (L' := [(26, 0), (14, 0), (0, ((pl : Nat) : Int)), (0, ((((lsA F n t) ||| (2 ^ (Int.toNat (lsF F n (lsA F n t))))) : Nat) : Int)), (0, (lsF F n (lsA F n t))), (0, ((t : Nat) : Int))]) dX2_leastAt_44 (by decide) rfl rfl ?_
          refine J_eq (L' := [(26, 0), (14, 0), (0, ((pl : Nat) : Int)), (0, (((lsA F n (t + 1)) : Nat) : Int)), (0, (lsF F n (lsA F n t))), (0, ((t : Nat) : Int))]) rfl rfl rfl ?_
          refine J_iinc (v := (((t + 1) : Nat) : Int)) (L' := [(26, 0), (14, 0), (0, ((pl : Nat) : Int)), (0, (((lsA F n (t + 1)) : Nat) : Int)), (0, (lsF F n (lsA F n t))), (0, (((t + 1) : Nat) : Int))]) dX2_leastAt_45 rfl (by omega) (by decide) rfl rfl ?_
          refine J_goto (tgt := 9) dX2_leastAt_48 rfl ?_
          exact ih _ _ (by omega) (by intro _; exact ⟨rfl, hw⟩) (by exact ⟨(lsA_ok hw (t + 1) (by omega)).1, lsA_wto hw (t + 1) (by omega)⟩) (by omega)
        ·
          refine J_bipush dX2_leastAt_35 (by decide) ?_
          refine J_ireturn dX2_leastAt_37 rfl ?_
          refine ⟨?_, rfl⟩
          by_cases hw : won F n 0 = 0
          · rw [if_pos hw]
          · obtain ⟨a1, a2, a3⟩ := lsA_ok (by omega : 0 < won F n 0) t (by omega)
            obtain ⟨k, b1, b2, b3, b4, b5, b6⟩ := ls_next a1 a2 (by omega)
            have e8 : anyN n (lsP F n (lsA F n t)) = true := by
              cases q : anyN n (lsP F n (lsA F n t))
              · unfold lsF at b2; rw [fstN_none q] at b2; omega
              · rfl
            rw [lsC_fst h4.2, fst_def (z := -1) e8] at h32
            unfold lsF at b2
            omega
set_option maxRecDepth 100000 in
set_option maxHeartbeats 4000000 in
theorem ew_X2_leastAt (P D n : Nat) (F O : Nat → Nat) (M : jM) (hR : KW P D n F O M) (hO : ORD F n M) (pl : Nat) (hpl : pl < n) : Ev 1 mX2_leastAt [(26, 0), (14, 0), (0, ((pl : Nat) : Int))] M (fun z M' => z = (if won F n 0 = 0 then -2 else lsF F n (lsA F n pl)) ∧ M' = M) := by
  refine Ev_of (by decide +kernel) (Nat.le_of_ble_eq_true rfl) (L := [(26, 0), (14, 0), (0, ((pl : Nat) : Int)), (9, 0), (9, 0), (9, 0)]) rfl ?_
  have hn12 := KW.hn hR
  have hP7 := KW.hP hR
  have hD5 := KW.hD hR
  have h2P : 2 ^ P ≤ 128 := Nat.pow_le_pow_right (n := 2) (by decide) hP7
  have h2p := Nat.two_pow_pos P
  have h2n := Nat.two_pow_pos n
  have h4k := p4096 hn12
  refine J_iconst dX2_leastAt_0 ?_
  refine J_istore_n (L' := [(26, 0), (14, 0), (0, ((pl : Nat) : Int)), (0, 0), (9, 0), (9, 0)]) dX2_leastAt_1 (by decide) rfl rfl ?_
  refine J_eq (L' := [(26, 0), (14, 0), (0, ((pl : Nat) : Int)), (0, (((lsA F n 0) : Nat) : Int)), (9, 0), (9, 0)]) rfl rfl rfl ?_
  refine J_bipush dX2_leastAt_2 (by decide) ?_
  refine J_istore (L' := [(26, 0), (14, 0), (0, ((pl : Nat) : Int)), (0, (((lsA F n 0) : Nat) : Int)), (0, (-2)), (9, 0)]) dX2_leastAt_4 (by decide) rfl rfl ?_
  refine J_iconst dX2_leastAt_6 ?_
  refine J_istore (L' := [(26, 0), (14, 0), (0, ((pl : Nat) : Int)), (0, (((lsA F n 0) : Nat) : Int)), (0, (-2)), (0, 0)]) dX2_leastAt_7 (by decide) rfl rfl ?_
  refine J_eq (L' := [(26, 0), (14, 0), (0, ((pl : Nat) : Int)), (0, (((lsA F n 0) : Nat) : Int)), (0, (-2)), (0, ((0 : Nat) : Int))]) rfl rfl rfl ?_
  exact ew_X2_leastAt_L9 P D n F O M hR hO pl hpl  _ _ _ (by omega) (by intro q; omega) (by exact ⟨Nat.two_pow_pos n, by rw [lsA, wto_0]; decide⟩) (Nat.lt_succ_self _)
theorem ks_rd {P D n f p : Nat} {F O : Nat → Nat} {tl : Nat} {tb : Nat → Nat} {fa tr wh : Int} {M M' : jM} (hz : Tz [1, 2, 3, 5, 6, 7, 8, 9, 10, 11, 12] [3] M M') (h1 : M' 1 1 = 0) (h2 : M' 1 2 = (f : Int)) (h3 : M' 1 3 = (p : Int)) (h : KS P D n F O tl tb fa tr wh M) : KS P D n F O 0 tb (f : Int) 4 (p : Int) (j_up M' 0 6 4) := by
  obtain ⟨g1, g2, g3, g8, g9, g10⟩ := h
  have hc : Ch [0, 1, 3] M (j_up M' 0 6 4) := Ch_up (by decide) (Ch_mo hz.1 (by decide))
  refine ⟨kr_ch hc (by decide) g1, j_up_eq, ⟨?_, fun _ => ?_, ?_, by omega, fun i hi => by omega⟩, cc_ch hc (by decide) g8, oq_ch hc (by decide) g9, sq_ch hc (by decide) g10⟩
  · rw [j_up_ne (by decide)]; exact h2
  · rw [j_up_ne (by decide)]; exact h3
  · rw [j_up_ne (by decide)]; exact h1
set_option maxRecDepth 100000 in
set_option maxHeartbeats 4000000 in
theorem ev_X6_lay_L36 (P D n : Nat) (F O : Nat → Nat) (tl : Nat) (tb : Nat → Nat) (fa tr wh : Int) (M : jM) (hS : KS P D n F O tl tb fa tr wh M) (Mo : jM) (o1 : ORD F n Mo) (o2 : Ch [16, 17, 18, 19] (j_up M 0 6 (u1 (bT n))) Mo) (h4 : bT n = true) (h17 : ¬ won F n 0 = 0) : ∀ (fu : Nat) (M2 : jM) (k : Nat) (f1 : Ch [10] (j_up Mo 0 6 0) M2) (f2 : ∀ x : Nat, x < k → M2 10 (x : Int) = ((lyO n F x : Nat) : Int)) (f3 : k ≤ n) (hfu : n - k < fu), J none 9 mX6_lay 36 [(10, 0), (0, ((k : Nat) : Int))] [] M2 (j_ret mX6_lay (fun z M' => z = A_lay n F ∧ KS P D n F (nw (tLa n F) (lyO n F) O) tl tb fa (tLa n F) 0 M' ∧ KM M M')) := by
  intro fu
  induction fu with
  | zero => intro M2 k f1 f2 f3 hfu; exact absurd hfu (Nat.not_lt_zero _)
  | succ fu ih =>
    intro M2 k f1 f2 f3 hfu
    have hR := hS.1
    have hn12 := KR.hn hR
    have hP7 := KR.hP hR
    have hD5 := KR.hD hR
    have h2P : 2 ^ P ≤ 128 := Nat.pow_le_pow_right (n := 2) (by decide) hP7
    have h2p := Nat.two_pow_pos P
    have hly := ly_wf hR.wf (by omega : 0 < won F n 0)
    have hg2 : M2 4 2 = ((n : Nat) : Int) := by rw [f1 4 (by decide), j_up_ne (by decide), o2 4 (by decide), j_up_ne (by decide)]; exact hR.gn
    have ho2 : ORD F n M2 := ord_ch f1 (by decide) (ord_ch (Ch_up (ks := [0]) (by decide) Ch_rf) (by decide) o1)
    have ely : ∀ k, k < n → (if won F n 0 = 0 then -2 else lsF F n (lsA F n k)) = ((lyO n F k : Nat) : Int) := by
      intro k hk
      rw [if_neg h17]
      have := lsF_nn hn12 hR.wf h17 hk
      unfold lyO
      omega
    refine J_iload_n dX6_lay_36 rfl ?_
    refine J_aload_n dX6_lay_37 rfl ?_
    refine J_getR dX6_lay_38 flX6_19 rfl rfl ?_
    refine J_getI dX6_lay_41 flX6_84 rfl rfl (J_top (v := ((n : Nat) : Int)) hg2 ?_)
    refine J_icmp_ge (tgt := 74) dX6_lay_44 rfl (j_R (by omega)) (j_R (by omega)) (fun h44 => ?_) (fun h44 => ?_)
    ·
      refine J_aload_n dX6_lay_74 rfl ?_
      refine J_getR dX6_lay_75 flX6_40 rfl rfl ?_
      refine J_getR dX6_lay_78 flX6_238 rfl rfl ?_
      refine J_iconst dX6_lay_81 ?_
      refine J_iald dX6_lay_82 rfl (by decide) (by decide) (J_top (v := (((won F n 0) : Nat) : Int)) (by rw [f1 19 (by decide), j_up_ne (by decide)]; have h9 := (o1.2 0 (Nat.two_pow_pos n)).2.2; rw [won_pos0] at h9; exact h9) ?_)
      refine J_ireturn dX6_lay_83 rfl ?_
      have hz : tLa n F = 0 := by unfold tLa; rw [if_pos h4, if_neg h17]
      have hk : k = n := by omega
      subst hk
      refine ⟨by unfold A_lay; rw [if_pos hz], ?_, km_tr (km_up (by decide) (km_tr (km_up (by decide) (km_rf)) (km_ch o2 (by decide)))) (km_ch f1 (by decide))⟩
      rw [nw_t hz, hz]
      have h7 := ks_tr (w := 0) (by decide) (ks_or o2 o1 (ks_tr u1_4 hS))
      exact ks_od h7 f1 (ly_kr h7.1 f1 hly f2)
    ·
      refine J_aload_n dX6_lay_47 rfl ?_
      refine J_getR dX6_lay_48 flX6_26 rfl rfl ?_
      refine J_getR dX6_lay_51 flX6_174 rfl rfl ?_
      refine J_iload_n dX6_lay_54 rfl ?_
      refine J_aload_n dX6_lay_55 rfl ?_
      refine J_getR dX6_lay_56 flX6_40 rfl rfl ?_
      refine J_aload_n dX6_lay_59 rfl ?_
      refine J_getR dX6_lay_60 flX6_19 rfl rfl ?_
      refine J_iload_n dX6_lay_63 rfl ?_
      refine J_callViQ (cl := mX2_leastAt) [(14, 0), (0, ((k : Nat) : Int))] [(0, ((k : Nat) : Int)), (20, 0)] dX6_lay_64 mlX6_241 cvX2_leastAt rfl rfl rfl rfl rfl (by decide) (Nat.le_of_ble_eq_true rfl) rfl (ew_X2_leastAt P D n F O M2 ⟨hR.wf, hg2⟩ ho2 k (by omega)) ?_
      refine J_iast dX6_lay_67 rfl (by decide) (by omega) ?_
      refine J_iinc (v := (((k + 1) : Nat) : Int)) (L' := [(10, 0), (0, (((k + 1) : Nat) : Int))]) dX6_lay_68 rfl (by omega) (by decide) rfl rfl ?_
      refine J_goto (tgt := 36) dX6_lay_71 rfl ?_
      exact ih _ _ (by exact Ch_up (by decide) f1) (by intro x hx; by_cases e : x = k; rw [e, j_up_eq]; exact ely k (by omega); rw [j_up_nz (by omega)]; exact f2 x (by omega)) (by omega) (by omega)
set_option maxRecDepth 100000 in
set_option maxHeartbeats 4000000 in
theorem ev_X6_lay (P D n : Nat) (F O : Nat → Nat) (tl : Nat) (tb : Nat → Nat) (fa tr wh : Int) (M : jM) (hS : KS P D n F O tl tb fa tr wh M) : Ev 9 mX6_lay [(10, 0)] M (fun z M' => z = A_lay n F ∧ KS P D n F (nw (tLa n F) (lyO n F) O) tl tb fa (tLa n F) 0 M' ∧ KM M M') := by
  refine Ev_of (by decide +kernel) (Nat.le_of_ble_eq_true rfl) (L := [(10, 0), (9, 0)]) rfl ?_
  have hR := hS.1
  have hn12 := KR.hn hR
  have hP7 := KR.hP hR
  have hD5 := KR.hD hR
  have h2P : 2 ^ P ≤ 128 := Nat.pow_le_pow_right (n := 2) (by decide) hP7
  have h2p := Nat.two_pow_pos P
  refine J_aload_n dX6_lay_0 rfl ?_
  refine J_callViQ (cl := mX6_refusesEmpty) [] [] dX6_lay_1 mlX6_146 cvX6_refusesEmpty rfl rfl rfl rfl rfl (by decide) (Nat.le_of_ble_eq_true rfl) rfl (ev_X6_refusesEmpty P D n F O M hR) ?_
  refine J_ifn_ne (b := bT n) (tgt := 32) dX6_lay_4 rfl (fun h4 => ?_) (fun h4 => ?_)
  ·
    refine J_iconst dX6_lay_32 ?_
    refine J_ireturn dX6_lay_33 rfl ?_
    have et : tLa n F = 1 := by unfold tLa; rw [if_neg (by rw [h4]; decide)]
    have en : ¬ tLa n F = 0 := by rw [et]; decide
    refine ⟨by unfold A_lay; rw [if_neg en], ?_, km_up (by decide) (km_rf)⟩
    rw [nw_f en, et, u1_f h4]
    exact ks_tr (by decide) hS
  ·
    refine J_aload_n dX6_lay_7 rfl ?_
    refine J_aload_n dX6_lay_8 rfl ?_
    refine J_callVr (cl := mX6_allOrders) [] [(10, 0)] dX6_lay_9 mlX6_234 cvX6_allOrders rfl rfl rfl rfl rfl (by decide) (Nat.le_of_ble_eq_true rfl) rfl (ev_X6_allOrders P D n F O (j_up M 0 6 (u1 (bT n))) (kr_up (by decide) hR) (oq_ch ch1 (by decide) hS.oq)) (fun z9 Mo hq9 => ?_)
    obtain ⟨y9, o1, o2⟩ := hq9
    obtain rfl : z9 = 16 := by omega
    refine J_getR dX6_lay_12 flX6_238 rfl rfl ?_
    refine J_iconst dX6_lay_15 ?_
    refine J_iald dX6_lay_16 rfl (by decide) (by decide) (J_top (v := (((won F n 0) : Nat) : Int)) (by have h9 := (o1.2 0 (Nat.two_pow_pos n)).2.2; rw [won_pos0] at h9; exact h9) ?_)
    refine J_if_ne (tgt := 24) dX6_lay_17 rfl (j_R (won31 F hn12 0)) (fun h17 => ?_) (fun h17 => ?_)
    ·
      refine J_iconst dX6_lay_24 ?_
      refine J_iconst dX6_lay_25 ?_
      refine J_callViQ (cl := mX6_refused) [(0, ((Bool.toNat (false) : Nat) : Int)), (0, 5)] [] dX6_lay_26 mlX6_66 cvX6_refused rfl rfl rfl rfl rfl (by decide) (Nat.le_of_ble_eq_true rfl) rfl (ev_X6_refusedF 5 Mo) ?_
      refine J_ifb_eq (tgt := 34) dX6_lay_29 rfl (fun h29 => ?_) (fun h29 => ?_)
      ·
        refine J_iconst dX6_lay_34 ?_
        refine J_istore_n (L' := [(10, 0), (0, 0)]) dX6_lay_35 (by decide) rfl rfl ?_
        refine J_eq (L' := [(10, 0), (0, ((0 : Nat) : Int))]) rfl rfl rfl ?_
        exact ev_X6_lay_L36 P D n F O tl tb fa tr wh M hS Mo o1 o2 h4 (by omega) _ _ _ (by exact Ch_rf) (by intro x hx; omega) (by exact Nat.zero_le _) (Nat.lt_succ_self _)
      · exact absurd h29 (by decide)
    ·
      refine J_iconst dX6_lay_20 ?_
      refine J_goto (tgt := 25) dX6_lay_21 rfl ?_
      refine J_iconst dX6_lay_25 ?_
      refine J_callViQ (cl := mX6_refused) [(0, ((Bool.toNat (true) : Nat) : Int)), (0, 5)] [] dX6_lay_26 mlX6_66 cvX6_refused rfl rfl rfl rfl rfl (by decide) (Nat.le_of_ble_eq_true rfl) rfl (ev_X6_refusedT 5 Mo) ?_
      refine J_ifb_eq (tgt := 34) dX6_lay_29 rfl (fun h29 => ?_) (fun h29 => ?_)
      · exact absurd h29 (by decide)
      ·
        refine J_iconst dX6_lay_32 ?_
        refine J_ireturn dX6_lay_33 rfl ?_
        have et : tLa n F = 5 := by unfold tLa; rw [if_pos h4, if_pos (by omega)]
        have en : ¬ tLa n F = 0 := by rw [et]; decide
        refine ⟨by unfold A_lay; rw [if_neg en], ?_, km_up (by decide) (km_tr (km_up (by decide) (km_rf)) (km_ch o2 (by decide)))⟩
        rw [nw_f en, et]
        exact ks_tr (by decide) (ks_or o2 o1 (ks_tr u1_4 hS))
set_option maxRecDepth 100000 in
set_option maxHeartbeats 4000000 in
theorem ev_X6_feed (P D n : Nat) (F O : Nat → Nat) (tl : Nat) (tb : Nat → Nat) (fa tr wh : Int) (M : jM) (hS : KS P D n F O tl tb fa tr wh M) (a : Int) (ha : -2147483648 ≤ a ∧ a < 2147483648) (b : Int) (hb : -2147483648 ≤ b ∧ b < 2147483648) (c : Int) (hc : -2147483648 ≤ c ∧ c < 2147483648) (d : Int) (hd : -2147483648 ≤ d ∧ d < 2147483648) (e : Int) (he : -2147483648 ≤ e ∧ e < 2147483648) : Ev 1 mX6_feed [(10, 0), (0, a), (0, b), (0, c), (0, d), (0, e)] M (fun z M' => z = A_feed tl ∧ KS P D n F O (if tl ≤ 180 then (tl + 4 + 4 + 4 + 4 + 4) else tl) (if tl ≤ 180 then fdB tb tl a b c d e else tb) fa tr wh M' ∧ KM M M') := by
  refine Ev_of (by decide +kernel) (Nat.le_of_ble_eq_true rfl) (L := [(10, 0), (0, a), (0, b), (0, c), (0, d), (0, e)]) rfl ?_
  have hR := hS.1
  have hn12 := KR.hn hR
  have hP7 := KR.hP hR
  have hD5 := KR.hD hR
  have h2P : 2 ^ P ≤ 128 := Nat.pow_le_pow_right (n := 2) (by decide) hP7
  have h2p := Nat.two_pow_pos P
  have htl := hS.2.2.1.2.2.2.1
  refine J_aload_n dX6_feed_0 rfl ?_
  refine J_getR dX6_feed_1 flX6_10 rfl rfl ?_
  refine J_callViQ (cl := mX5_hasRoom) [] [] dX6_feed_4 mlX6_55 cvX5_hasRoom rfl rfl rfl rfl rfl (by decide) (Nat.le_of_ble_eq_true rfl) rfl (ev_X5_hasRoom tl htl M hS.tk.1) ?_
  refine J_ifb_ne (tgt := 12) dX6_feed_7 rfl (fun h7 => ?_) (fun h7 => ?_)
  ·
    have hd7 := of_decide_eq_true h7
    refine J_aload_n dX6_feed_12 rfl ?_
    refine J_getR dX6_feed_13 flX6_10 rfl rfl ?_
    refine J_iload_n dX6_feed_16 rfl ?_
    refine J_callVv (cl := mX5_takeFour) [(0, a)] [] dX6_feed_17 mlX6_59 cvX5_takeFour rfl rfl rfl rfl rfl (by decide) (Nat.le_of_ble_eq_true rfl) rfl (ev_X5_takeFour tl tb (by omega) M hS.tk a ha) (fun N1 hq17 => ?_)
    obtain ⟨t1, q1⟩ := hq17
    refine J_aload_n dX6_feed_20 rfl ?_
    refine J_getR dX6_feed_21 flX6_10 rfl rfl ?_
    refine J_iload_n dX6_feed_24 rfl ?_
    refine J_callVv (cl := mX5_takeFour) [(0, b)] [] dX6_feed_25 mlX6_59 cvX5_takeFour rfl rfl rfl rfl rfl (by decide) (Nat.le_of_ble_eq_true rfl) rfl (ev_X5_takeFour (tl + 4) (apd tb tl a) (by omega) N1 t1 b hb) (fun N2 hq25 => ?_)
    obtain ⟨t2, q2⟩ := hq25
    refine J_aload_n dX6_feed_28 rfl ?_
    refine J_getR dX6_feed_29 flX6_10 rfl rfl ?_
    refine J_iload_n dX6_feed_32 rfl ?_
    refine J_callVv (cl := mX5_takeFour) [(0, c)] [] dX6_feed_33 mlX6_59 cvX5_takeFour rfl rfl rfl rfl rfl (by decide) (Nat.le_of_ble_eq_true rfl) rfl (ev_X5_takeFour (tl + 4 + 4) (apd (apd tb tl a) (tl + 4) b) (by omega) N2 t2 c hc) (fun N3 hq33 => ?_)
    obtain ⟨t3, q3⟩ := hq33
    refine J_aload_n dX6_feed_36 rfl ?_
    refine J_getR dX6_feed_37 flX6_10 rfl rfl ?_
    refine J_iload dX6_feed_40 rfl ?_
    refine J_callVv (cl := mX5_takeFour) [(0, d)] [] dX6_feed_42 mlX6_59 cvX5_takeFour rfl rfl rfl rfl rfl (by decide) (Nat.le_of_ble_eq_true rfl) rfl (ev_X5_takeFour (tl + 4 + 4 + 4) (apd (apd (apd tb tl a) (tl + 4) b) (tl + 4 + 4) c) (by omega) N3 t3 d hd) (fun N4 hq42 => ?_)
    obtain ⟨t4, q4⟩ := hq42
    refine J_aload_n dX6_feed_45 rfl ?_
    refine J_getR dX6_feed_46 flX6_10 rfl rfl ?_
    refine J_iload dX6_feed_49 rfl ?_
    refine J_callVv (cl := mX5_takeFour) [(0, e)] [] dX6_feed_51 mlX6_59 cvX5_takeFour rfl rfl rfl rfl rfl (by decide) (Nat.le_of_ble_eq_true rfl) rfl (ev_X5_takeFour (tl + 4 + 4 + 4 + 4) (apd (apd (apd (apd tb tl a) (tl + 4) b) (tl + 4 + 4) c) (tl + 4 + 4 + 4) d) (by omega) N4 t4 e he) (fun N5 hq51 => ?_)
    obtain ⟨t5, q5⟩ := hq51
    refine J_aload_n dX6_feed_54 rfl ?_
    refine J_getR dX6_feed_55 flX6_10 rfl rfl ?_
    refine J_getI dX6_feed_58 flX6_63 rfl rfl (J_top (v := (((tl + 4 + 4 + 4 + 4 + 4) : Nat) : Int)) t5.1 ?_)
    refine J_ireturn dX6_feed_61 rfl ?_
    rw [if_pos (by omega), if_pos (by omega)]
    have qq := Tz_tr (Tz_tr (Tz_tr (Tz_tr q1 q2) q3) q4) q5
    exact ⟨by unfold A_feed; rw [if_pos (by omega)], ks_tk qq t5 (by omega) hS, km_ch qq.1 (by decide)⟩
  ·
    refine J_iconst dX6_feed_10 ?_
    refine J_ireturn dX6_feed_11 rfl ?_
    have h7 := of_decide_eq_false h7
    rw [if_neg (by omega), if_neg (by omega)]
    exact ⟨by unfold A_feed; rw [if_neg (by omega)], hS, km_rf⟩
set_option maxRecDepth 100000 in
set_option maxHeartbeats 4000000 in
theorem ev_X6_complex (P D n : Nat) (F O : Nat → Nat) (tl : Nat) (tb : Nat → Nat) (fa tr wh : Int) (M : jM) (hS : KS P D n F O tl tb fa tr wh M) (i : Int) (hi : -2147483648 ≤ i ∧ i < 2147483648) : Ev 9 mX6_complex [(10, 0), (0, i)] M (fun z M' => CxQ (fun P D n F O tl fa tr wh M' => KS P D n F O tl tb fa tr wh M') P D n F O tl tb fa i z M' ∧ KM M M') := by
  refine Ev_of (by decide +kernel) (Nat.le_of_ble_eq_true rfl) (L := [(10, 0), (0, i)]) rfl ?_
  have hR := hS.1
  have hn12 := KR.hn hR
  have hP7 := KR.hP hR
  have hD5 := KR.hD hR
  have h2P : 2 ^ P ≤ 128 := Nat.pow_le_pow_right (n := 2) (by decide) hP7
  have h2p := Nat.two_pow_pos P
  have htl := hS.2.2.1.2.2.2.1
  refine J_aload_n dX6_complex_0 rfl ?_
  refine J_iload_n dX6_complex_1 rfl ?_
  refine J_if_lt (tgt := 16) dX6_complex_2 rfl (by omega) (fun h2 => ?_) (fun h2 => ?_)
  ·
    refine J_iconst dX6_complex_16 ?_
    refine J_goto (tgt := 21) dX6_complex_17 rfl ?_
    refine J_iconst dX6_complex_21 ?_
    refine J_callViQ (cl := mX6_refused) [(0, ((Bool.toNat (true) : Nat) : Int)), (0, 2)] [] dX6_complex_22 mlX6_66 cvX6_refused rfl rfl rfl rfl rfl (by decide) (Nat.le_of_ble_eq_true rfl) rfl (ev_X6_refusedT 2 M) ?_
    refine J_ifb_ne (tgt := 52) dX6_complex_25 rfl (fun h25 => ?_) (fun h25 => ?_)
    ·
      refine J_iconst dX6_complex_52 ?_
      refine J_ireturn dX6_complex_53 rfl ?_
      have hrg : ¬ (0 ≤ i ∧ i ≤ (tl : Int)) := by omega
      refine ⟨?_, km_up (by decide) (km_rf)⟩
      unfold CxQ
      rw [if_neg hrg]
      exact ⟨rfl, ks_tr (by decide) hS⟩
    · exact absurd h25 (by decide)
  ·
    refine J_iload_n dX6_complex_5 rfl ?_
    refine J_aload_n dX6_complex_6 rfl ?_
    refine J_getR dX6_complex_7 flX6_10 rfl rfl ?_
    refine J_getI dX6_complex_10 flX6_63 rfl rfl (J_top (v := ((tl : Nat) : Int)) hS.tk.1 ?_)
    refine J_icmp_le (tgt := 20) dX6_complex_13 rfl (by omega) (j_R (by omega)) (fun h13 => ?_) (fun h13 => ?_)
    ·
      refine J_iconst dX6_complex_20 ?_
      refine J_iconst dX6_complex_21 ?_
      refine J_callViQ (cl := mX6_refused) [(0, ((Bool.toNat (false) : Nat) : Int)), (0, 2)] [] dX6_complex_22 mlX6_66 cvX6_refused rfl rfl rfl rfl rfl (by decide) (Nat.le_of_ble_eq_true rfl) rfl (ev_X6_refusedF 2 M) ?_
      refine J_ifb_ne (tgt := 52) dX6_complex_25 rfl (fun h25 => ?_) (fun h25 => ?_)
      · exact absurd h25 (by decide)
      ·
        refine J_aload_n dX6_complex_28 rfl ?_
        refine J_aload_n dX6_complex_29 rfl ?_
        refine J_getR dX6_complex_30 flX6_10 rfl rfl ?_
        refine J_iload_n dX6_complex_33 rfl (J_top (v := (((Int.toNat i) : Nat) : Int)) (by omega) ?_)
        refine J_callVi (cl := mX5_readAll) [(0, (((Int.toNat i) : Nat) : Int))] [(10, 0)] dX6_complex_34 mlX6_70 cvX5_readAll rfl rfl rfl rfl rfl (by decide) (Nat.le_of_ble_eq_true rfl) rfl (ev_X5_readAll (Int.toNat i) tl tb (by omega) htl (j_up M 0 6 0) ⟨by rw [j_up_ne (by decide)]; exact hS.tk.1, fun x hx => by rw [j_up_ne (by decide)]; exact hS.tk.2 x hx⟩) (fun z34 Mb hq34 => ?_)
        have b1 := hq34
        refine J_if_ne (tgt := 44) dX6_complex_37 rfl (by rcases pkq01 b1 with q | q <;> rw [q] <;> decide) (fun h37 => ?_) (fun h37 => ?_)
        ·
          refine J_iconst dX6_complex_44 ?_
          refine J_iconst dX6_complex_45 ?_
          refine J_callViQ (cl := mX6_refused) [(0, ((Bool.toNat (false) : Nat) : Int)), (0, 4)] [] dX6_complex_46 mlX6_66 cvX6_refused rfl rfl rfl rfl rfl (by decide) (Nat.le_of_ble_eq_true rfl) rfl (ev_X6_refusedF 4 Mb) ?_
          refine J_ifb_eq (tgt := 54) dX6_complex_49 rfl (fun h49 => ?_) (fun h49 => ?_)
          ·
            have hrg : 0 ≤ i ∧ i ≤ (tl : Int) := by omega
            obtain ⟨ss, PP, DD, mm, RR, s0, s1, s2, s3, s4, s5, s6⟩ := pk_inr b1 h37
            have s0' : cxR i.toNat tb = .inr (ss, PP, DD, mm, RR) := s0
            have wf9 := (cx_wf s0').1
            refine J_aload_n dX6_complex_54 rfl ?_
            refine J_getR dX6_complex_55 flX6_19 rfl rfl ?_
            refine J_aload_n dX6_complex_58 rfl ?_
            refine J_getR dX6_complex_59 flX6_10 rfl rfl ?_
            refine J_callVv (cl := mX0_take) [(11, 0)] [] dX6_complex_62 mlX6_74 cvX0_take rfl rfl rfl rfl rfl (by decide) (Nat.le_of_ble_eq_true rfl) rfl (ev_X0_take PP DD mm RR s5.2.2 s5.1 s5.2.1 (j_up Mb 0 6 0) (by rw [j_up_ne (by decide)]; exact s2) (by rw [j_up_ne (by decide)]; exact s3) (by rw [j_up_ne (by decide)]; exact s4) (fun j hj => by rw [j_up_ne (by decide)]; exact s6 j hj)) (fun Mc hq62 => ?_)
            obtain ⟨c1, c2, c3, c4, c5⟩ := hq62
            refine J_aload_n dX6_complex_65 rfl ?_
            refine J_getR dX6_complex_66 flX6_26 rfl rfl ?_
            refine J_callVv (cl := mX3_reset) [] [] dX6_complex_69 mlX6_78 cvX3_reset rfl rfl rfl rfl rfl (by decide) (Nat.le_of_ble_eq_true rfl) rfl (ev_X3_reset Mc) (fun Md hq69 => ?_)
            obtain ⟨d1, d2⟩ := hq69
            have kf9 : KF PP DD mm RR (fun k => k) Md := ⟨wf9, by rw [d1 4 (by decide)]; exact c2, by rw [d1 4 (by decide)]; exact c3, by rw [d1 4 (by decide)]; exact c4, fun j hj => by rw [d1 5 (by decide)]; exact c5 j hj, fun j hj => d2 j (by omega)⟩
            refine J_aload_n dX6_complex_72 rfl ?_
            refine J_callVv (cl := mX6_renew) [] [] dX6_complex_73 mlX6_81 cvX6_renew rfl rfl rfl rfl rfl (by decide) (Nat.le_of_ble_eq_true rfl) rfl (ev_X6_renew mm RR Md kf9.kb) (fun Me hq73 => ?_)
            obtain ⟨e1, e2, e3, e4⟩ := hq73
            refine J_aload_n dX6_complex_76 rfl ?_
            refine J_getR dX6_complex_77 flX6_19 rfl rfl ?_
            refine J_getI dX6_complex_80 flX6_84 rfl rfl (J_top (v := ((mm : Nat) : Int)) (by rw [e1 4 (by decide), d1 4 (by decide)]; exact c4) ?_)
            refine J_ireturn dX6_complex_83 rfl ?_
            refine ⟨?_, km_tr (km_up (by decide) (km_tr (km_up (by decide) (km_rf)) (km_ch b1.1.1 (by decide)))) (km_tr (km_ch c1 (by decide)) (km_tr (km_ch d1 (by decide)) (km_ch e1 (by decide))))⟩
            unfold CxQ
            rw [if_pos hrg, s0']
            have hc9 : Ch [0, 1, 3, 4, 5, 10] M Md := Ch_tr (Ch_up (by decide) (Ch_tr (Ch_up (by decide) Ch_rf) (Ch_mo b1.1.1 (by decide)))) (Ch_tr (Ch_mo c1 (by decide)) (Ch_mo d1 (by decide)))
            exact ⟨rfl, ks_new (by rw [d1 0 (by decide), c1 0 (by decide)]; exact j_up_eq) ⟨by rw [d1 1 (by decide), c1 1 (by decide), j_up_ne (by decide)]; exact s1, fun q => absurd q (by decide), by rw [d1 1 (by decide), c1 1 (by decide), j_up_ne (by decide)]; exact b1.2.1, by omega, fun x hx => by omega⟩ (cc_ch hc9 (by decide) hS.cc) kf9 e1 e2 e3 e4⟩
          · exact absurd (h25.symm.trans h49) (by decide)
        ·
          refine J_iconst dX6_complex_40 ?_
          refine J_goto (tgt := 45) dX6_complex_41 rfl ?_
          refine J_iconst dX6_complex_45 ?_
          refine J_callViQ (cl := mX6_refused) [(0, ((Bool.toNat (true) : Nat) : Int)), (0, 4)] [] dX6_complex_46 mlX6_66 cvX6_refused rfl rfl rfl rfl rfl (by decide) (Nat.le_of_ble_eq_true rfl) rfl (ev_X6_refusedT 4 Mb) ?_
          refine J_ifb_eq (tgt := 54) dX6_complex_49 rfl (fun h49 => ?_) (fun h49 => ?_)
          · exact absurd h49 (by decide)
          ·
            refine J_iconst dX6_complex_52 ?_
            refine J_ireturn dX6_complex_53 rfl ?_
            have hrg : 0 ≤ i ∧ i ≤ (tl : Int) := by omega
            obtain ⟨f, pp, r1, r2, r3⟩ := pk_inl b1 h37
            refine ⟨?_, km_up (by decide) (km_tr (km_up (by decide) (km_rf)) (km_ch b1.1.1 (by decide)))⟩
            unfold CxQ
            rw [if_pos hrg]
            have r1' : cxR i.toNat tb = .inl (f, pp) := r1
            rw [r1']
            exact ⟨rfl, ks_rd b1.1 b1.2.1 r2 r3 (ks_tr (by decide) hS)⟩
    ·
      refine J_iconst dX6_complex_16 ?_
      refine J_goto (tgt := 21) dX6_complex_17 rfl ?_
      refine J_iconst dX6_complex_21 ?_
      refine J_callViQ (cl := mX6_refused) [(0, ((Bool.toNat (true) : Nat) : Int)), (0, 2)] [] dX6_complex_22 mlX6_66 cvX6_refused rfl rfl rfl rfl rfl (by decide) (Nat.le_of_ble_eq_true rfl) rfl (ev_X6_refusedT 2 M) ?_
      refine J_ifb_ne (tgt := 52) dX6_complex_25 rfl (fun h25 => ?_) (fun h25 => ?_)
      ·
        refine J_iconst dX6_complex_52 ?_
        refine J_ireturn dX6_complex_53 rfl ?_
        have hrg : ¬ (0 ≤ i ∧ i ≤ (tl : Int)) := by omega
        refine ⟨?_, km_up (by decide) (km_rf)⟩
        unfold CxQ
        rw [if_neg hrg]
        exact ⟨rfl, ks_tr (by decide) hS⟩
      · exact absurd h25 (by decide)
