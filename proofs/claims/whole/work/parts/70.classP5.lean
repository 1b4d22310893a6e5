theorem tz_ch {zs : List Int} {ks : List Nat} {M M' : jM} (h : Tz zs ks M M') : Ch (1 :: ks) M M' := h.1
theorem KS.tk {P D n : Nat} {F O : Nat → Nat} {tl : Nat} {tb : Nat → Nat} {fa tr wh : Int} {M : jM} (h : KS P D n F O tl tb fa tr wh M) : TkS tl tb M := ⟨h.2.2.1.2.2.1, h.2.2.1.2.2.2.2⟩
theorem ks_tk {P D n : Nat} {F O : Nat → Nat} {tl tl' : Nat} {tb tb' : Nat → Nat} {fa tr wh : Int} {M M' : jM} (hz : Tz [1] [2] M M') (ht : TkS tl' tb' M') (hl : tl' ≤ 200) (h : KS P D n F O tl tb fa tr wh M) : KS P D n F O tl' tb' fa tr wh M' := by
  obtain ⟨h1, h2, ⟨h3, h4, h5, h6, h7⟩, h8, h9, h10⟩ := h
  have hc := hz.1
  exact ⟨kr_ch hc (by decide) h1, by rw [hc 0 (by decide)]; exact h2, ⟨by rw [hz.2 2 (by decide)]; exact h3, fun q => by rw [hz.2 3 (by decide)]; exact h4 q, ht.1, hl, ht.2⟩, cc_ch hc (by decide) h8, oq_ch hc (by decide) h9, sq_ch hc (by decide) h10⟩
theorem ly_kr {P D n : Nat} {F O O' : Nat → Nat} {M M' : jM} (h : KR P D n F O M) (hc : Ch [10] M M') (wf : WF P D n F O') (hO : ∀ i : Nat, i < n → M' 10 (i : Int) = (O' i : Int)) : KR P D n F O' M' := by
  obtain ⟨⟨h0, h1, h2, h3, h4, h5⟩, t1, t2, t3⟩ := h
  refine ⟨⟨wf, by rw [hc 4 (by decide)]; exact h1, by rw [hc 4 (by decide)]; exact h2, by rw [hc 4 (by decide)]; exact h3, ?_, hO⟩, ?_, ?_, ?_⟩
  · rw [hc 5 (by decide)]; exact h4
  · rw [hc 6 (by decide)]; exact t1
  · rw [hc 7 (by decide)]; exact t2
  · rw [hc 8 (by decide)]; exact t3
theorem kf_set {P D n : Nat} {F F' O : Nat → Nat} {M M' : jM} (h : KF P D n F O M) (hc : Ch [5] M M') (wf : WF P D n F' O) (hF : ∀ i : Nat, i < n → M' 5 (i : Int) = (F' i : Int)) : KF P D n F' O M' := by
  obtain ⟨h0, h1, h2, h3, h4, h5⟩ := h
  exact ⟨wf, by rw [hc 4 (by decide)]; exact h1, by rw [hc 4 (by decide)]; exact h2, by rw [hc 4 (by decide)]; exact h3, hF, by rw [hc 10 (by decide)]; exact h5⟩
theorem pk_inl {M M' : jM} {r : LnR} {z : Int} (h : PkQ M r z M') (hz : z = 0) : ∃ f p : Nat, r = .inl (f, p) ∧ M' 1 2 = (f : Int) ∧ M' 1 3 = (p : Int) := by
  obtain ⟨-, -, h⟩ := h
  match r, h with
  | .inl (f, p), h => exact ⟨f, p, rfl, h.2.1, h.2.2⟩
  | .inr (s, P, D, m, R), h => exact absurd (h.1.symm.trans hz) (by decide)
theorem pk_inr {M M' : jM} {r : LnR} {z : Int} (h : PkQ M r z M') (hz : ¬ z = 0) : ∃ (s P D m : Nat) (R : Nat → Nat), r = .inr (s, P, D, m, R) ∧ M' 1 2 = 0 ∧ M' 1 5 = (P : Int) ∧ M' 1 6 = (D : Int) ∧ M' 1 7 = (m : Int) ∧ (P ≤ 7 ∧ D ≤ 5 ∧ m ≤ 12) ∧ ∀ j : Nat, j < m → M' 3 (j : Int) = (R j : Int) ∧ R j < 128 := by
  obtain ⟨-, -, h⟩ := h
  match r, h with
  | .inl (f, p), h => exact absurd h.1 hz
  | .inr (s, P, D, m, R), h => exact ⟨s, P, D, m, R, rfl, h.2⟩
theorem ly_mid {P D n : Nat} {F O : Nat → Nat} {M M2 : jM} {k : Nat} (h : KR P D n F O M) (hc : Ch [10] M M2) : ∀ O', WF P D n F O' → (∀ i : Nat, i < n → M2 10 (i : Int) = (O' i : Int)) → KR P D n F O' M2 := fun _ wf hO => ly_kr h hc wf hO
set_option maxRecDepth 100000 in
set_option maxHeartbeats 4000000 in
theorem ev_X6_turn (P D n : Nat) (F O : Nat → Nat) (tl : Nat) (tb : Nat → Nat) (fa tr wh : Int) (M : jM) (hS : KS P D n F O tl tb fa tr wh M) (i : Int) (hi : -2147483648 ≤ i ∧ i < 2147483648) (j : Int) (hj : -2147483648 ≤ j ∧ j < 2147483648) : Ev 5 mX6_turn [(10, 0), (0, i), (0, j)] M (fun z M' => z = A_turn P n F i j ∧ KS P D n (nw (u1 (bTu P n i j)) (trF F i.toNat j.toNat) F) O tl tb fa (u1 (bTu P n i j)) 0 M' ∧ KM M M') := by
  refine Ev_of (by decide +kernel) (Nat.le_of_ble_eq_true rfl) (L := [(10, 0), (0, i), (0, j), (9, 0)]) rfl ?_
  have hR := hS.1
  have hn12 := KR.hn hR
  have hP7 := KR.hP hR
  have hD5 := KR.hD hR
  have h2P : 2 ^ P ≤ 128 := Nat.pow_le_pow_right (n := 2) (by decide) hP7
  have h2p := Nat.two_pow_pos P
  refine J_aload_n dX6_turn_0 rfl ?_
  refine J_aload_n dX6_turn_1 rfl ?_
  refine J_getR dX6_turn_2 flX6_19 rfl rfl ?_
  refine J_iload_n dX6_turn_5 rfl ?_
  refine J_callViQ (cl := mX0_isPoint) [(0, i)] [(10, 0)] dX6_turn_6 mlX6_304 cvX0_isPoint rfl rfl rfl rfl rfl (by decide) (Nat.le_of_ble_eq_true rfl) rfl (ev_X0_isPoint P D n F O M hR i (by omega)) ?_
  refine J_ifb_eq (tgt := 28) dX6_turn_9 rfl (fun h9 => ?_) (fun h9 => ?_)
  ·
    refine J_iconst dX6_turn_28 ?_
    refine J_goto (tgt := 33) dX6_turn_29 rfl ?_
    refine J_iconst dX6_turn_33 ?_
    refine J_callViQ (cl := mX6_refused) [(0, ((Bool.toNat (true) : Nat) : Int)), (0, 1)] [] dX6_turn_34 mlX6_66 cvX6_refused rfl rfl rfl rfl rfl (by decide) (Nat.le_of_ble_eq_true rfl) rfl (ev_X6_refusedT 1 M) ?_
    refine J_ifb_eq (tgt := 42) dX6_turn_37 rfl (fun h37 => ?_) (fun h37 => ?_)
    · exact absurd h37 (by decide)
    ·
      refine J_iconst dX6_turn_40 ?_
      refine J_ireturn dX6_turn_41 rfl ?_
      have q := of_decide_eq_false h9
      have e : bTu P n i j = false := by
        unfold bTu bT
        by_cases hn0 : 0 < n
        · rw [decide_eq_true hn0, Bool.true_and]
          exact decide_eq_false (by omega)
        · rw [decide_eq_false hn0, Bool.false_and]
      have en : ¬ u1 (bTu P n i j) = 0 := by rw [u1_f e]; decide
      exact ⟨by unfold A_turn; rw [if_neg (by rw [e]; decide)], by rw [nw_f en, u1_f e]; exact ks_tr (by decide) hS, km_up (by decide) (km_rf)⟩
  ·
    refine J_aload_n dX6_turn_12 rfl ?_
    refine J_getR dX6_turn_13 flX6_19 rfl rfl ?_
    refine J_iload_n dX6_turn_16 rfl ?_
    refine J_callViQ (cl := mX0_isPoint) [(0, j)] [(10, 0)] dX6_turn_17 mlX6_304 cvX0_isPoint rfl rfl rfl rfl rfl (by decide) (Nat.le_of_ble_eq_true rfl) rfl (ev_X0_isPoint P D n F O M hR j (by omega)) ?_
    refine J_ifb_eq (tgt := 28) dX6_turn_20 rfl (fun h20 => ?_) (fun h20 => ?_)
    ·
      refine J_iconst dX6_turn_28 ?_
      refine J_goto (tgt := 33) dX6_turn_29 rfl ?_
      refine J_iconst dX6_turn_33 ?_
      refine J_callViQ (cl := mX6_refused) [(0, ((Bool.toNat (true) : Nat) : Int)), (0, 1)] [] dX6_turn_34 mlX6_66 cvX6_refused rfl rfl rfl rfl rfl (by decide) (Nat.le_of_ble_eq_true rfl) rfl (ev_X6_refusedT 1 M) ?_
      refine J_ifb_eq (tgt := 42) dX6_turn_37 rfl (fun h37 => ?_) (fun h37 => ?_)
      · exact absurd h37 (by decide)
      ·
        refine J_iconst dX6_turn_40 ?_
        refine J_ireturn dX6_turn_41 rfl ?_
        have q := of_decide_eq_false h20
        have e : bTu P n i j = false := by
          unfold bTu bT
          by_cases hn0 : 0 < n
          · rw [decide_eq_true hn0, Bool.true_and]
            exact decide_eq_false (by omega)
          · rw [decide_eq_false hn0, Bool.false_and]
        have en : ¬ u1 (bTu P n i j) = 0 := by rw [u1_f e]; decide
        exact ⟨by unfold A_turn; rw [if_neg (by rw [e]; decide)], by rw [nw_f en, u1_f e]; exact ks_tr (by decide) hS, km_up (by decide) (km_rf)⟩
    ·
      refine J_iload_n dX6_turn_23 rfl ?_
      refine J_iload_n dX6_turn_24 rfl ?_
      refine J_icmp_ne (tgt := 32) dX6_turn_25 rfl (by omega) (by omega) (fun h25 => ?_) (fun h25 => ?_)
      ·
        refine J_iconst dX6_turn_32 ?_
        refine J_iconst dX6_turn_33 ?_
        refine J_callViQ (cl := mX6_refused) [(0, ((Bool.toNat (false) : Nat) : Int)), (0, 1)] [] dX6_turn_34 mlX6_66 cvX6_refused rfl rfl rfl rfl rfl (by decide) (Nat.le_of_ble_eq_true rfl) rfl (ev_X6_refusedF 1 M) ?_
        refine J_ifb_eq (tgt := 42) dX6_turn_37 rfl (fun h37 => ?_) (fun h37 => ?_)
        ·
          have q1 := of_decide_eq_true h9
          have q2 := of_decide_eq_true h20
          refine J_aload_n dX6_turn_42 rfl ?_
          refine J_getR dX6_turn_43 flX6_19 rfl rfl ?_
          refine J_iload_n dX6_turn_46 rfl (J_top (v := (((Int.toNat i) : Nat) : Int)) (by omega) ?_)
          refine J_iload_n dX6_turn_47 rfl (J_top (v := (((Int.toNat j) : Nat) : Int)) (by omega) ?_)
          refine J_callVi (cl := mX0_rename) [(0, (((Int.toNat i) : Nat) : Int)), (0, (((Int.toNat j) : Nat) : Int))] [] dX6_turn_48 mlX6_307 cvX0_rename rfl rfl rfl rfl rfl (by decide) (Nat.le_of_ble_eq_true rfl) rfl (ev_X0_rename n F (j_up M 0 6 0) (kr_up (by decide) hR).1.kb (Int.toNat i) (Int.toNat j) (by omega) (by omega) (by omega)) (fun z48 Ma hq48 => ?_)
          obtain ⟨rfl, a1, a2⟩ := hq48
          refine J_istore_n (L' := [(10, 0), (0, i), (0, j), (0, (((cntN n (trQ F (Int.toNat i) (Int.toNat j))) : Nat) : Int))]) dX6_turn_51 (by decide) rfl rfl ?_
          refine J_aload_n dX6_turn_52 rfl ?_
          refine J_callVv (cl := mX6_renew) [] [] dX6_turn_53 mlX6_81 cvX6_renew rfl rfl rfl rfl rfl (by decide) (Nat.le_of_ble_eq_true rfl) rfl (ev_X6_renew n (trF F (Int.toNat i) (Int.toNat j)) Ma (kf_set (kr_up (by decide) hR).1 a1 (tr_wf hR.wf (by omega) (by omega)) a2).kb) (fun Mb hq53 => ?_)
          obtain ⟨b1, b2, b3, b4⟩ := hq53
          refine J_iload_n dX6_turn_56 rfl ?_
          refine J_ireturn dX6_turn_57 rfl ?_
          have e : bTu P n i j = true := by unfold bTu bT; rw [decide_eq_true q1.1, Bool.true_and]; exact decide_eq_true (by omega)
          refine ⟨by unfold A_turn; rw [if_pos e], ?_, km_tr (km_up (by decide) (km_rf)) (km_tr (km_ch a1 (by decide)) (km_ch b1 (by decide)))⟩
          rw [nw_t (u1_t e), u1_t e]
          have hc9 : Ch [0, 5] M Ma := Ch_tr (Ch_up (by decide) Ch_rf) (Ch_mo a1 (by decide))
          exact ks_new (by rw [a1 0 (by decide)]; exact j_up_eq) (hS.tp hc9 (by decide) (by decide)) (cc_ch hc9 (by decide) hS.cc) (kf_set (kr_up (by decide) hR).1 a1 (tr_wf hR.wf (by omega) (by omega)) a2) b1 b2 b3 b4
        · exact absurd h37 (by decide)
      ·
        refine J_iconst dX6_turn_28 ?_
        refine J_goto (tgt := 33) dX6_turn_29 rfl ?_
        refine J_iconst dX6_turn_33 ?_
        refine J_callViQ (cl := mX6_refused) [(0, ((Bool.toNat (true) : Nat) : Int)), (0, 1)] [] dX6_turn_34 mlX6_66 cvX6_refused rfl rfl rfl rfl rfl (by decide) (Nat.le_of_ble_eq_true rfl) rfl (ev_X6_refusedT 1 M) ?_
        refine J_ifb_eq (tgt := 42) dX6_turn_37 rfl (fun h37 => ?_) (fun h37 => ?_)
        · exact absurd h37 (by decide)
        ·
          refine J_iconst dX6_turn_40 ?_
          refine J_ireturn dX6_turn_41 rfl ?_
          have e : bTu P n i j = false := by
            unfold bTu bT
            by_cases hn0 : 0 < n
            · rw [decide_eq_true hn0, Bool.true_and]
              exact decide_eq_false (by omega)
            · rw [decide_eq_false hn0, Bool.false_and]
          have en : ¬ u1 (bTu P n i j) = 0 := by rw [u1_f e]; decide
          exact ⟨by unfold A_turn; rw [if_neg (by rw [e]; decide)], by rw [nw_f en, u1_f e]; exact ks_tr (by decide) hS, km_up (by decide) (km_rf)⟩
