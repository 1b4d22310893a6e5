set_option maxRecDepth 100000 in
set_option maxHeartbeats 4000000 in
theorem ev_X7_shellings (P D n : Nat) (F O : Nat → Nat) (tl : Nat) (tb : Nat → Nat) (fa tr wh : Int) (M : jM) (hS : MS P D n F O tl tb fa tr wh M) : Ev 4 mX7_shellings [(33, 0)] M (fun z M' => z = A_shellings n F ∧ MS P D n F O tl tb fa (u1 (bT n)) 0 M' ∧ CM M M') := by
  refine Ev_of (by decide +kernel) (Nat.le_of_ble_eq_true rfl) (L := [(33, 0)]) rfl ?_
  have hR := hS.1
  have hn12 := MR.hn hR
  have hP7 := MR.hP hR
  have hD5 := MR.hD hR
  refine J_aload_n dX7_shellings_0 rfl ?_
  refine J_callVi (cl := mX7_isLaid) [] [] dX7_shellings_1 mlX7_304 cvX7_isLaid rfl rfl rfl rfl rfl (by decide) (Nat.le_of_ble_eq_true rfl) rfl (ev_X7_isLaid P D n F O M hR) (fun z1 Ma hq1 => ?_)
  obtain ⟨rfl, a1, a2⟩ := hq1
  refine J_ifb_eq (tgt := 16) dX7_shellings_4 rfl (fun h4 => ?_) (fun h4 => ?_)
  ·
    refine J_iconst dX7_shellings_16 ?_
    refine J_ireturn dX7_shellings_17 rfl ?_
    exact ⟨by unfold A_shellings bT; rw [h4]; rfl, by unfold u1 bT; exact ms_ch a1 (by decide) (by decide) (by decide) (ms_ref if01 hS), cm_tr cm_ref (cm_ch a1 (by decide))⟩
  ·
    refine J_aload_n dX7_shellings_7 rfl ?_
    refine J_getR dX7_shellings_8 flX7_46 rfl rfl ?_
    refine J_iconst dX7_shellings_11 ?_
    refine J_iald dX7_shellings_12 rfl (by decide) (by omega) (J_top (v := (((won F n 0) : Nat) : Int)) ((a2 h4).2 0 (Nat.two_pow_pos n)) ?_)
    refine J_goto (tgt := 17) dX7_shellings_13 rfl ?_
    refine J_ireturn dX7_shellings_17 rfl ?_
    exact ⟨by unfold A_shellings bT; rw [h4]; rfl, by unfold u1 bT; exact ms_ch a1 (by decide) (by decide) (by decide) (ms_ref if01 hS), cm_tr cm_ref (cm_ch a1 (by decide))⟩
set_option maxRecDepth 100000 in
set_option maxHeartbeats 4000000 in
theorem ev_X7_shelled (P D n : Nat) (F O : Nat → Nat) (tl : Nat) (tb : Nat → Nat) (fa tr wh : Int) (M : jM) (hS : MS P D n F O tl tb fa tr wh M) (i : Int) (hi : -2147483648 ≤ i ∧ i < 2147483648) : Ev 4 mX7_shelled [(33, 0), (0, i)] M (fun z M' => z = A_shelled n F i ∧ MS P D n F O tl tb fa (u1 (bI n i)) 0 M' ∧ CM M M') := by
  refine Ev_of (by decide +kernel) (Nat.le_of_ble_eq_true rfl) (L := [(33, 0), (0, i)]) rfl ?_
  have hR := hS.1
  have hn12 := MR.hn hR
  have hP7 := MR.hP hR
  have hD5 := MR.hD hR
  refine J_aload_n dX7_shelled_0 rfl ?_
  refine J_aload_n dX7_shelled_1 rfl ?_
  refine J_iload_n dX7_shelled_2 rfl ?_
  refine J_callViQ (cl := mX7_isFacet) [(0, i)] [(33, 0)] dX7_shelled_3 mlX7_231 cvX7_isFacet rfl rfl rfl rfl rfl (by decide) (Nat.le_of_ble_eq_true rfl) rfl (ev_X7_isFacet P D n F O M hR i (by omega)) ?_
  refine J_callSiQ (cl := mX7_unless) [(0, ((Bool.toNat (decide (0 ≤ i ∧ i < (n : Int))) : Nat) : Int))] [(33, 0)] dX7_shelled_6 mlX7_199 csX7_unless rfl rfl (by decide) (Nat.le_of_ble_eq_true rfl) rfl (ev_X7_unless (decide (0 ≤ i ∧ i < (n : Int))) M) ?_
  refine J_callViQ (cl := mX7_isRefused) [(0, (if (decide (0 ≤ i ∧ i < (n : Int))) = true then 0 else 1))] [] dX7_shelled_9 mlX7_159 cvX7_isRefused rfl rfl rfl rfl rfl (by decide) (Nat.le_of_ble_eq_true rfl) rfl (ev_X7_isRefused (if (decide (0 ≤ i ∧ i < (n : Int))) = true then 0 else 1) (ifR _ (by decide) (by decide)) M) (J_top (v := ((Bool.toNat (!(decide (0 ≤ i ∧ i < (n : Int)))) : Nat) : Int)) (rf_un _) ?_)
  refine J_ifn_eq (b := (decide (0 ≤ i ∧ i < (n : Int)))) (tgt := 17) dX7_shelled_12 rfl (fun h12 => ?_) (fun h12 => ?_)
  ·
    refine J_aload_n dX7_shelled_17 rfl ?_
    refine J_aload_n dX7_shelled_18 rfl ?_
    refine J_getR dX7_shelled_19 flX7_17 rfl rfl ?_
    refine J_aload_n dX7_shelled_22 rfl ?_
    refine J_getI dX7_shelled_23 flX7_176 rfl rfl (J_top (v := ((n : Nat) : Int)) (MR.gn (mr_upF (by decide) (mr_upF (by decide) (mr_upF (by decide) hR)))) ?_)
    refine J_callVv (cl := mX7_laysWays) [(35, 0), (0, ((n : Nat) : Int))] [] dX7_shelled_26 mlX7_301 cvX7_laysWays rfl rfl rfl rfl rfl (by decide) (Nat.le_of_ble_eq_true rfl) rfl (ev_X7_laysWays_25 n (by omega) F _ (MR.row (mr_upF (by decide) (mr_upF (by decide) (mr_upF (by decide) hR))))) (fun Mb hq26 => ?_)
    obtain ⟨b1, b2, b3⟩ := hq26
    refine J_aload_n dX7_shelled_29 rfl ?_
    refine J_getR dX7_shelled_30 flX7_46 rfl rfl ?_
    refine J_iconst dX7_shelled_33 ?_
    refine J_iald dX7_shelled_34 rfl (by decide) (by omega) (J_top (v := (((won F n 0) : Nat) : Int)) (b3 0 (Nat.two_pow_pos n)) ?_)
    refine J_if_ne (tgt := 41) dX7_shelled_35 rfl (j_R (won31 F hn12 _)) (fun h35 => ?_) (fun h35 => ?_)
    ·
      refine J_aload_n dX7_shelled_41 rfl ?_
      refine J_callVv (cl := mX7_laysLeast) [] [] dX7_shelled_42 mlX7_307 cvX7_laysLeast rfl rfl rfl rfl rfl (by decide) (Nat.le_of_ble_eq_true rfl) rfl (ev_X7_laysLeast P D n F O Mb (mr_ch b1 (by decide) (by decide) (by decide) (mr_upF (by decide) (mr_upF (by decide) (mr_upF (by decide) hR)))) (by omega) b3) (fun Mc hq42 => ?_)
      obtain ⟨d1, d2⟩ := hq42
      refine J_aload_n dX7_shelled_45 rfl ?_
      refine J_getR dX7_shelled_46 flX7_49 rfl rfl ?_
      refine J_iload_n dX7_shelled_49 rfl (J_top (v := (((Int.toNat i) : Nat) : Int)) (by have := of_decide_eq_true h12; omega) ?_)
      refine J_iald dX7_shelled_50 rfl (by decide) (by have := of_decide_eq_true h12; omega) (J_top (v := (lsF F n (lsA F n (Int.toNat i)))) (d2 (Int.toNat i) (by have := of_decide_eq_true h12; omega)) ?_)
      refine J_ireturn dX7_shelled_51 rfl ?_
      exact ⟨by unfold A_shelled bI; rw [if_pos h12, if_neg (by omega)], by unfold u1 bI; exact ms_ch d1 (by decide) (by decide) (by decide) (ms_ch b1 (by decide) (by decide) (by decide) (ms_ref if01 hS)), cm_tr (cm_tr cm_ref (cm_ch b1 (by decide))) (cm_ch d1 (by decide))⟩
    ·
      refine J_bipush dX7_shelled_38 (by decide) ?_
      refine J_ireturn dX7_shelled_40 rfl ?_
      exact ⟨by unfold A_shelled bI; rw [if_pos h12, if_pos (by omega)], by unfold u1 bI; exact ms_ch b1 (by decide) (by decide) (by decide) (ms_ref if01 hS), cm_tr cm_ref (cm_ch b1 (by decide))⟩
  ·
    refine J_iconst dX7_shelled_15 ?_
    refine J_ireturn dX7_shelled_16 rfl ?_
    exact ⟨by unfold A_shelled bI; rw [h12]; rfl, by unfold u1 bI; exact ms_ref if01 hS, cm_ref⟩
set_option maxRecDepth 100000 in
set_option maxHeartbeats 4000000 in
theorem ev_X7_peelable_L22 (P D n : Nat) (F O : Nat → Nat) (tl : Nat) (tb : Nat → Nat) (fa tr wh : Int) (M : jM) (hS : MS P D n F O tl tb fa tr wh M) (Ma : jM) (a1 : Ch [33, 34] (j_up (j_up (j_up M 23 0 0) 23 3 (-1)) 23 1 (if decide (0 < n) = true then 0 else 1)) Ma) (a2 : decide (0 < n) = true → (∀ u : Nat, u < 2 ^ n → Ma 33 (u : Int) = ((wto F n u : Nat) : Int)) ∧ (∀ u : Nat, u < 2 ^ n → Ma 34 (u : Int) = ((won F n u : Nat) : Int))) (h4 : decide (0 < n) = true) : ∀ (fu : Nat) (k : Nat) (f2 : k ≤ n) (hfu : n - k < fu), J none 4 mX7_peelable 22 [(33, 0), (0, (((2 ^ n - 1) : Nat) : Int)), (0, (((mskN k (plQ n F)) : Nat) : Int)), (0, ((k : Nat) : Int)), (9, 0)] [] Ma (j_ret mX7_peelable (fun z M' => z = A_peelable n F ∧ MS P D n F O tl tb fa (u1 (bT n)) 0 M' ∧ CM M M')) := by
  intro fu
  induction fu with
  | zero => intro k f2 hfu; exact absurd hfu (Nat.not_lt_zero _)
  | succ fu ih =>
    intro k f2 hfu
    have hR := hS.1
    have hn12 := MR.hn hR
    have hP7 := MR.hP hR
    have hD5 := MR.hD hR
    refine J_iload_n dX7_peelable_22 rfl ?_
    refine J_aload_n dX7_peelable_23 rfl ?_
    refine J_getI dX7_peelable_24 flX7_176 rfl rfl (J_top (v := ((n : Nat) : Int)) (MR.gn (mr_ch a1 (by decide) (by decide) (by decide) (mr_upF (by decide) (mr_upF (by decide) (mr_upF (by decide) hR))))) ?_)
    refine J_icmp_ge (tgt := 78) dX7_peelable_27 rfl (j_R (by omega)) (j_R (by omega)) (fun h27 => ?_) (fun h27 => ?_)
    ·
      refine J_iload_n dX7_peelable_78 rfl ?_
      refine J_ireturn dX7_peelable_79 rfl ?_
      exact ⟨by unfold A_peelable bT; rw [if_pos h4, show k = n by omega], by unfold u1 bT; exact ms_ch a1 (by decide) (by decide) (by decide) (ms_ref if01 hS), cm_tr cm_ref (cm_ch a1 (by decide))⟩
    ·
      refine J_iload_n dX7_peelable_30 rfl ?_
      refine J_iconst dX7_peelable_31 ?_
      refine J_iload_n dX7_peelable_32 rfl ?_
      refine J_ishl dX7_peelable_33 (J_top (v := (((2 ^ k) : Nat) : Int)) (j_shl1 rfl rfl (by omega)) ?_)
      refine J_iconst dX7_peelable_34 ?_
      refine J_ixor dX7_peelable_35 (J_top (v := (-(((2 ^ k) : Nat) : Int) - 1)) (j_notN rfl (nb_p2 (by omega))) ?_)
      refine J_iand dX7_peelable_36 (J_top (v := (((ndf (2 ^ n - 1) (2 ^ k)) : Nat) : Int)) (j_ndfN rfl rfl (af31 hR)) ?_)
      refine J_istore (L' := [(33, 0), (0, (((2 ^ n - 1) : Nat) : Int)), (0, (((mskN k (plQ n F)) : Nat) : Int)), (0, ((k : Nat) : Int)), (0, (((ndf (2 ^ n - 1) (2 ^ k)) : Nat) : Int))]) dX7_peelable_37 (by decide) rfl rfl ?_
      refine J_iload_n dX7_peelable_39 rfl ?_
      refine J_aload_n dX7_peelable_40 rfl ?_
      refine J_getR dX7_peelable_41 flX7_43 rfl rfl ?_
      refine J_iload dX7_peelable_44 rfl ?_
      refine J_iald dX7_peelable_46 rfl (by decide) (by have := (show ndf (2 ^ n - 1) (2 ^ k) < 2 ^ n from nb_ndf (by have := Nat.two_pow_pos n; omega)); have := p4096 hn12; omega) (J_top (v := (((wto F n (ndf (2 ^ n - 1) (2 ^ k))) : Nat) : Int)) ((a2 h4).1 _ (show ndf (2 ^ n - 1) (2 ^ k) < 2 ^ n from nb_ndf (by have := Nat.two_pow_pos n; omega))) ?_)
      refine J_if_le (tgt := 69) dX7_peelable_47 rfl (j_R (wto31 F hn12 (show ndf (2 ^ n - 1) (2 ^ k) < 2 ^ n from nb_ndf (by have := Nat.two_pow_pos n; omega)))) (fun h47 => ?_) (fun h47 => ?_)
      ·
        refine J_iconst dX7_peelable_69 ?_
        refine J_ior dX7_peelable_70 (J_top (v := (((mskN k (plQ n F)) : Nat) : Int)) (j_or0 rfl (mskN_31 (by omega))) ?_)
        refine J_istore_n (L' := [(33, 0), (0, (((2 ^ n - 1) : Nat) : Int)), (0, (((mskN k (plQ n F)) : Nat) : Int)), (0, ((k : Nat) : Int)), (0, (((ndf (2 ^ n - 1) (2 ^ k)) : Nat) : Int))]) dX7_peelable_71 (by decide) rfl rfl ?_
        refine J_eq (L' := [(33, 0), (0, (((2 ^ n - 1) : Nat) : Int)), (0, (((mskN (k + 1) (plQ n F)) : Nat) : Int)), (0, ((k : Nat) : Int)), (0, (((ndf (2 ^ n - 1) (2 ^ k)) : Nat) : Int))]) (by rw [mskN_f (k := k) (by unfold plQ; rw [decide_eq_false (by omega)]; rfl)]) rfl rfl ?_
        refine J_iinc (v := (((k + 1) : Nat) : Int)) (L' := [(33, 0), (0, (((2 ^ n - 1) : Nat) : Int)), (0, (((mskN (k + 1) (plQ n F)) : Nat) : Int)), (0, (((k + 1) : Nat) : Int)), (0, (((ndf (2 ^ n - 1) (2 ^ k)) : Nat) : Int))]) dX7_peelable_72 rfl (by omega) (by decide) rfl rfl ?_
        refine J_goto (tgt := 22) dX7_peelable_75 rfl ?_
        refine J_unset 4 (L' := [(33, 0), (0, (((2 ^ n - 1) : Nat) : Int)), (0, (((mskN (k + 1) (plQ n F)) : Nat) : Int)), (0, (((k + 1) : Nat) : Int)), (9, 0)]) rfl ?_
        exact ih _ (by omega) (by omega)
      ·
        refine J_aload_n dX7_peelable_50 rfl ?_
        refine J_getR dX7_peelable_51 flX7_17 rfl rfl ?_
        refine J_iload_n dX7_peelable_54 rfl ?_
        refine J_iload dX7_peelable_55 rfl ?_
        refine J_callSiQ (cl := mX7_joinsSet) [(35, 0), (0, ((k : Nat) : Int)), (0, (((ndf (2 ^ n - 1) (2 ^ k)) : Nat) : Int))] [(0, (((mskN k (plQ n F)) : Nat) : Int))] dX7_peelable_57 mlX7_262 csX7_joinsSet rfl rfl (by decide) (Nat.le_of_ble_eq_true rfl) rfl (ev_X7_joinsSet_25 n (by omega) F Ma (MR.row (mr_ch a1 (by decide) (by decide) (by decide) (mr_upF (by decide) (mr_upF (by decide) (mr_upF (by decide) hR))))) k (ndf (2 ^ n - 1) (2 ^ k)) (by omega) (show ndf (2 ^ n - 1) (2 ^ k) < 2 ^ n from nb_ndf (by have := Nat.two_pow_pos n; omega))) ?_
        refine J_ifb_eq (tgt := 69) dX7_peelable_60 rfl (fun h60 => ?_) (fun h60 => ?_)
        ·
          refine J_iconst dX7_peelable_69 ?_
          refine J_ior dX7_peelable_70 (J_top (v := (((mskN k (plQ n F)) : Nat) : Int)) (j_or0 rfl (mskN_31 (by omega))) ?_)
          refine J_istore_n (L' := [(33, 0), (0, (((2 ^ n - 1) : Nat) : Int)), (0, (((mskN k (plQ n F)) : Nat) : Int)), (0, ((k : Nat) : Int)), (0, (((ndf (2 ^ n - 1) (2 ^ k)) : Nat) : Int))]) dX7_peelable_71 (by decide) rfl rfl ?_
          refine J_eq (L' := [(33, 0), (0, (((2 ^ n - 1) : Nat) : Int)), (0, (((mskN (k + 1) (plQ n F)) : Nat) : Int)), (0, ((k : Nat) : Int)), (0, (((ndf (2 ^ n - 1) (2 ^ k)) : Nat) : Int))]) (by rw [mskN_f (k := k) (by unfold plQ; rw [h60]; simp)]) rfl rfl ?_
          refine J_iinc (v := (((k + 1) : Nat) : Int)) (L' := [(33, 0), (0, (((2 ^ n - 1) : Nat) : Int)), (0, (((mskN (k + 1) (plQ n F)) : Nat) : Int)), (0, (((k + 1) : Nat) : Int)), (0, (((ndf (2 ^ n - 1) (2 ^ k)) : Nat) : Int))]) dX7_peelable_72 rfl (by omega) (by decide) rfl rfl ?_
          refine J_goto (tgt := 22) dX7_peelable_75 rfl ?_
          refine J_unset 4 (L' := [(33, 0), (0, (((2 ^ n - 1) : Nat) : Int)), (0, (((mskN (k + 1) (plQ n F)) : Nat) : Int)), (0, (((k + 1) : Nat) : Int)), (9, 0)]) rfl ?_
          exact ih _ (by omega) (by omega)
        ·
          refine J_iconst dX7_peelable_63 ?_
          refine J_iload_n dX7_peelable_64 rfl ?_
          refine J_ishl dX7_peelable_65 (J_top (v := (((2 ^ k) : Nat) : Int)) (j_shl1 rfl rfl (by omega)) ?_)
          refine J_goto (tgt := 70) dX7_peelable_66 rfl ?_
          refine J_ior dX7_peelable_70 (J_top (v := ((((mskN k (plQ n F)) ||| (2 ^ k)) : Nat) : Int)) (j_orN rfl rfl (mskN_31 (by omega)) (nb_p2 (by omega))) ?_)
          refine J_istore_n (L' := [(33, 0), (0, (((2 ^ n - 1) : Nat) : Int)), (0, ((((mskN k (plQ n F)) ||| (2 ^ k)) : Nat) : Int)), (0, ((k : Nat) : Int)), (0, (((ndf (2 ^ n - 1) (2 ^ k)) : Nat) : Int))]) dX7_peelable_71 (by decide) rfl rfl ?_
          refine J_eq (L' := [(33, 0), (0, (((2 ^ n - 1) : Nat) : Int)), (0, (((mskN (k + 1) (plQ n F)) : Nat) : Int)), (0, ((k : Nat) : Int)), (0, (((ndf (2 ^ n - 1) (2 ^ k)) : Nat) : Int))]) (by rw [mskN_t (k := k) (by unfold plQ; rw [decide_eq_true (by omega), h60]; rfl)]) rfl rfl ?_
          refine J_iinc (v := (((k + 1) : Nat) : Int)) (L' := [(33, 0), (0, (((2 ^ n - 1) : Nat) : Int)), (0, (((mskN (k + 1) (plQ n F)) : Nat) : Int)), (0, (((k + 1) : Nat) : Int)), (0, (((ndf (2 ^ n - 1) (2 ^ k)) : Nat) : Int))]) dX7_peelable_72 rfl (by omega) (by decide) rfl rfl ?_
          refine J_goto (tgt := 22) dX7_peelable_75 rfl ?_
          refine J_unset 4 (L' := [(33, 0), (0, (((2 ^ n - 1) : Nat) : Int)), (0, (((mskN (k + 1) (plQ n F)) : Nat) : Int)), (0, (((k + 1) : Nat) : Int)), (9, 0)]) rfl ?_
          exact ih _ (by omega) (by omega)
set_option maxRecDepth 100000 in
set_option maxHeartbeats 4000000 in
theorem ev_X7_peelable (P D n : Nat) (F O : Nat → Nat) (tl : Nat) (tb : Nat → Nat) (fa tr wh : Int) (M : jM) (hS : MS P D n F O tl tb fa tr wh M) : Ev 4 mX7_peelable [(33, 0)] M (fun z M' => z = A_peelable n F ∧ MS P D n F O tl tb fa (u1 (bT n)) 0 M' ∧ CM M M') := by
  refine Ev_of (by decide +kernel) (Nat.le_of_ble_eq_true rfl) (L := [(33, 0), (9, 0), (9, 0), (9, 0), (9, 0)]) rfl ?_
  have hR := hS.1
  have hn12 := MR.hn hR
  have hP7 := MR.hP hR
  have hD5 := MR.hD hR
  refine J_aload_n dX7_peelable_0 rfl ?_
  refine J_callVi (cl := mX7_isLaid) [] [] dX7_peelable_1 mlX7_304 cvX7_isLaid rfl rfl rfl rfl rfl (by decide) (Nat.le_of_ble_eq_true rfl) rfl (ev_X7_isLaid P D n F O M hR) (fun z1 Ma hq1 => ?_)
  obtain ⟨rfl, a1, a2⟩ := hq1
  refine J_ifb_ne (tgt := 9) dX7_peelable_4 rfl (fun h4 => ?_) (fun h4 => ?_)
  ·
    refine J_iconst dX7_peelable_9 ?_
    refine J_aload_n dX7_peelable_10 rfl ?_
    refine J_getI dX7_peelable_11 flX7_176 rfl rfl (J_top (v := ((n : Nat) : Int)) (MR.gn (mr_ch a1 (by decide) (by decide) (by decide) (mr_upF (by decide) (mr_upF (by decide) (mr_upF (by decide) hR))))) ?_)
    refine J_ishl dX7_peelable_14 (J_top (v := (((2 ^ n) : Nat) : Int)) (j_shl1 rfl rfl (by omega)) ?_)
    refine J_iconst dX7_peelable_15 ?_
    refine J_isub dX7_peelable_16 (J_top (v := (((2 ^ n - 1) : Nat) : Int)) (by have := Nat.two_pow_pos n; omega) ?_)
    refine J_istore_n (L' := [(33, 0), (0, (((2 ^ n - 1) : Nat) : Int)), (9, 0), (9, 0), (9, 0)]) dX7_peelable_17 (by decide) rfl rfl ?_
    refine J_iconst dX7_peelable_18 ?_
    refine J_istore_n (L' := [(33, 0), (0, (((2 ^ n - 1) : Nat) : Int)), (0, 0), (9, 0), (9, 0)]) dX7_peelable_19 (by decide) rfl rfl ?_
    refine J_iconst dX7_peelable_20 ?_
    refine J_istore_n (L' := [(33, 0), (0, (((2 ^ n - 1) : Nat) : Int)), (0, 0), (0, 0), (9, 0)]) dX7_peelable_21 (by decide) rfl rfl ?_
    refine J_eq (L' := [(33, 0), (0, (((2 ^ n - 1) : Nat) : Int)), (0, ((0 : Nat) : Int)), (0, ((0 : Nat) : Int)), (9, 0)]) rfl rfl rfl ?_
    exact ev_X7_peelable_L22 P D n F O tl tb fa tr wh M hS Ma a1 a2 h4 _ _ (by exact Nat.zero_le _) (Nat.lt_succ_self _)
  ·
    refine J_iconst dX7_peelable_7 ?_
    refine J_ireturn dX7_peelable_8 rfl ?_
    exact ⟨by unfold A_peelable bT; rw [h4]; rfl, by unfold u1 bT; exact ms_ch a1 (by decide) (by decide) (by decide) (ms_ref if01 hS), cm_tr cm_ref (cm_ch a1 (by decide))⟩
set_option maxRecDepth 100000 in
set_option maxHeartbeats 4000000 in
theorem ev_X7_goesOn_ (P D n : Nat) (F O : Nat → Nat) (tl : Nat) (tb : Nat → Nat) (fa tr wh : Int) (M : jM) (hS : MS P D n F O tl tb fa tr wh M) (k : Int) (hk : -2147483648 ≤ k ∧ k < 2147483648) : Ev 4 mX7_goesOn_ [(33, 0), (0, k)] M (fun z M' => z = A_goesOn n F O k ∧ MS P D n F O tl tb fa (u2 (bT n) (bK n k)) 0 M' ∧ CM M M') := by
  refine Ev_of (by decide +kernel) (Nat.le_of_ble_eq_true rfl) (L := [(33, 0), (0, k)]) rfl ?_
  have hR := hS.1
  have hn12 := MR.hn hR
  have hP7 := MR.hP hR
  have hD5 := MR.hD hR
  refine J_aload_n dX7_goesOn__0 rfl ?_
  refine J_aload_n dX7_goesOn__1 rfl ?_
  refine J_getI dX7_goesOn__2 flX7_179 rfl rfl (J_top (v := ((Bool.toNat (decide (0 < n)) : Nat) : Int)) (MR.gt hR) ?_)
  refine J_iload_n dX7_goesOn__5 rfl ?_
  refine J_iconst dX7_goesOn__6 ?_
  refine J_aload_n dX7_goesOn__7 rfl ?_
  refine J_getI dX7_goesOn__8 flX7_176 rfl rfl (J_top (v := ((n : Nat) : Int)) (MR.gn hR) ?_)
  refine J_callSiQ (cl := mX7_in) [(0, k), (0, 0), (0, ((n : Nat) : Int))] [(0, ((Bool.toNat (decide (0 < n)) : Nat) : Int)), (33, 0)] dX7_goesOn__11 mlX7_84 csX7_in rfl rfl (by decide) (Nat.le_of_ble_eq_true rfl) rfl (ev_X7_in k 0 ((n : Nat) : Int) (by omega) (by decide) (j_R (by omega)) M) ?_
  refine J_callSiQ (cl := mX7_unless_) [(0, ((Bool.toNat (decide (0 < n)) : Nat) : Int)), (0, ((Bool.toNat (decide (0 ≤ k ∧ k ≤ ((n : Nat) : Int))) : Nat) : Int))] [(33, 0)] dX7_goesOn__14 mlX7_206 csX7_unless_ rfl rfl (by decide) (Nat.le_of_ble_eq_true rfl) rfl (ev_X7_unless_ (decide (0 < n)) (decide (0 ≤ k ∧ k ≤ ((n : Nat) : Int))) M) ?_
  refine J_callViQ (cl := mX7_isRefused) [(0, (if (decide (0 < n)) = true then (if (decide (0 ≤ k ∧ k ≤ ((n : Nat) : Int))) = true then 0 else 2) else 1))] [] dX7_goesOn__17 mlX7_159 cvX7_isRefused rfl rfl rfl rfl rfl (by decide) (Nat.le_of_ble_eq_true rfl) rfl (ev_X7_isRefused (if (decide (0 < n)) = true then (if (decide (0 ≤ k ∧ k ≤ ((n : Nat) : Int))) = true then 0 else 2) else 1) (ifR _ (ifR _ (by decide) (by decide)) (by decide)) M) (J_top (v := ((Bool.toNat (!((decide (0 < n)) && (decide (0 ≤ k ∧ k ≤ ((n : Nat) : Int))))) : Nat) : Int)) (rf_un2 _ _) ?_)
  refine J_ifn_eq (b := ((decide (0 < n)) && (decide (0 ≤ k ∧ k ≤ ((n : Nat) : Int))))) (tgt := 25) dX7_goesOn__20 rfl (fun h20 => ?_) (fun h20 => ?_)
  ·
    refine J_aload_n dX7_goesOn__25 rfl ?_
    refine J_aload_n dX7_goesOn__26 rfl ?_
    refine J_getR dX7_goesOn__27 flX7_17 rfl rfl ?_
    refine J_aload_n dX7_goesOn__30 rfl ?_
    refine J_getI dX7_goesOn__31 flX7_176 rfl rfl (J_top (v := ((n : Nat) : Int)) (MR.gn (mr_upF (by decide) (mr_upF (by decide) (mr_upF (by decide) hR)))) ?_)
    refine J_callVv (cl := mX7_laysWays) [(35, 0), (0, ((n : Nat) : Int))] [] dX7_goesOn__34 mlX7_301 cvX7_laysWays rfl rfl rfl rfl rfl (by decide) (Nat.le_of_ble_eq_true rfl) rfl (ev_X7_laysWays_25 n (by omega) F _ (MR.row (mr_upF (by decide) (mr_upF (by decide) (mr_upF (by decide) hR))))) (fun Mb hq34 => ?_)
    obtain ⟨b1, b2, b3⟩ := hq34
    refine J_aload_n dX7_goesOn__37 rfl ?_
    refine J_callViQ (cl := mX7_goodMany) [] [] dX7_goesOn__38 mlX7_272 cvX7_goodMany rfl rfl rfl rfl rfl (by decide) (Nat.le_of_ble_eq_true rfl) rfl (ev_X7_goodMany P D n F O Mb (mr_ch b1 (by decide) (by decide) (by decide) (mr_upF (by decide) (mr_upF (by decide) (mr_upF (by decide) hR))))) ?_
    refine J_iload_n dX7_goesOn__41 rfl ?_
    refine J_icmp_ge (tgt := 49) dX7_goesOn__42 rfl (gdR hR) (by omega) (fun h42 => ?_) (fun h42 => ?_)
    ·
      refine J_aload_n dX7_goesOn__49 rfl ?_
      refine J_getR dX7_goesOn__50 flX7_46 rfl rfl ?_
      refine J_aload_n dX7_goesOn__53 rfl ?_
      refine J_iload_n dX7_goesOn__54 rfl (J_top (v := (((Int.toNat k) : Nat) : Int)) (by rw [Bool.and_eq_true] at h20; have := of_decide_eq_true h20.2; omega) ?_)
      refine J_callViQ (cl := mX7_ahead) [(0, (((Int.toNat k) : Nat) : Int))] [(44, 0)] dX7_goesOn__55 mlX7_259 cvX7_ahead rfl rfl rfl rfl rfl (by decide) (Nat.le_of_ble_eq_true rfl) rfl (ev_X7_ahead P D n F O Mb (mr_ch b1 (by decide) (by decide) (by decide) (mr_upF (by decide) (mr_upF (by decide) (mr_upF (by decide) hR)))) (Int.toNat k) (by rw [Bool.and_eq_true] at h20; have := of_decide_eq_true h20.2; omega)) ?_
      refine J_iald dX7_goesOn__58 rfl (by decide) (by have := MR.ah hR (k := Int.toNat k) (by rw [Bool.and_eq_true] at h20; have := of_decide_eq_true h20.2; omega); have := p4096 hn12; omega) (J_top (v := (((won F n (ahd O (Int.toNat k))) : Nat) : Int)) (b3 _ (MR.ah hR (by rw [Bool.and_eq_true] at h20; have := of_decide_eq_true h20.2; omega))) ?_)
      refine J_ireturn dX7_goesOn__59 rfl ?_
      exact ⟨by unfold A_goesOn bT bK; rw [if_pos h20, if_neg (by omega)], by unfold u2 bT bK; exact ms_ch b1 (by decide) (by decide) (by decide) (ms_ref if02 hS), cm_tr cm_ref (cm_ch b1 (by decide))⟩
    ·
      refine J_iconst dX7_goesOn__45 ?_
      refine J_goto (tgt := 59) dX7_goesOn__46 rfl ?_
      refine J_ireturn dX7_goesOn__59 rfl ?_
      exact ⟨by unfold A_goesOn bT bK; rw [if_pos h20, if_pos (by omega)], by unfold u2 bT bK; exact ms_ch b1 (by decide) (by decide) (by decide) (ms_ref if02 hS), cm_tr cm_ref (cm_ch b1 (by decide))⟩
  ·
    refine J_iconst dX7_goesOn__23 ?_
    refine J_ireturn dX7_goesOn__24 rfl ?_
    exact ⟨by unfold A_goesOn bT bK; rw [h20]; rfl, by unfold u2 bT bK; exact ms_ref if02 hS, cm_ref⟩
set_option maxRecDepth 100000 in
set_option maxHeartbeats 4000000 in
theorem ev_X7_stuck_L14 (P D n : Nat) (F O : Nat → Nat) (tl : Nat) (tb : Nat → Nat) (fa tr wh : Int) (M : jM) (hS : MS P D n F O tl tb fa tr wh M) (Ma : jM) (a1 : Ch [33, 34] (j_up (j_up (j_up M 23 0 0) 23 3 (-1)) 23 1 (if decide (0 < n) = true then 0 else 1)) Ma) (a2 : decide (0 < n) = true → (∀ u : Nat, u < 2 ^ n → Ma 33 (u : Int) = ((wto F n u : Nat) : Int)) ∧ (∀ u : Nat, u < 2 ^ n → Ma 34 (u : Int) = ((won F n u : Nat) : Int))) (h4 : decide (0 < n) = true) : ∀ (fu : Nat) (s : Nat) (f2 : s ≤ 2 ^ n) (hfu : 2 ^ n - s < fu), J none 4 mX7_stuck 14 [(33, 0), (0, (skN n F s)), (0, ((s : Nat) : Int)), (9, 0)] [] Ma (j_ret mX7_stuck (fun z M' => z = A_stuck n F ∧ MS P D n F O tl tb fa (u1 (bT n)) 0 M' ∧ CM M M')) := by
  intro fu
  induction fu with
  | zero => intro s f2 hfu; exact absurd hfu (Nat.not_lt_zero _)
  | succ fu ih =>
    intro s f2 hfu
    have hR := hS.1
    have hn12 := MR.hn hR
    have hP7 := MR.hP hR
    have hD5 := MR.hD hR
    have h2m := p4096 hn12
    refine J_iload_n dX7_stuck_14 rfl ?_
    refine J_iconst dX7_stuck_15 ?_
    refine J_aload_n dX7_stuck_16 rfl ?_
    refine J_getI dX7_stuck_17 flX7_176 rfl rfl (J_top (v := ((n : Nat) : Int)) (MR.gn (mr_ch a1 (by decide) (by decide) (by decide) (mr_upF (by decide) (mr_upF (by decide) (mr_upF (by decide) hR))))) ?_)
    refine J_ishl dX7_stuck_20 (J_top (v := (((2 ^ n) : Nat) : Int)) (j_shl1 rfl rfl (by omega)) ?_)
    refine J_icmp_ge (tgt := 81) dX7_stuck_21 rfl (j_R (by omega)) (j_R (nb_p2 (by omega))) (fun h21 => ?_) (fun h21 => ?_)
    ·
      refine J_iload_n dX7_stuck_81 rfl ?_
      refine J_ireturn dX7_stuck_82 rfl ?_
      exact ⟨by unfold A_stuck bT; rw [if_pos h4, show s = 2 ^ n by omega], by unfold u1 bT; exact ms_ch a1 (by decide) (by decide) (by decide) (ms_ref if01 hS), cm_tr cm_ref (cm_ch a1 (by decide))⟩
    ·
      refine J_aload_n dX7_stuck_24 rfl ?_
      refine J_getR dX7_stuck_25 flX7_43 rfl rfl ?_
      refine J_iload_n dX7_stuck_28 rfl ?_
      refine J_iald dX7_stuck_29 rfl (by decide) (by omega) (J_top (v := (((wto F n s) : Nat) : Int)) ((a2 h4).1 s (by omega)) ?_)
      refine J_if_le (tgt := 46) dX7_stuck_30 rfl (j_R (wto31 F hn12 (by omega))) (fun h30 => ?_) (fun h30 => ?_)
      ·
        refine J_iconst dX7_stuck_46 ?_
        refine J_istore_n (L' := [(33, 0), (0, (skN n F s)), (0, ((s : Nat) : Int)), (0, 0)]) dX7_stuck_47 (by decide) rfl rfl ?_
        refine J_iload_n dX7_stuck_48 rfl ?_
        refine J_if_eq (tgt := 73) dX7_stuck_49 rfl (by decide) (fun h49 => ?_) (fun h49 => ?_)
        ·
          refine J_iload_n dX7_stuck_73 rfl ?_
          refine J_istore_n (L' := [(33, 0), (0, (skN n F s)), (0, ((s : Nat) : Int)), (0, 0)]) dX7_stuck_74 (by decide) rfl rfl ?_
          refine J_eq (L' := [(33, 0), (0, (skN n F (s + 1))), (0, ((s : Nat) : Int)), (0, 0)]) (by simp only [skN]; rw [if_neg (fun q => by have := q.1.1; omega)]) rfl rfl ?_
          refine J_iinc (v := (((s + 1) : Nat) : Int)) (L' := [(33, 0), (0, (skN n F (s + 1))), (0, (((s + 1) : Nat) : Int)), (0, 0)]) dX7_stuck_75 rfl (by omega) (by decide) rfl rfl ?_
          refine J_goto (tgt := 14) dX7_stuck_78 rfl ?_
          refine J_unset 3 (L' := [(33, 0), (0, (skN n F (s + 1))), (0, (((s + 1) : Nat) : Int)), (9, 0)]) rfl ?_
          exact ih _ (by omega) (by omega)
        · exact absurd h49 (by decide)
      ·
        refine J_aload_n dX7_stuck_33 rfl ?_
        refine J_getR dX7_stuck_34 flX7_46 rfl rfl ?_
        refine J_iload_n dX7_stuck_37 rfl ?_
        refine J_iald dX7_stuck_38 rfl (by decide) (by omega) (J_top (v := (((won F n s) : Nat) : Int)) ((a2 h4).2 s (by omega)) ?_)
        refine J_if_ne (tgt := 46) dX7_stuck_39 rfl (j_R (won31 F hn12 _)) (fun h39 => ?_) (fun h39 => ?_)
        ·
          refine J_iconst dX7_stuck_46 ?_
          refine J_istore_n (L' := [(33, 0), (0, (skN n F s)), (0, ((s : Nat) : Int)), (0, 0)]) dX7_stuck_47 (by decide) rfl rfl ?_
          refine J_iload_n dX7_stuck_48 rfl ?_
          refine J_if_eq (tgt := 73) dX7_stuck_49 rfl (by decide) (fun h49 => ?_) (fun h49 => ?_)
          ·
            refine J_iload_n dX7_stuck_73 rfl ?_
            refine J_istore_n (L' := [(33, 0), (0, (skN n F s)), (0, ((s : Nat) : Int)), (0, 0)]) dX7_stuck_74 (by decide) rfl rfl ?_
            refine J_eq (L' := [(33, 0), (0, (skN n F (s + 1))), (0, ((s : Nat) : Int)), (0, 0)]) (by simp only [skN]; rw [if_neg (fun q => by have := q.1.2; omega)]) rfl rfl ?_
            refine J_iinc (v := (((s + 1) : Nat) : Int)) (L' := [(33, 0), (0, (skN n F (s + 1))), (0, (((s + 1) : Nat) : Int)), (0, 0)]) dX7_stuck_75 rfl (by omega) (by decide) rfl rfl ?_
            refine J_goto (tgt := 14) dX7_stuck_78 rfl ?_
            refine J_unset 3 (L' := [(33, 0), (0, (skN n F (s + 1))), (0, (((s + 1) : Nat) : Int)), (9, 0)]) rfl ?_
            exact ih _ (by omega) (by omega)
          · exact absurd h49 (by decide)
        ·
          refine J_iconst dX7_stuck_42 ?_
          refine J_goto (tgt := 47) dX7_stuck_43 rfl ?_
          refine J_istore_n (L' := [(33, 0), (0, (skN n F s)), (0, ((s : Nat) : Int)), (0, 1)]) dX7_stuck_47 (by decide) rfl rfl ?_
          refine J_iload_n dX7_stuck_48 rfl ?_
          refine J_if_eq (tgt := 73) dX7_stuck_49 rfl (by decide) (fun h49 => ?_) (fun h49 => ?_)
          · exact absurd h49 (by decide)
          ·
            refine J_iload_n dX7_stuck_52 rfl ?_
            refine J_bipush dX7_stuck_53 (by decide) ?_
            refine J_icmp_eq (tgt := 69) dX7_stuck_55 rfl (by rcases skN_r n F s with q | q <;> omega) (by decide) (fun h55 => ?_) (fun h55 => ?_)
            ·
              refine J_iload_n dX7_stuck_69 rfl ?_
              refine J_goto (tgt := 74) dX7_stuck_70 rfl ?_
              refine J_istore_n (L' := [(33, 0), (0, ((s : Nat) : Int)), (0, ((s : Nat) : Int)), (0, 1)]) dX7_stuck_74 (by decide) rfl rfl ?_
              refine J_eq (L' := [(33, 0), (0, (skN n F (s + 1))), (0, ((s : Nat) : Int)), (0, 1)]) (by simp only [skN]; rw [if_pos ⟨⟨by omega, by omega⟩, Or.inl (by omega)⟩]) rfl rfl ?_
              refine J_iinc (v := (((s + 1) : Nat) : Int)) (L' := [(33, 0), (0, (skN n F (s + 1))), (0, (((s + 1) : Nat) : Int)), (0, 1)]) dX7_stuck_75 rfl (by omega) (by decide) rfl rfl ?_
              refine J_goto (tgt := 14) dX7_stuck_78 rfl ?_
              refine J_unset 3 (L' := [(33, 0), (0, (skN n F (s + 1))), (0, (((s + 1) : Nat) : Int)), (9, 0)]) rfl ?_
              exact ih _ (by omega) (by omega)
            ·
              refine J_iload_n dX7_stuck_58 rfl ?_
              refine J_callSiQ (cl := mX7_many) [(0, ((s : Nat) : Int))] [] dX7_stuck_59 mlX7_136 csX7_many rfl rfl (by decide) (Nat.le_of_ble_eq_true rfl) rfl (ev_X7_many s (by omega) Ma) ?_
              refine J_iload_n dX7_stuck_62 rfl (J_top (v := (((Int.toNat (skN n F s)) : Nat) : Int)) (by rcases skN_r n F s with q | q <;> omega) ?_)
              refine J_callSiQ (cl := mX7_many) [(0, (((Int.toNat (skN n F s)) : Nat) : Int))] [(0, (((popc s) : Nat) : Int))] dX7_stuck_63 mlX7_136 csX7_many rfl rfl (by decide) (Nat.le_of_ble_eq_true rfl) rfl (ev_X7_many (Int.toNat (skN n F s)) (by rcases skN_r n F s with q | q <;> omega) Ma) ?_
              refine J_icmp_ge (tgt := 73) dX7_stuck_66 rfl (j_R (popc_lt (by omega))) (j_R (popc_lt (by rcases skN_r n F s with q | q <;> omega))) (fun h66 => ?_) (fun h66 => ?_)
              ·
                refine J_iload_n dX7_stuck_73 rfl ?_
                refine J_istore_n (L' := [(33, 0), (0, (skN n F s)), (0, ((s : Nat) : Int)), (0, 1)]) dX7_stuck_74 (by decide) rfl rfl ?_
                refine J_eq (L' := [(33, 0), (0, (skN n F (s + 1))), (0, ((s : Nat) : Int)), (0, 1)]) (by simp only [skN]; rw [if_neg (fun q => by rcases q.2 with e | e <;> omega)]) rfl rfl ?_
                refine J_iinc (v := (((s + 1) : Nat) : Int)) (L' := [(33, 0), (0, (skN n F (s + 1))), (0, (((s + 1) : Nat) : Int)), (0, 1)]) dX7_stuck_75 rfl (by omega) (by decide) rfl rfl ?_
                refine J_goto (tgt := 14) dX7_stuck_78 rfl ?_
                refine J_unset 3 (L' := [(33, 0), (0, (skN n F (s + 1))), (0, (((s + 1) : Nat) : Int)), (9, 0)]) rfl ?_
                exact ih _ (by omega) (by omega)
              ·
                refine J_iload_n dX7_stuck_69 rfl ?_
                refine J_goto (tgt := 74) dX7_stuck_70 rfl ?_
                refine J_istore_n (L' := [(33, 0), (0, ((s : Nat) : Int)), (0, ((s : Nat) : Int)), (0, 1)]) dX7_stuck_74 (by decide) rfl rfl ?_
                refine J_eq (L' := [(33, 0), (0, (skN n F (s + 1))), (0, ((s : Nat) : Int)), (0, 1)]) (by simp only [skN]; rw [if_pos ⟨⟨by omega, by omega⟩, Or.inr (by omega)⟩]) rfl rfl ?_
                refine J_iinc (v := (((s + 1) : Nat) : Int)) (L' := [(33, 0), (0, (skN n F (s + 1))), (0, (((s + 1) : Nat) : Int)), (0, 1)]) dX7_stuck_75 rfl (by omega) (by decide) rfl rfl ?_
                refine J_goto (tgt := 14) dX7_stuck_78 rfl ?_
                refine J_unset 3 (L' := [(33, 0), (0, (skN n F (s + 1))), (0, (((s + 1) : Nat) : Int)), (9, 0)]) rfl ?_
                exact ih _ (by omega) (by omega)
set_option maxRecDepth 100000 in
set_option maxHeartbeats 4000000 in
theorem ev_X7_stuck (P D n : Nat) (F O : Nat → Nat) (tl : Nat) (tb : Nat → Nat) (fa tr wh : Int) (M : jM) (hS : MS P D n F O tl tb fa tr wh M) : Ev 4 mX7_stuck [(33, 0)] M (fun z M' => z = A_stuck n F ∧ MS P D n F O tl tb fa (u1 (bT n)) 0 M' ∧ CM M M') := by
  refine Ev_of (by decide +kernel) (Nat.le_of_ble_eq_true rfl) (L := [(33, 0), (9, 0), (9, 0), (9, 0)]) rfl ?_
  have hR := hS.1
  have hn12 := MR.hn hR
  have hP7 := MR.hP hR
  have hD5 := MR.hD hR
  refine J_aload_n dX7_stuck_0 rfl ?_
  refine J_callVi (cl := mX7_isLaid) [] [] dX7_stuck_1 mlX7_304 cvX7_isLaid rfl rfl rfl rfl rfl (by decide) (Nat.le_of_ble_eq_true rfl) rfl (ev_X7_isLaid P D n F O M hR) (fun z1 Ma hq1 => ?_)
  obtain ⟨rfl, a1, a2⟩ := hq1
  refine J_ifb_ne (tgt := 9) dX7_stuck_4 rfl (fun h4 => ?_) (fun h4 => ?_)
  ·
    refine J_bipush dX7_stuck_9 (by decide) ?_
    refine J_istore_n (L' := [(33, 0), (0, (-2)), (9, 0), (9, 0)]) dX7_stuck_11 (by decide) rfl rfl ?_
    refine J_iconst dX7_stuck_12 ?_
    refine J_istore_n (L' := [(33, 0), (0, (-2)), (0, 0), (9, 0)]) dX7_stuck_13 (by decide) rfl rfl ?_
    refine J_eq (L' := [(33, 0), (0, (-2)), (0, ((0 : Nat) : Int)), (9, 0)]) rfl rfl rfl ?_
    exact ev_X7_stuck_L14 P D n F O tl tb fa tr wh M hS Ma a1 a2 h4 _ _ (by exact Nat.zero_le _) (Nat.lt_succ_self _)
  ·
    refine J_iconst dX7_stuck_7 ?_
    refine J_ireturn dX7_stuck_8 rfl ?_
    exact ⟨by unfold A_stuck bT; rw [h4]; rfl, by unfold u1 bT; exact ms_ch a1 (by decide) (by decide) (by decide) (ms_ref if01 hS), cm_tr cm_ref (cm_ch a1 (by decide))⟩
