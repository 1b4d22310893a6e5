theorem ms_mr {P D n P' D' n' : Nat} {F O F' O' : Nat → Nat} {tl : Nat} {tb : Nat → Nat} {fa tr wh : Int} {M M' : jM} {zs : List Int} {ks : List Nat} (hf : Fz zs ks M M') (hz : (1 : Int) ∉ zs ∧ (2 : Int) ∉ zs ∧ (3 : Int) ∉ zs ∧ (5 : Int) ∉ zs) (hk : 24 ∉ ks) (hr : MR P' D' n' F' O' M') (h : MS P D n F O tl tb fa tr wh M) : MS P' D' n' F' O' tl tb fa tr wh M' := by
  obtain ⟨h1, h2, h3, h4, h5, h6, h7⟩ := h
  refine ⟨hr, by rw [hf.2 1 hz.1]; exact h2, by rw [hf.2 2 hz.2.1]; exact h3, fun q => by rw [hf.2 3 hz.2.2.1]; exact h4 q, by rw [hf.2 5 hz.2.2.2]; exact h5, h6, fun i hi => ?_⟩
  rw [hf.1 24 (by simp [hk])]
  exact h7 i hi
theorem swp_swp (O : Nat → Nat) (k : Nat) : swp (swp O k) k = O := by
  funext i
  unfold swp
  by_cases h1 : i = k
  · rw [if_pos h1, if_neg (by omega), if_pos rfl, h1]
  · rw [if_neg h1]
    by_cases h2 : i = k + 1
    · rw [if_pos h2, if_pos rfl, h2]
    · rw [if_neg h2, if_neg h1, if_neg h2]
def A_swaps (n : Nat) (F O : Nat → Nat) : Int := if bT n = true then (mskN (n - 1) (fun k => decide (gdN n F (swp O k) = (n : Int))) : Int) else -1
def A_leaps (P n : Nat) (F O : Nat → Nat) (i : Int) : Int := if bI n i = true then (cntN (2 ^ P) (llB F O i.toNat) : Int) else -1
def bL (P n : Nat) (F O : Nat → Nat) (i k : Int) : Bool := bI n i && decide (¬ nthN (2 ^ P) (llB F O i.toNat) k = -1)
def A_leap (P n : Nat) (F O : Nat → Nat) (i k : Int) : Int := if bL P n F O i k = true then nthN (2 ^ P) (llB F O i.toNat) k else -1
def liN (P : Nat) (F O : Nat → Nat) (k : Nat) : Bool := allN (2 ^ P) (fun s => decide (popc s = 1) || !llB F O k s)
def A_linear (P n : Nat) (F O : Nat → Nat) : Int := if bT n = true then ((allN n (liN P F O)).toNat : Int) else -1
def A_shellings (n : Nat) (F : Nat → Nat) : Int := if bT n = true then (won F n 0 : Int) else -1
def A_shelled (n : Nat) (F : Nat → Nat) (i : Int) : Int := if bI n i = true then (if won F n 0 = 0 then -2 else lsF F n (lsA F n i.toNat)) else -1
def plQ (n : Nat) (F : Nat → Nat) (k : Nat) : Bool := decide (0 < wto F n (ndf (2 ^ n - 1) (2 ^ k))) && jnS F k (ndf (2 ^ n - 1) (2 ^ k))
def A_peelable (n : Nat) (F : Nat → Nat) : Int := if bT n = true then (mskN n (plQ n F) : Int) else -1
def A_goesOn (n : Nat) (F O : Nat → Nat) (k : Int) : Int := if (bT n && bK n k) = true then (if gdN n F O < k then 0 else (won F n (ahd O k.toNat) : Int)) else -1
def skN (n : Nat) (F : Nat → Nat) : Nat → Int
  | 0 => -2
  | s + 1 => if (0 < wto F n s ∧ won F n s = 0) ∧ (skN n F s = -2 ∨ popc s < popc (skN n F s).toNat) then (s : Int) else skN n F s
theorem skN_r (n : Nat) (F : Nat → Nat) : ∀ s, skN n F s = -2 ∨ (0 ≤ skN n F s ∧ skN n F s < (s : Int)) := by
  intro s
  induction s with
  | zero => exact Or.inl rfl
  | succ s ih =>
    simp only [skN]
    split
    · exact Or.inr (by omega)
    · rcases ih with h | h
      · exact Or.inl h
      · exact Or.inr (by omega)
def A_stuck (n : Nat) (F : Nat → Nat) : Int := if bT n = true then skN n F (2 ^ n) else -1
theorem lsF_R {n : Nat} {F : Nat → Nat} (hn : n ≤ 12) (s : Nat) : -2147483648 ≤ lsF F n s ∧ lsF F n s < 2147483648 := by
  unfold lsF
  rcases fstN_rng (n := n) (p := lsP F n s) (z := -1) with q | q <;> omega
set_option maxRecDepth 100000 in
set_option maxHeartbeats 4000000 in
theorem ev_X7_swaps_L20 (P D n : Nat) (F O : Nat → Nat) (tl : Nat) (tb : Nat → Nat) (fa tr wh : Int) (M : jM) (hS : MS P D n F O tl tb fa tr wh M) (h11 : decide (0 < n) = true) : ∀ (fu : Nat) (M2 : jM) (k : Nat) (f1 : MR P D n F O M2) (f2 : Ch [26] (j_up (j_up (j_up M 23 0 0) 23 3 (-1)) 23 1 (if decide (0 < n) = true then 0 else 1)) M2) (f3 : k ≤ n - 1) (hfu : n - k < fu), J none 4 mX7_swaps 20 [(33, 0), (0, (((mskN k (fun k => decide (gdN n F (swp O k) = (n : Int)))) : Nat) : Int)), (0, ((k : Nat) : Int))] [] M2 (j_ret mX7_swaps (fun z M' => z = A_swaps n F O ∧ MS P D n F O tl tb fa (u1 (bT n)) 0 M' ∧ CM M M')) := by
  intro fu
  induction fu with
  | zero => intro M2 k f1 f2 f3 hfu; exact absurd hfu (Nat.not_lt_zero _)
  | succ fu ih =>
    intro M2 k f1 f2 f3 hfu
    have hR := hS.1
    have hn12 := MR.hn hR
    have hP7 := MR.hP hR
    have hD5 := MR.hD hR
    refine J_iload_n dX7_swaps_20 rfl ?_
    refine J_iconst dX7_swaps_21 ?_
    refine J_iadd dX7_swaps_22 (J_top (v := (((k + 1) : Nat) : Int)) (by omega) ?_)
    refine J_aload_n dX7_swaps_23 rfl ?_
    refine J_getI dX7_swaps_24 flX7_176 rfl rfl (J_top (v := ((n : Nat) : Int)) (MR.gn f1) ?_)
    refine J_icmp_ge (tgt := 67) dX7_swaps_27 rfl (j_R (by omega)) (j_R (by omega)) (fun h27 => ?_) (fun h27 => ?_)
    ·
      refine J_iload_n dX7_swaps_67 rfl ?_
      refine J_ireturn dX7_swaps_68 rfl ?_
      have hn0 := of_decide_eq_true h11
      exact ⟨by unfold A_swaps bT; rw [if_pos h11, show k = n - 1 by omega], by unfold u1 bT; exact ms_mr (zs := []) (Fz_ch f2 (by decide)) (by decide) (by decide) f1 (ms_ref if01 hS), cm_tr cm_ref (cm_ch f2 (by decide))⟩
    ·
      refine J_aload_n dX7_swaps_30 rfl ?_
      refine J_iload_n dX7_swaps_31 rfl ?_
      refine J_callVv (cl := mX7_changes) [(0, ((k : Nat) : Int))] [] dX7_swaps_32 mlX7_292 cvX7_changes rfl rfl rfl rfl rfl (by decide) (Nat.le_of_ble_eq_true rfl) rfl (ev_X7_changes P D n F O M2 f1 k (by omega)) (fun M3 hq32 => ?_)
      obtain ⟨r1, r2⟩ := hq32
      refine J_iload_n dX7_swaps_35 rfl ?_
      refine J_aload_n dX7_swaps_36 rfl ?_
      refine J_callViQ (cl := mX7_goodMany) [] [(0, (((mskN k (fun k => decide (gdN n F (swp O k) = (n : Int)))) : Nat) : Int))] dX7_swaps_37 mlX7_272 cvX7_goodMany rfl rfl rfl rfl rfl (by decide) (Nat.le_of_ble_eq_true rfl) rfl (ev_X7_goodMany P D n F (swp O k) M3 r1) ?_
      refine J_aload_n dX7_swaps_40 rfl ?_
      refine J_getI dX7_swaps_41 flX7_176 rfl rfl (J_top (v := ((n : Nat) : Int)) (MR.gn r1) ?_)
      refine J_icmp_ne (tgt := 53) dX7_swaps_44 rfl (gdR r1) (j_R (by omega)) (fun h44 => ?_) (fun h44 => ?_)
      ·
        refine J_iconst dX7_swaps_53 ?_
        refine J_ior dX7_swaps_54 (J_top (v := (((mskN k (fun k => decide (gdN n F (swp O k) = (n : Int)))) : Nat) : Int)) (j_or0 rfl (mskN_31 (by omega))) ?_)
        refine J_istore_n (L' := [(33, 0), (0, (((mskN k (fun k => decide (gdN n F (swp O k) = (n : Int)))) : Nat) : Int)), (0, ((k : Nat) : Int))]) dX7_swaps_55 (by decide) rfl rfl ?_
        refine J_aload_n dX7_swaps_56 rfl ?_
        refine J_iload_n dX7_swaps_57 rfl ?_
        refine J_callVv (cl := mX7_changes) [(0, ((k : Nat) : Int))] [] dX7_swaps_58 mlX7_292 cvX7_changes rfl rfl rfl rfl rfl (by decide) (Nat.le_of_ble_eq_true rfl) rfl (ev_X7_changes P D n F (swp O k) M3 r1 k (by omega)) (fun M4 hq58 => ?_)
        obtain ⟨r3, r4⟩ := hq58
        rw [swp_swp] at r3
        refine J_eq (L' := [(33, 0), (0, (((mskN (k + 1) (fun k => decide (gdN n F (swp O k) = (n : Int)))) : Nat) : Int)), (0, ((k : Nat) : Int))]) (by rw [mskN_f (k := k) (by simp; omega)]) rfl rfl ?_
        refine J_iinc (v := (((k + 1) : Nat) : Int)) (L' := [(33, 0), (0, (((mskN (k + 1) (fun k => decide (gdN n F (swp O k) = (n : Int)))) : Nat) : Int)), (0, (((k + 1) : Nat) : Int))]) dX7_swaps_61 rfl (by omega) (by decide) rfl rfl ?_
        refine J_goto (tgt := 20) dX7_swaps_64 rfl ?_
        exact ih _ _ (by exact r3) (by exact Ch_tr f2 (Ch_tr r2 r4)) (by omega) (by omega)
      ·
        refine J_iconst dX7_swaps_47 ?_
        refine J_iload_n dX7_swaps_48 rfl ?_
        refine J_ishl dX7_swaps_49 (J_top (v := (((2 ^ k) : Nat) : Int)) (j_shl1 rfl rfl (by omega)) ?_)
        refine J_goto (tgt := 54) dX7_swaps_50 rfl ?_
        refine J_ior dX7_swaps_54 (J_top (v := ((((mskN k (fun k => decide (gdN n F (swp O k) = (n : Int)))) ||| (2 ^ k)) : Nat) : Int)) (j_orN rfl rfl (mskN_31 (by omega)) (nb_p2 (by omega))) ?_)
        refine J_istore_n (L' := [(33, 0), (0, ((((mskN k (fun k => decide (gdN n F (swp O k) = (n : Int)))) ||| (2 ^ k)) : Nat) : Int)), (0, ((k : Nat) : Int))]) dX7_swaps_55 (by decide) rfl rfl ?_
        refine J_aload_n dX7_swaps_56 rfl ?_
        refine J_iload_n dX7_swaps_57 rfl ?_
        refine J_callVv (cl := mX7_changes) [(0, ((k : Nat) : Int))] [] dX7_swaps_58 mlX7_292 cvX7_changes rfl rfl rfl rfl rfl (by decide) (Nat.le_of_ble_eq_true rfl) rfl (ev_X7_changes P D n F (swp O k) M3 r1 k (by omega)) (fun M4 hq58 => ?_)
        obtain ⟨r3, r4⟩ := hq58
        rw [swp_swp] at r3
        refine J_eq (L' := [(33, 0), (0, (((mskN (k + 1) (fun k => decide (gdN n F (swp O k) = (n : Int)))) : Nat) : Int)), (0, ((k : Nat) : Int))]) (by rw [mskN_t (k := k) (by simp; omega)]) rfl rfl ?_
        refine J_iinc (v := (((k + 1) : Nat) : Int)) (L' := [(33, 0), (0, (((mskN (k + 1) (fun k => decide (gdN n F (swp O k) = (n : Int)))) : Nat) : Int)), (0, (((k + 1) : Nat) : Int))]) dX7_swaps_61 rfl (by omega) (by decide) rfl rfl ?_
        refine J_goto (tgt := 20) dX7_swaps_64 rfl ?_
        exact ih _ _ (by exact r3) (by exact Ch_tr f2 (Ch_tr r2 r4)) (by omega) (by omega)
set_option maxRecDepth 100000 in
set_option maxHeartbeats 4000000 in
theorem ev_X7_swaps (P D n : Nat) (F O : Nat → Nat) (tl : Nat) (tb : Nat → Nat) (fa tr wh : Int) (M : jM) (hS : MS P D n F O tl tb fa tr wh M) : Ev 4 mX7_swaps [(33, 0)] M (fun z M' => z = A_swaps n F O ∧ MS P D n F O tl tb fa (u1 (bT n)) 0 M' ∧ CM M M') := by
  refine Ev_of (by decide +kernel) (Nat.le_of_ble_eq_true rfl) (L := [(33, 0), (9, 0), (9, 0)]) rfl ?_
  have hR := hS.1
  have hn12 := MR.hn hR
  have hP7 := MR.hP hR
  have hD5 := MR.hD hR
  refine J_aload_n dX7_swaps_0 rfl ?_
  refine J_aload_n dX7_swaps_1 rfl ?_
  refine J_getI dX7_swaps_2 flX7_179 rfl rfl (J_top (v := ((Bool.toNat (decide (0 < n)) : Nat) : Int)) (MR.gt hR) ?_)
  refine J_callSiQ (cl := mX7_unless) [(0, ((Bool.toNat (decide (0 < n)) : Nat) : Int))] [(33, 0)] dX7_swaps_5 mlX7_199 csX7_unless rfl rfl (by decide) (Nat.le_of_ble_eq_true rfl) rfl (ev_X7_unless (decide (0 < n)) M) ?_
  refine J_callViQ (cl := mX7_isRefused) [(0, (if (decide (0 < n)) = true then 0 else 1))] [] dX7_swaps_8 mlX7_159 cvX7_isRefused rfl rfl rfl rfl rfl (by decide) (Nat.le_of_ble_eq_true rfl) rfl (ev_X7_isRefused (if (decide (0 < n)) = true then 0 else 1) (ifR _ (by decide) (by decide)) M) (J_top (v := ((Bool.toNat (!(decide (0 < n))) : Nat) : Int)) (rf_un _) ?_)
  refine J_ifn_eq (b := (decide (0 < n))) (tgt := 16) dX7_swaps_11 rfl (fun h11 => ?_) (fun h11 => ?_)
  ·
    refine J_iconst dX7_swaps_16 ?_
    refine J_istore_n (L' := [(33, 0), (0, 0), (9, 0)]) dX7_swaps_17 (by decide) rfl rfl ?_
    refine J_iconst dX7_swaps_18 ?_
    refine J_istore_n (L' := [(33, 0), (0, 0), (0, 0)]) dX7_swaps_19 (by decide) rfl rfl ?_
    refine J_eq (L' := [(33, 0), (0, ((0 : Nat) : Int)), (0, ((0 : Nat) : Int))]) rfl rfl rfl ?_
    exact ev_X7_swaps_L20 P D n F O tl tb fa tr wh M hS h11 _ _ _ (by exact mr_upF (by decide) (mr_upF (by decide) (mr_upF (by decide) hR))) (by exact Ch_rf) (by exact Nat.zero_le _) (Nat.lt_succ_self _)
  ·
    refine J_iconst dX7_swaps_14 ?_
    refine J_ireturn dX7_swaps_15 rfl ?_
    exact ⟨by unfold A_swaps bT; rw [h11]; rfl, by unfold u1 bT; exact ms_ref if01 hS, cm_ref⟩
set_option maxRecDepth 100000 in
set_option maxHeartbeats 4000000 in
theorem ev_X7_leaps_L21 (P D n : Nat) (F O : Nat → Nat) (tl : Nat) (tb : Nat → Nat) (fa tr wh : Int) (M : jM) (hS : MS P D n F O tl tb fa tr wh M) (i : Int) (hi : -2147483648 ≤ i ∧ i < 2147483648) (M1 : jM) (hM1 : M1 = (j_up (j_up (j_up M 23 0 0) 23 3 (-1)) 23 1 (if decide (0 ≤ i ∧ i < (n : Int)) = true then 0 else 1))) (h12 : decide (0 ≤ i ∧ i < (n : Int)) = true) : ∀ (fu : Nat) (s : Nat) (f2 : s ≤ 2 ^ P) (hfu : 2 ^ P - s < fu), J none 2 mX7_leaps 21 [(33, 0), (0, (((Int.toNat i) : Nat) : Int)), (0, (((cntN s (llB F O (Int.toNat i))) : Nat) : Int)), (0, ((s : Nat) : Int))] [] M1 (j_ret mX7_leaps (fun z M' => z = A_leaps P n F O i ∧ MS P D n F O tl tb fa (u1 (bI n i)) 0 M' ∧ CM M M')) := by
  intro fu
  induction fu with
  | zero => intro s f2 hfu; exact absurd hfu (Nat.not_lt_zero _)
  | succ fu ih =>
    intro s f2 hfu
    have hR := hS.1
    have hn12 := MR.hn hR
    have hP7 := MR.hP hR
    have hD5 := MR.hD hR
    have hR1 : MR P D n F O M1 := by rw [hM1]; exact mr_upF (by decide) (mr_upF (by decide) (mr_upF (by decide) hR))
    have hi2 : Int.toNat i < n := by have := of_decide_eq_true h12; omega
    have h2P : 2 ^ P ≤ 128 := Nat.pow_le_pow_right (n := 2) (by decide) hP7
    have h2p := Nat.two_pow_pos P
    refine J_iload_n dX7_leaps_21 rfl ?_
    refine J_aload_n dX7_leaps_22 rfl ?_
    refine J_callViQ (cl := mX7_allPoints) [] [(0, ((s : Nat) : Int))] dX7_leaps_23 mlX7_212 cvX7_allPoints rfl rfl rfl rfl rfl (by decide) (Nat.le_of_ble_eq_true rfl) rfl (ev_X7_allPoints P D n F O M1 hR1) ?_
    refine J_icmp_gt (tgt := 52) dX7_leaps_26 rfl (j_R (by omega)) (j_R (ap31 hR1)) (fun h26 => ?_) (fun h26 => ?_)
    ·
      refine J_iload_n dX7_leaps_52 rfl ?_
      refine J_ireturn dX7_leaps_53 rfl ?_
      subst hM1
      exact ⟨by unfold A_leaps bI; rw [if_pos h12, show s = 2 ^ P by omega], by unfold u1 bI; exact ms_ref if01 hS, cm_ref⟩
    ·
      refine J_iload_n dX7_leaps_29 rfl ?_
      refine J_aload_n dX7_leaps_30 rfl ?_
      refine J_iload_n dX7_leaps_31 rfl ?_
      refine J_iload_n dX7_leaps_32 rfl ?_
      refine J_callViQ (cl := mX7_isLeastLeap) [(0, (((Int.toNat i) : Nat) : Int)), (0, ((s : Nat) : Int))] [(0, (((cntN s (llB F O (Int.toNat i))) : Nat) : Int))] dX7_leaps_33 mlX7_298 cvX7_isLeastLeap rfl rfl rfl rfl rfl (by decide) (Nat.le_of_ble_eq_true rfl) rfl (ev_X7_isLeastLeap P D n F O M1 hR1 (Int.toNat i) s (by omega) (by omega)) ?_
      refine J_ifb_eq (tgt := 43) dX7_leaps_36 rfl (fun h36 => ?_) (fun h36 => ?_)
      ·
        refine J_iconst dX7_leaps_43 ?_
        refine J_iadd dX7_leaps_44 (J_top (v := (((cntN s (llB F O (Int.toNat i))) : Nat) : Int)) (by omega) ?_)
        refine J_istore_n (L' := [(33, 0), (0, (((Int.toNat i) : Nat) : Int)), (0, (((cntN s (llB F O (Int.toNat i))) : Nat) : Int)), (0, ((s : Nat) : Int))]) dX7_leaps_45 (by decide) rfl rfl ?_
        refine J_eq (L' := [(33, 0), (0, (((Int.toNat i) : Nat) : Int)), (0, (((cntN (s + 1) (llB F O (Int.toNat i))) : Nat) : Int)), (0, ((s : Nat) : Int))]) (by rw [cntN_f (k := s) h36]) rfl rfl ?_
        refine J_iinc (v := (((s + 1) : Nat) : Int)) (L' := [(33, 0), (0, (((Int.toNat i) : Nat) : Int)), (0, (((cntN (s + 1) (llB F O (Int.toNat i))) : Nat) : Int)), (0, (((s + 1) : Nat) : Int))]) dX7_leaps_46 rfl (by omega) (by decide) rfl rfl ?_
        refine J_goto (tgt := 21) dX7_leaps_49 rfl ?_
        exact ih _ (by omega) (by omega)
      ·
        refine J_iconst dX7_leaps_39 ?_
        refine J_goto (tgt := 44) dX7_leaps_40 rfl ?_
        refine J_iadd dX7_leaps_44 (J_top (v := ((((cntN s (llB F O (Int.toNat i))) + 1) : Nat) : Int)) (by omega) ?_)
        refine J_istore_n (L' := [(33, 0), (0, (((Int.toNat i) : Nat) : Int)), (0, ((((cntN s (llB F O (Int.toNat i))) + 1) : Nat) : Int)), (0, ((s : Nat) : Int))]) dX7_leaps_45 (by decide) rfl rfl ?_
        refine J_eq (L' := [(33, 0), (0, (((Int.toNat i) : Nat) : Int)), (0, (((cntN (s + 1) (llB F O (Int.toNat i))) : Nat) : Int)), (0, ((s : Nat) : Int))]) (by rw [cntN_t (k := s) h36]) rfl rfl ?_
        refine J_iinc (v := (((s + 1) : Nat) : Int)) (L' := [(33, 0), (0, (((Int.toNat i) : Nat) : Int)), (0, (((cntN (s + 1) (llB F O (Int.toNat i))) : Nat) : Int)), (0, (((s + 1) : Nat) : Int))]) dX7_leaps_46 rfl (by omega) (by decide) rfl rfl ?_
        refine J_goto (tgt := 21) dX7_leaps_49 rfl ?_
        exact ih _ (by omega) (by omega)
set_option maxRecDepth 100000 in
set_option maxHeartbeats 4000000 in
theorem ev_X7_leaps (P D n : Nat) (F O : Nat → Nat) (tl : Nat) (tb : Nat → Nat) (fa tr wh : Int) (M : jM) (hS : MS P D n F O tl tb fa tr wh M) (i : Int) (hi : -2147483648 ≤ i ∧ i < 2147483648) : Ev 2 mX7_leaps [(33, 0), (0, i)] M (fun z M' => z = A_leaps P n F O i ∧ MS P D n F O tl tb fa (u1 (bI n i)) 0 M' ∧ CM M M') := by
  refine Ev_of (by decide +kernel) (Nat.le_of_ble_eq_true rfl) (L := [(33, 0), (0, i), (9, 0), (9, 0)]) rfl ?_
  have hR := hS.1
  have hn12 := MR.hn hR
  have hP7 := MR.hP hR
  have hD5 := MR.hD hR
  refine J_aload_n dX7_leaps_0 rfl ?_
  refine J_aload_n dX7_leaps_1 rfl ?_
  refine J_iload_n dX7_leaps_2 rfl ?_
  refine J_callViQ (cl := mX7_isFacet) [(0, i)] [(33, 0)] dX7_leaps_3 mlX7_231 cvX7_isFacet rfl rfl rfl rfl rfl (by decide) (Nat.le_of_ble_eq_true rfl) rfl (ev_X7_isFacet P D n F O M hR i (by omega)) ?_
  refine J_callSiQ (cl := mX7_unless) [(0, ((Bool.toNat (decide (0 ≤ i ∧ i < (n : Int))) : Nat) : Int))] [(33, 0)] dX7_leaps_6 mlX7_199 csX7_unless rfl rfl (by decide) (Nat.le_of_ble_eq_true rfl) rfl (ev_X7_unless (decide (0 ≤ i ∧ i < (n : Int))) M) ?_
  refine J_callViQ (cl := mX7_isRefused) [(0, (if (decide (0 ≤ i ∧ i < (n : Int))) = true then 0 else 1))] [] dX7_leaps_9 mlX7_159 cvX7_isRefused rfl rfl rfl rfl rfl (by decide) (Nat.le_of_ble_eq_true rfl) rfl (ev_X7_isRefused (if (decide (0 ≤ i ∧ i < (n : Int))) = true then 0 else 1) (ifR _ (by decide) (by decide)) M) (J_top (v := ((Bool.toNat (!(decide (0 ≤ i ∧ i < (n : Int)))) : Nat) : Int)) (rf_un _) ?_)
  refine J_ifn_eq (b := (decide (0 ≤ i ∧ i < (n : Int)))) (tgt := 17) dX7_leaps_12 rfl (fun h12 => ?_) (fun h12 => ?_)
  ·
    refine J_eq (L' := [(33, 0), (0, (((Int.toNat i) : Nat) : Int)), (9, 0), (9, 0)]) (by rw [Int.toNat_of_nonneg (a := i) (by have := of_decide_eq_true h12; omega)]) rfl rfl ?_
    refine J_iconst dX7_leaps_17 ?_
    refine J_istore_n (L' := [(33, 0), (0, (((Int.toNat i) : Nat) : Int)), (0, 0), (9, 0)]) dX7_leaps_18 (by decide) rfl rfl ?_
    refine J_iconst dX7_leaps_19 ?_
    refine J_istore_n (L' := [(33, 0), (0, (((Int.toNat i) : Nat) : Int)), (0, 0), (0, 0)]) dX7_leaps_20 (by decide) rfl rfl ?_
    refine J_eq (L' := [(33, 0), (0, (((Int.toNat i) : Nat) : Int)), (0, ((0 : Nat) : Int)), (0, ((0 : Nat) : Int))]) rfl rfl rfl ?_
    exact ev_X7_leaps_L21 P D n F O tl tb fa tr wh M hS i hi _ rfl h12 _ _ (by exact Nat.zero_le _) (Nat.lt_succ_self _)
  ·
    refine J_iconst dX7_leaps_15 ?_
    refine J_ireturn dX7_leaps_16 rfl ?_
    exact ⟨by unfold A_leaps bI; rw [h12]; rfl, by unfold u1 bI; exact ms_ref if01 hS, cm_ref⟩
set_option maxRecDepth 100000 in
set_option maxHeartbeats 4000000 in
theorem ev_X7_leap_L22 (P D n : Nat) (F O : Nat → Nat) (tl : Nat) (tb : Nat → Nat) (fa tr wh : Int) (M : jM) (hS : MS P D n F O tl tb fa tr wh M) (i : Int) (hi : -2147483648 ≤ i ∧ i < 2147483648) (k : Int) (hk : -2147483648 ≤ k ∧ k < 2147483648) (M1 : jM) (hM1 : M1 = (j_up (j_up (j_up M 23 0 0) 23 3 (-1)) 23 1 (if decide (0 ≤ i ∧ i < (n : Int)) = true then 0 else 1))) (h12 : decide (0 ≤ i ∧ i < (n : Int)) = true) : ∀ (fu : Nat) (s : Nat) (f1 : nthN s (llB F O (Int.toNat i)) k = -1) (f2 : s ≤ 2 ^ P) (hfu : 2 ^ P - s < fu), J none 2 mX7_leap 22 [(33, 0), (0, (((Int.toNat i) : Nat) : Int)), (0, k), (0, (((cntN s (llB F O (Int.toNat i))) : Nat) : Int)), (0, ((s : Nat) : Int))] [] M1 (j_ret mX7_leap (fun z M' => z = A_leap P n F O i k ∧ MS P D n F O tl tb fa (u1 (bL P n F O i k)) 0 M' ∧ CM M M')) := by
  intro fu
  induction fu with
  | zero => intro s f1 f2 hfu; exact absurd hfu (Nat.not_lt_zero _)
  | succ fu ih =>
    intro s f1 f2 hfu
    have hR := hS.1
    have hn12 := MR.hn hR
    have hP7 := MR.hP hR
    have hD5 := MR.hD hR
    have hR1 : MR P D n F O M1 := by rw [hM1]; exact mr_upF (by decide) (mr_upF (by decide) (mr_upF (by decide) hR))
    have hi2 : Int.toNat i < n := by have := of_decide_eq_true h12; omega
    have h2P : 2 ^ P ≤ 128 := Nat.pow_le_pow_right (n := 2) (by decide) hP7
    have h2p := Nat.two_pow_pos P
    refine J_iload dX7_leap_22 rfl ?_
    refine J_aload_n dX7_leap_24 rfl ?_
    refine J_callViQ (cl := mX7_allPoints) [] [(0, ((s : Nat) : Int))] dX7_leap_25 mlX7_212 cvX7_allPoints rfl rfl rfl rfl rfl (by decide) (Nat.le_of_ble_eq_true rfl) rfl (ev_X7_allPoints P D n F O M1 hR1) ?_
    refine J_icmp_gt (tgt := 58) dX7_leap_28 rfl (j_R (by omega)) (j_R (ap31 hR1)) (fun h28 => ?_) (fun h28 => ?_)
    ·
      refine J_aload_n dX7_leap_58 rfl ?_
      refine J_iconst dX7_leap_59 ?_
      refine J_callViQ (cl := mX7_no) [(0, 1)] [] dX7_leap_60 mlX7_168 cvX7_no rfl rfl rfl rfl rfl (by decide) (Nat.le_of_ble_eq_true rfl) rfl (ev_X7_no 1 M1) ?_
      refine J_ireturn dX7_leap_63 rfl ?_
      have hm : bL P n F O i k = false := by
        unfold bL
        rw [show 2 ^ P = s by omega, f1]
        simp
      subst hM1
      exact ⟨by unfold A_leap; rw [hm]; rfl, by rw [u1_f hm]; exact ms_tr (by decide) (ms_ref if01 hS), cm_up cm_ref⟩
    ·
      refine J_aload_n dX7_leap_31 rfl ?_
      refine J_iload_n dX7_leap_32 rfl ?_
      refine J_iload dX7_leap_33 rfl ?_
      refine J_callViQ (cl := mX7_isLeastLeap) [(0, (((Int.toNat i) : Nat) : Int)), (0, ((s : Nat) : Int))] [] dX7_leap_35 mlX7_298 cvX7_isLeastLeap rfl rfl rfl rfl rfl (by decide) (Nat.le_of_ble_eq_true rfl) rfl (ev_X7_isLeastLeap P D n F O M1 hR1 (Int.toNat i) s (by omega) (by omega)) ?_
      refine J_ifb_eq (tgt := 52) dX7_leap_38 rfl (fun h38 => ?_) (fun h38 => ?_)
      ·
        refine J_eq (L' := [(33, 0), (0, (((Int.toNat i) : Nat) : Int)), (0, k), (0, (((cntN (s + 1) (llB F O (Int.toNat i))) : Nat) : Int)), (0, ((s : Nat) : Int))]) (by rw [cntN_f (k := s) h38]) rfl rfl ?_
        refine J_iinc (v := (((s + 1) : Nat) : Int)) (L' := [(33, 0), (0, (((Int.toNat i) : Nat) : Int)), (0, k), (0, (((cntN (s + 1) (llB F O (Int.toNat i))) : Nat) : Int)), (0, (((s + 1) : Nat) : Int))]) dX7_leap_52 rfl (by omega) (by decide) rfl rfl ?_
        refine J_goto (tgt := 22) dX7_leap_55 rfl ?_
        exact ih _ (by simp only [nthN]; rw [if_pos f1, if_neg (fun q => absurd q.1 (by rw [h38]; decide))]) (by omega) (by omega)
      ·
        refine J_iload_n dX7_leap_41 rfl ?_
        refine J_iload_n dX7_leap_42 rfl ?_
        refine J_icmp_ne (tgt := 49) dX7_leap_43 rfl (j_R (by have := cntN_le s (llB F O (Int.toNat i)); omega)) (by omega) (fun h43 => ?_) (fun h43 => ?_)
        ·
          refine J_iinc (v := ((((cntN s (llB F O (Int.toNat i))) + 1) : Nat) : Int)) (L' := [(33, 0), (0, (((Int.toNat i) : Nat) : Int)), (0, k), (0, ((((cntN s (llB F O (Int.toNat i))) + 1) : Nat) : Int)), (0, ((s : Nat) : Int))]) dX7_leap_49 rfl (by omega) (by decide) rfl rfl ?_
          refine J_eq (L' := [(33, 0), (0, (((Int.toNat i) : Nat) : Int)), (0, k), (0, (((cntN (s + 1) (llB F O (Int.toNat i))) : Nat) : Int)), (0, ((s : Nat) : Int))]) (by rw [cntN_t (k := s) h38]) rfl rfl ?_
          refine J_iinc (v := (((s + 1) : Nat) : Int)) (L' := [(33, 0), (0, (((Int.toNat i) : Nat) : Int)), (0, k), (0, (((cntN (s + 1) (llB F O (Int.toNat i))) : Nat) : Int)), (0, (((s + 1) : Nat) : Int))]) dX7_leap_52 rfl (by omega) (by decide) rfl rfl ?_
          refine J_goto (tgt := 22) dX7_leap_55 rfl ?_
          exact ih _ (by simp only [nthN]; rw [if_pos f1, if_neg (fun q => by have := q.2; omega)]) (by omega) (by omega)
        ·
          refine J_iload dX7_leap_46 rfl ?_
          refine J_ireturn dX7_leap_48 rfl ?_
          have e0 := nthN_hit (i := k) (n := 2 ^ P) h38 (by omega) (by omega)
          have hm : bL P n F O i k = true := by
            unfold bL bI
            rw [h12, decide_eq_true (by rw [e0]; omega)]
            rfl
          subst hM1
          exact ⟨by unfold A_leap; rw [if_pos hm, e0], by rw [u1_t hm]; exact ms_rfE (by rw [h12]; rfl) (by decide) hS, cm_ref⟩
set_option maxRecDepth 100000 in
set_option maxHeartbeats 4000000 in
theorem ev_X7_leap (P D n : Nat) (F O : Nat → Nat) (tl : Nat) (tb : Nat → Nat) (fa tr wh : Int) (M : jM) (hS : MS P D n F O tl tb fa tr wh M) (i : Int) (hi : -2147483648 ≤ i ∧ i < 2147483648) (k : Int) (hk : -2147483648 ≤ k ∧ k < 2147483648) : Ev 2 mX7_leap [(33, 0), (0, i), (0, k)] M (fun z M' => z = A_leap P n F O i k ∧ MS P D n F O tl tb fa (u1 (bL P n F O i k)) 0 M' ∧ CM M M') := by
  refine Ev_of (by decide +kernel) (Nat.le_of_ble_eq_true rfl) (L := [(33, 0), (0, i), (0, k), (9, 0), (9, 0)]) rfl ?_
  have hR := hS.1
  have hn12 := MR.hn hR
  have hP7 := MR.hP hR
  have hD5 := MR.hD hR
  refine J_aload_n dX7_leap_0 rfl ?_
  refine J_aload_n dX7_leap_1 rfl ?_
  refine J_iload_n dX7_leap_2 rfl ?_
  refine J_callViQ (cl := mX7_isFacet) [(0, i)] [(33, 0)] dX7_leap_3 mlX7_231 cvX7_isFacet rfl rfl rfl rfl rfl (by decide) (Nat.le_of_ble_eq_true rfl) rfl (ev_X7_isFacet P D n F O M hR i (by omega)) ?_
  refine J_callSiQ (cl := mX7_unless) [(0, ((Bool.toNat (decide (0 ≤ i ∧ i < (n : Int))) : Nat) : Int))] [(33, 0)] dX7_leap_6 mlX7_199 csX7_unless rfl rfl (by decide) (Nat.le_of_ble_eq_true rfl) rfl (ev_X7_unless (decide (0 ≤ i ∧ i < (n : Int))) M) ?_
  refine J_callViQ (cl := mX7_isRefused) [(0, (if (decide (0 ≤ i ∧ i < (n : Int))) = true then 0 else 1))] [] dX7_leap_9 mlX7_159 cvX7_isRefused rfl rfl rfl rfl rfl (by decide) (Nat.le_of_ble_eq_true rfl) rfl (ev_X7_isRefused (if (decide (0 ≤ i ∧ i < (n : Int))) = true then 0 else 1) (ifR _ (by decide) (by decide)) M) (J_top (v := ((Bool.toNat (!(decide (0 ≤ i ∧ i < (n : Int)))) : Nat) : Int)) (rf_un _) ?_)
  refine J_ifn_eq (b := (decide (0 ≤ i ∧ i < (n : Int)))) (tgt := 17) dX7_leap_12 rfl (fun h12 => ?_) (fun h12 => ?_)
  ·
    refine J_eq (L' := [(33, 0), (0, (((Int.toNat i) : Nat) : Int)), (0, k), (9, 0), (9, 0)]) (by rw [Int.toNat_of_nonneg (a := i) (by have := of_decide_eq_true h12; omega)]) rfl rfl ?_
    refine J_iconst dX7_leap_17 ?_
    refine J_istore_n (L' := [(33, 0), (0, (((Int.toNat i) : Nat) : Int)), (0, k), (0, 0), (9, 0)]) dX7_leap_18 (by decide) rfl rfl ?_
    refine J_iconst dX7_leap_19 ?_
    refine J_istore (L' := [(33, 0), (0, (((Int.toNat i) : Nat) : Int)), (0, k), (0, 0), (0, 0)]) dX7_leap_20 (by decide) rfl rfl ?_
    refine J_eq (L' := [(33, 0), (0, (((Int.toNat i) : Nat) : Int)), (0, k), (0, ((0 : Nat) : Int)), (0, ((0 : Nat) : Int))]) rfl rfl rfl ?_
    exact ev_X7_leap_L22 P D n F O tl tb fa tr wh M hS i hi k hk _ rfl h12 _ _ (by rfl) (by exact Nat.zero_le _) (Nat.lt_succ_self _)
  ·
    refine J_iconst dX7_leap_15 ?_
    refine J_ireturn dX7_leap_16 rfl ?_
    have hm : bL P n F O i k = false := by unfold bL bI; rw [h12]; rfl
    exact ⟨by unfold A_leap; rw [hm]; rfl, by rw [u1_f hm]; exact ms_rfE (by rw [h12]; rfl) (by decide) hS, cm_ref⟩
set_option maxRecDepth 100000 in
set_option maxHeartbeats 4000000 in
theorem ev_X7_linear_L28 (P D n : Nat) (F O : Nat → Nat) (tl : Nat) (tb : Nat → Nat) (fa tr wh : Int) (M : jM) (hS : MS P D n F O tl tb fa tr wh M) (M1 : jM) (hM1 : M1 = (j_up (j_up (j_up M 23 0 0) 23 3 (-1)) 23 1 (if decide (0 < n) = true then 0 else 1))) (h11 : decide (0 < n) = true) (k : Nat) (hk : k < n) (K0 : ∀ (g : liN P F O k = true), J none 2 mX7_linear 61 [(33, 0), (0, ((k : Nat) : Int)), (9, 0)] [] M1 (j_ret mX7_linear (fun z M' => z = A_linear P n F O ∧ MS P D n F O tl tb fa (u1 (bT n)) 0 M' ∧ CM M M'))) : ∀ (fu : Nat) (s : Nat) (g1 : allN s (fun s => decide (popc s = 1) || !llB F O k s) = true) (g2 : s ≤ 2 ^ P) (hfu : 2 ^ P - s < fu), J none 2 mX7_linear 28 [(33, 0), (0, ((k : Nat) : Int)), (0, ((s : Nat) : Int))] [] M1 (j_ret mX7_linear (fun z M' => z = A_linear P n F O ∧ MS P D n F O tl tb fa (u1 (bT n)) 0 M' ∧ CM M M')) := by
  intro fu
  induction fu with
  | zero => intro s g1 g2 hfu; exact absurd hfu (Nat.not_lt_zero _)
  | succ fu ih =>
    intro s g1 g2 hfu
    have hR := hS.1
    have hn12 := MR.hn hR
    have hP7 := MR.hP hR
    have hD5 := MR.hD hR
    have hR1 : MR P D n F O M1 := by rw [hM1]; exact mr_upF (by decide) (mr_upF (by decide) (mr_upF (by decide) hR))
    have h2P : 2 ^ P ≤ 128 := Nat.pow_le_pow_right (n := 2) (by decide) hP7
    have h2p := Nat.two_pow_pos P
    refine J_iload_n dX7_linear_28 rfl ?_
    refine J_aload_n dX7_linear_29 rfl ?_
    refine J_callViQ (cl := mX7_allPoints) [] [(0, ((s : Nat) : Int))] dX7_linear_30 mlX7_212 cvX7_allPoints rfl rfl rfl rfl rfl (by decide) (Nat.le_of_ble_eq_true rfl) rfl (ev_X7_allPoints P D n F O M1 hR1) ?_
    refine J_icmp_gt (tgt := 61) dX7_linear_33 rfl (j_R (by omega)) (j_R (ap31 hR1)) (fun h33 => ?_) (fun h33 => ?_)
    ·
      refine J_unset 2 (L' := [(33, 0), (0, ((k : Nat) : Int)), (9, 0)]) rfl ?_
      exact K0  (by unfold liN; rw [show 2 ^ P = s by omega]; exact g1)
    ·
      refine J_iload_n dX7_linear_36 rfl ?_
      refine J_callSiQ (cl := mX7_many) [(0, ((s : Nat) : Int))] [] dX7_linear_37 mlX7_136 csX7_many rfl rfl (by decide) (Nat.le_of_ble_eq_true rfl) rfl (ev_X7_many s (by omega) M1) ?_
      refine J_iconst dX7_linear_40 ?_
      refine J_icmp_eq (tgt := 55) dX7_linear_41 rfl (j_R (popc_lt (by omega))) (by decide) (fun h41 => ?_) (fun h41 => ?_)
      ·
        refine J_iinc (v := (((s + 1) : Nat) : Int)) (L' := [(33, 0), (0, ((k : Nat) : Int)), (0, (((s + 1) : Nat) : Int))]) dX7_linear_55 rfl (by omega) (by decide) rfl rfl ?_
        refine J_goto (tgt := 28) dX7_linear_58 rfl ?_
        exact ih _ (by rw [allN_t (by rw [decide_eq_true (by omega)]; rfl), g1]) (by omega) (by omega)
      ·
        refine J_aload_n dX7_linear_44 rfl ?_
        refine J_iload_n dX7_linear_45 rfl ?_
        refine J_iload_n dX7_linear_46 rfl ?_
        refine J_callViQ (cl := mX7_isLeastLeap) [(0, ((k : Nat) : Int)), (0, ((s : Nat) : Int))] [] dX7_linear_47 mlX7_298 cvX7_isLeastLeap rfl rfl rfl rfl rfl (by decide) (Nat.le_of_ble_eq_true rfl) rfl (ev_X7_isLeastLeap P D n F O M1 hR1 k s (by omega) (by omega)) ?_
        refine J_ifb_eq (tgt := 55) dX7_linear_50 rfl (fun h50 => ?_) (fun h50 => ?_)
        ·
          refine J_iinc (v := (((s + 1) : Nat) : Int)) (L' := [(33, 0), (0, ((k : Nat) : Int)), (0, (((s + 1) : Nat) : Int))]) dX7_linear_55 rfl (by omega) (by decide) rfl rfl ?_
          refine J_goto (tgt := 28) dX7_linear_58 rfl ?_
          exact ih _ (by rw [allN_t (by rw [h50]; simp), g1]) (by omega) (by omega)
        ·
          refine J_iconst dX7_linear_53 ?_
          refine J_ireturn dX7_linear_54 rfl ?_
          have hl : liN P F O k = false := allN_no (k := s) (by rw [h50, decide_eq_false (by omega)]; rfl) (by omega)
          subst hM1
          exact ⟨by unfold A_linear bT; rw [if_pos h11, allN_no hl hk]; rfl, by unfold u1 bT; exact ms_ref if01 hS, cm_ref⟩
set_option maxRecDepth 100000 in
set_option maxHeartbeats 4000000 in
theorem ev_X7_linear_L18 (P D n : Nat) (F O : Nat → Nat) (tl : Nat) (tb : Nat → Nat) (fa tr wh : Int) (M : jM) (hS : MS P D n F O tl tb fa tr wh M) (M1 : jM) (hM1 : M1 = (j_up (j_up (j_up M 23 0 0) 23 3 (-1)) 23 1 (if decide (0 < n) = true then 0 else 1))) (h11 : decide (0 < n) = true) : ∀ (fu : Nat) (k : Nat) (f1 : allN k (liN P F O) = true) (f2 : k ≤ n) (hfu : n - k < fu), J none 2 mX7_linear 18 [(33, 0), (0, ((k : Nat) : Int)), (9, 0)] [] M1 (j_ret mX7_linear (fun z M' => z = A_linear P n F O ∧ MS P D n F O tl tb fa (u1 (bT n)) 0 M' ∧ CM M M')) := by
  intro fu
  induction fu with
  | zero => intro k f1 f2 hfu; exact absurd hfu (Nat.not_lt_zero _)
  | succ fu ih =>
    intro k f1 f2 hfu
    have hR := hS.1
    have hn12 := MR.hn hR
    have hP7 := MR.hP hR
    have hD5 := MR.hD hR
    have hR1 : MR P D n F O M1 := by rw [hM1]; exact mr_upF (by decide) (mr_upF (by decide) (mr_upF (by decide) hR))
    have h2P : 2 ^ P ≤ 128 := Nat.pow_le_pow_right (n := 2) (by decide) hP7
    have h2p := Nat.two_pow_pos P
    refine J_iload_n dX7_linear_18 rfl ?_
    refine J_aload_n dX7_linear_19 rfl ?_
    refine J_getI dX7_linear_20 flX7_176 rfl rfl (J_top (v := ((n : Nat) : Int)) (MR.gn hR1) ?_)
    refine J_icmp_ge (tgt := 67) dX7_linear_23 rfl (j_R (by omega)) (j_R (by omega)) (fun h23 => ?_) (fun h23 => ?_)
    ·
      refine J_iconst dX7_linear_67 ?_
      refine J_ireturn dX7_linear_68 rfl ?_
      subst hM1
      exact ⟨by unfold A_linear bT; rw [if_pos h11, show n = k by omega, f1]; rfl, by unfold u1 bT; exact ms_ref if01 hS, cm_ref⟩
    ·
      refine J_iconst dX7_linear_26 ?_
      refine J_istore_n (L' := [(33, 0), (0, ((k : Nat) : Int)), (0, 0)]) dX7_linear_27 (by decide) rfl rfl ?_
      refine J_eq (L' := [(33, 0), (0, ((k : Nat) : Int)), (0, ((0 : Nat) : Int))]) rfl rfl rfl ?_
      refine ev_X7_linear_L28 P D n F O tl tb fa tr wh M hS M1 hM1 h11 k (by omega) (fun g => ?_) _ _ (by rfl) (by exact Nat.zero_le _) (Nat.lt_succ_self _)
      ·
        refine J_iinc (v := (((k + 1) : Nat) : Int)) (L' := [(33, 0), (0, (((k + 1) : Nat) : Int)), (9, 0)]) dX7_linear_61 rfl (by omega) (by decide) rfl rfl ?_
        refine J_goto (tgt := 18) dX7_linear_64 rfl ?_
        exact ih _ (by rw [allN_t g, f1]) (by omega) (by omega)
set_option maxRecDepth 100000 in
set_option maxHeartbeats 4000000 in
theorem ev_X7_linear (P D n : Nat) (F O : Nat → Nat) (tl : Nat) (tb : Nat → Nat) (fa tr wh : Int) (M : jM) (hS : MS P D n F O tl tb fa tr wh M) : Ev 2 mX7_linear [(33, 0)] M (fun z M' => z = A_linear P n F O ∧ MS P D n F O tl tb fa (u1 (bT n)) 0 M' ∧ CM M M') := by
  refine Ev_of (by decide +kernel) (Nat.le_of_ble_eq_true rfl) (L := [(33, 0), (9, 0), (9, 0)]) rfl ?_
  have hR := hS.1
  have hn12 := MR.hn hR
  have hP7 := MR.hP hR
  have hD5 := MR.hD hR
  refine J_aload_n dX7_linear_0 rfl ?_
  refine J_aload_n dX7_linear_1 rfl ?_
  refine J_getI dX7_linear_2 flX7_179 rfl rfl (J_top (v := ((Bool.toNat (decide (0 < n)) : Nat) : Int)) (MR.gt hR) ?_)
  refine J_callSiQ (cl := mX7_unless) [(0, ((Bool.toNat (decide (0 < n)) : Nat) : Int))] [(33, 0)] dX7_linear_5 mlX7_199 csX7_unless rfl rfl (by decide) (Nat.le_of_ble_eq_true rfl) rfl (ev_X7_unless (decide (0 < n)) M) ?_
  refine J_callViQ (cl := mX7_isRefused) [(0, (if (decide (0 < n)) = true then 0 else 1))] [] dX7_linear_8 mlX7_159 cvX7_isRefused rfl rfl rfl rfl rfl (by decide) (Nat.le_of_ble_eq_true rfl) rfl (ev_X7_isRefused (if (decide (0 < n)) = true then 0 else 1) (ifR _ (by decide) (by decide)) M) (J_top (v := ((Bool.toNat (!(decide (0 < n))) : Nat) : Int)) (rf_un _) ?_)
  refine J_ifn_eq (b := (decide (0 < n))) (tgt := 16) dX7_linear_11 rfl (fun h11 => ?_) (fun h11 => ?_)
  ·
    refine J_iconst dX7_linear_16 ?_
    refine J_istore_n (L' := [(33, 0), (0, 0), (9, 0)]) dX7_linear_17 (by decide) rfl rfl ?_
    refine J_eq (L' := [(33, 0), (0, ((0 : Nat) : Int)), (9, 0)]) rfl rfl rfl ?_
    exact ev_X7_linear_L18 P D n F O tl tb fa tr wh M hS _ rfl h11 _ _ (by rfl) (by exact Nat.zero_le _) (Nat.lt_succ_self _)
  ·
    refine J_iconst dX7_linear_14 ?_
    refine J_ireturn dX7_linear_15 rfl ?_
    exact ⟨by unfold A_linear bT; rw [h11]; rfl, by unfold u1 bT; exact ms_ref if01 hS, cm_ref⟩
