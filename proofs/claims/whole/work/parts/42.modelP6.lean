def duG (P n : Nat) (F : Nat → Nat) (j : Nat) : Nat := ndf (2 ^ P - 1) (nthN (2 ^ P) (msg P (isF n F)) (j : Int)).toNat
def duF (P n : Nat) (F : Nat → Nat) : Nat → Bool := isF (cntN (2 ^ P) (msg P (isF n F))) (duG P n F)
def A_dualRound (P n : Nat) (F : Nat → Nat) (k : Int) : Int := if (bT n && bK P k) = true then rdN (duF P n F) k.toNat else -1
def frN (F O : Nat → Nat) : Nat → Nat
  | 0 => 0
  | k + 1 => frN F O k ||| (if spB F O k = true then 0 else 2 ^ O k)
theorem frN_lt {n : Nat} {F O : Nat → Nat} : ∀ k, (∀ i, i < k → O i < n) → frN F O k < 2 ^ n := by
  intro k
  induction k with
  | zero => intro _; exact Nat.two_pow_pos n
  | succ k ih =>
    intro h
    refine Nat.or_lt_two_pow (ih (fun i hi => h i (by omega))) ?_
    split
    · exact Nat.two_pow_pos n
    · exact Nat.pow_lt_pow_right (by decide) (h k (by omega))
def A_cycle (D n : Nat) (F O : Nat → Nat) (i : Int) : Int := if bP n F O i = true then (if gdN n F O < (n : Int) then -2 else (slN D n F (O (nthN n (spB F O) i).toNat) (frN F O n) : Int)) else -1
def A_fallsApart (P n : Nat) (F : Nat → Nat) : Int := if bT n = true then ((flB P n F 12 (2 ^ n - 1) 0).toNat : Int) else -1
def A_shed (P n : Nat) (F : Nat → Nat) : Int := if bT n = true then (mskN P (fun p => csB n F (2 ^ n - 1) 0 p) : Int) else -1
def fsQ (P n : Nat) (F : Nat → Nat) (p : Nat) : Bool := csB n F (2 ^ n - 1) 0 p && (flB P n F 11 (ndf (2 ^ n - 1) (wpN n F (2 ^ n - 1) p)) 0 && flB P n F 11 (wpN n F (2 ^ n - 1) p) (0 ||| 2 ^ p))
def A_first (P n : Nat) (F : Nat → Nat) : Int := if bT n = true then fstN P (fsQ P n F) (-2) else -1
set_option maxRecDepth 100000 in
set_option maxHeartbeats 4000000 in
theorem ev_X7_dualRound_L35 (P D n : Nat) (F O : Nat → Nat) (tl : Nat) (tb : Nat → Nat) (fa tr wh : Int) (M : jM) (hS : MS P D n F O tl tb fa tr wh M) (k : Int) (hk : -2147483648 ≤ k ∧ k < 2147483648) (Mb : jM) (c4 : Fz [27] [28, 31] (j_up (j_up (j_up M 23 0 0) 23 3 (-1)) 23 1 (if decide (0 < n) = true then (if decide (0 ≤ k ∧ k ≤ ((P : Nat) : Int)) = true then 0 else 2) else 1)) Mb) (c2 : Mb 23 27 = (((cntN (2 ^ P) (msg P (isF n F))) : Nat) : Int)) (h20 : (decide (0 < n) && decide (0 ≤ k ∧ k ≤ ((P : Nat) : Int))) = true) : ∀ (fu : Nat) (M2 : jM) (i : Nat) (f1 : Ch [31] Mb M2) (f2 : ∀ j : Nat, j < i → M2 31 (j : Int) = ((duG P n F j : Nat) : Int)) (f3 : ∀ j : Nat, i ≤ j → j < (cntN (2 ^ P) (msg P (isF n F))) → M2 31 (j : Int) = nthN (2 ^ P) (msg P (isF n F)) (j : Int)) (f4 : i ≤ (cntN (2 ^ P) (msg P (isF n F)))) (hfu : (cntN (2 ^ P) (msg P (isF n F))) - i < fu), J none 5 mX7_dualRound 35 [(33, 0), (0, k), (0, ((i : Nat) : Int))] [] M2 (j_ret mX7_dualRound (fun z M' => z = A_dualRound P n F k ∧ MS P D n F O tl tb fa (u2 (bT n) (bK P k)) 0 M' ∧ CM M M')) := by
  intro fu
  induction fu with
  | zero => intro M2 i f1 f2 f3 f4 hfu; exact absurd hfu (Nat.not_lt_zero _)
  | succ fu ih =>
    intro M2 i f1 f2 f3 f4 hfu
    have hR := hS.1
    have hn12 := MR.hn hR
    have hP7 := MR.hP hR
    have hD5 := MR.hD hR
    have h2P : 2 ^ P ≤ 128 := Nat.pow_le_pow_right (n := 2) (by decide) hP7
    have h2p := Nat.two_pow_pos P
    have hcn := cntN_le (2 ^ P) (msg P (isF n F))
    refine J_iload_n dX7_dualRound_35 rfl ?_
    refine J_aload_n dX7_dualRound_36 rfl ?_
    refine J_getI dX7_dualRound_37 flX7_209 rfl rfl (J_top (v := (((cntN (2 ^ P) (msg P (isF n F))) : Nat) : Int)) (by rw [f1 23 (by decide)]; exact c2) ?_)
    refine J_icmp_ge (tgt := 68) dX7_dualRound_40 rfl (j_R (by omega)) (j_R (cnt_2P hR _)) (fun h40 => ?_) (fun h40 => ?_)
    ·
      refine J_aload_n dX7_dualRound_68 rfl ?_
      refine J_aload_n dX7_dualRound_69 rfl ?_
      refine J_getR dX7_dualRound_70 flX7_37 rfl rfl ?_
      refine J_aload_n dX7_dualRound_73 rfl ?_
      refine J_getI dX7_dualRound_74 flX7_209 rfl rfl (J_top (v := (((cntN (2 ^ P) (msg P (isF n F))) : Nat) : Int)) (by rw [f1 23 (by decide)]; exact c2) ?_)
      refine J_callVv (cl := mX7_laysFaces) [(41, 0), (0, (((cntN (2 ^ P) (msg P (isF n F))) : Nat) : Int))] [] dX7_dualRound_77 mlX7_195 cvX7_laysFaces rfl rfl rfl rfl rfl (by decide) (Nat.le_of_ble_eq_true rfl) rfl (ev_X7_laysFaces_31 (cntN (2 ^ P) (msg P (isF n F))) (by have := cntN_le (2 ^ P) (msg P (isF n F)); omega) (duG P n F) M2 (fun j hj => ⟨f2 j (by omega), nb_ndf (by omega)⟩)) (fun M3 hq77 => ?_)
      obtain ⟨e1, e2⟩ := hq77
      refine J_aload_n dX7_dualRound_80 rfl ?_
      refine J_iload_n dX7_dualRound_81 rfl (J_top (v := (((Int.toNat k) : Nat) : Int)) (by rw [Bool.and_eq_true] at h20; have := of_decide_eq_true h20.2; omega) ?_)
      refine J_callVi (cl := mX7_roundOf) [(0, (((Int.toNat k) : Nat) : Int))] [] dX7_dualRound_82 mlX7_250 cvX7_roundOf rfl rfl rfl rfl rfl (by decide) (Nat.le_of_ble_eq_true rfl) rfl (ev_X7_roundOf (duF P n F) (isF_cl _ _) (Int.toNat k) (by rw [Bool.and_eq_true] at h20; have := of_decide_eq_true h20.2; omega) M3 e2) (fun z82 M4 hq82 => ?_)
      obtain ⟨rfl, g1⟩ := hq82
      refine J_ireturn dX7_dualRound_85 rfl ?_
      exact ⟨by unfold A_dualRound bT bK; rw [if_pos h20], by unfold u2 bT bK; exact ms_ch g1 (by decide) (by decide) (by decide) (ms_ch e1 (by decide) (by decide) (by decide) (ms_ch f1 (by decide) (by decide) (by decide) (ms_fz c4 (by decide) (by decide) (by decide) (by decide) (ms_ref if02 hS)))), cm_tr (cm_tr (cm_tr (cm_tr cm_ref (cm_fz c4 (by decide))) (cm_ch f1 (by decide))) (cm_ch e1 (by decide))) (cm_ch g1 (by decide))⟩
    ·
      refine J_aload_n dX7_dualRound_43 rfl ?_
      refine J_getR dX7_dualRound_44 flX7_37 rfl rfl ?_
      refine J_iload_n dX7_dualRound_47 rfl ?_
      refine J_aload_n dX7_dualRound_48 rfl ?_
      refine J_callViQ (cl := mX7_allPoints) [] [(0, ((i : Nat) : Int)), (41, 0)] dX7_dualRound_49 mlX7_212 cvX7_allPoints rfl rfl rfl rfl rfl (by decide) (Nat.le_of_ble_eq_true rfl) rfl (ev_X7_allPoints P D n F O M2 (mr_ch f1 (by decide) (by decide) (by decide) (mr_fz c4 (by decide) (by decide) (mr_upF (by decide) (mr_upF (by decide) (mr_upF (by decide) hR)))))) ?_
      refine J_aload_n dX7_dualRound_52 rfl ?_
      refine J_getR dX7_dualRound_53 flX7_37 rfl rfl ?_
      refine J_iload_n dX7_dualRound_56 rfl ?_
      refine J_iald dX7_dualRound_57 rfl (by decide) (by have := cntN_le (2 ^ P) (msg P (isF n F)); omega) (J_top (v := (((Int.toNat (nthN (2 ^ P) (msg P (isF n F)) ((i : Nat) : Int))) : Nat) : Int)) (by rw [f3 i (Nat.le_refl _) (by omega)]; have := nthN_ge (n := 2 ^ P) (p := (msg P (isF n F))) (i := i) (by omega); omega) ?_)
      refine J_iconst dX7_dualRound_58 ?_
      refine J_ixor dX7_dualRound_59 (J_top (v := (-(((Int.toNat (nthN (2 ^ P) (msg P (isF n F)) ((i : Nat) : Int))) : Nat) : Int) - 1)) (j_notN rfl (by have := nthN_ge (n := 2 ^ P) (p := (msg P (isF n F))) (i := i) (by omega); have := ap31 hR; omega)) ?_)
      refine J_iand dX7_dualRound_60 (J_top (v := (((ndf (2 ^ P - 1) (Int.toNat (nthN (2 ^ P) (msg P (isF n F)) ((i : Nat) : Int)))) : Nat) : Int)) (j_ndfN rfl rfl (ap31 (mr_ch f1 (by decide) (by decide) (by decide) (mr_fz c4 (by decide) (by decide) (mr_upF (by decide) (mr_upF (by decide) (mr_upF (by decide) hR))))))) ?_)
      refine J_iast dX7_dualRound_61 rfl (by decide) (by have := cntN_le (2 ^ P) (msg P (isF n F)); omega) ?_
      refine J_iinc (v := (((i + 1) : Nat) : Int)) (L' := [(33, 0), (0, k), (0, (((i + 1) : Nat) : Int))]) dX7_dualRound_62 rfl (by omega) (by decide) rfl rfl ?_
      refine J_goto (tgt := 35) dX7_dualRound_65 rfl ?_
      exact ih _ _ (by exact Ch_up (by decide) f1) (by intro j hj; by_cases e : j = i; rw [e, j_up_eq]; rfl; rw [j_up_nz (by omega)]; exact f2 j (by omega)) (by intro j h1 h2; rw [j_up_nz (by omega)]; exact f3 j (by omega) h2) (by omega) (by omega)
set_option maxRecDepth 100000 in
set_option maxHeartbeats 4000000 in
theorem ev_X7_dualRound (P D n : Nat) (F O : Nat → Nat) (tl : Nat) (tb : Nat → Nat) (fa tr wh : Int) (M : jM) (hS : MS P D n F O tl tb fa tr wh M) (k : Int) (hk : -2147483648 ≤ k ∧ k < 2147483648) : Ev 5 mX7_dualRound [(33, 0), (0, k)] M (fun z M' => z = A_dualRound P n F k ∧ MS P D n F O tl tb fa (u2 (bT n) (bK P k)) 0 M' ∧ CM M M') := by
  refine Ev_of (by decide +kernel) (Nat.le_of_ble_eq_true rfl) (L := [(33, 0), (0, k), (9, 0)]) rfl ?_
  have hR := hS.1
  have hn12 := MR.hn hR
  have hP7 := MR.hP hR
  have hD5 := MR.hD hR
  refine J_aload_n dX7_dualRound_0 rfl ?_
  refine J_aload_n dX7_dualRound_1 rfl ?_
  refine J_getI dX7_dualRound_2 flX7_179 rfl rfl (J_top (v := ((Bool.toNat (decide (0 < n)) : Nat) : Int)) (MR.gt hR) ?_)
  refine J_iload_n dX7_dualRound_5 rfl ?_
  refine J_iconst dX7_dualRound_6 ?_
  refine J_aload_n dX7_dualRound_7 rfl ?_
  refine J_getI dX7_dualRound_8 flX7_171 rfl rfl (J_top (v := ((P : Nat) : Int)) (MR.gP hR) ?_)
  refine J_callSiQ (cl := mX7_in) [(0, k), (0, 0), (0, ((P : Nat) : Int))] [(0, ((Bool.toNat (decide (0 < n)) : Nat) : Int)), (33, 0)] dX7_dualRound_11 mlX7_84 csX7_in rfl rfl (by decide) (Nat.le_of_ble_eq_true rfl) rfl (ev_X7_in k 0 ((P : Nat) : Int) (by omega) (by decide) (j_R (by omega)) M) ?_
  refine J_callSiQ (cl := mX7_unless_) [(0, ((Bool.toNat (decide (0 < n)) : Nat) : Int)), (0, ((Bool.toNat (decide (0 ≤ k ∧ k ≤ ((P : Nat) : Int))) : Nat) : Int))] [(33, 0)] dX7_dualRound_14 mlX7_206 csX7_unless_ rfl rfl (by decide) (Nat.le_of_ble_eq_true rfl) rfl (ev_X7_unless_ (decide (0 < n)) (decide (0 ≤ k ∧ k ≤ ((P : Nat) : Int))) M) ?_
  refine J_callViQ (cl := mX7_isRefused) [(0, (if (decide (0 < n)) = true then (if (decide (0 ≤ k ∧ k ≤ ((P : Nat) : Int))) = true then 0 else 2) else 1))] [] dX7_dualRound_17 mlX7_159 cvX7_isRefused rfl rfl rfl rfl rfl (by decide) (Nat.le_of_ble_eq_true rfl) rfl (ev_X7_isRefused (if (decide (0 < n)) = true then (if (decide (0 ≤ k ∧ k ≤ ((P : Nat) : Int))) = true then 0 else 2) else 1) (ifR _ (ifR _ (by decide) (by decide)) (by decide)) M) (J_top (v := ((Bool.toNat (!((decide (0 < n)) && (decide (0 ≤ k ∧ k ≤ ((P : Nat) : Int))))) : Nat) : Int)) (rf_un2 _ _) ?_)
  refine J_ifn_eq (b := ((decide (0 < n)) && (decide (0 ≤ k ∧ k ≤ ((P : Nat) : Int))))) (tgt := 25) dX7_dualRound_20 rfl (fun h20 => ?_) (fun h20 => ?_)
  ·
    refine J_aload_n dX7_dualRound_25 rfl ?_
    refine J_callVv (cl := mX7_laysOwn) [] [] dX7_dualRound_26 mlX7_203 cvX7_laysOwn rfl rfl rfl rfl rfl (by decide) (Nat.le_of_ble_eq_true rfl) rfl (ev_X7_laysOwn P D n F O _ (mr_upF (by decide) (mr_upF (by decide) (mr_upF (by decide) hR)))) (fun Ma hq26 => ?_)
    obtain ⟨a1, a2⟩ := hq26
    refine J_aload_n dX7_dualRound_29 rfl ?_
    refine J_callVv (cl := mX7_laysMissing) [] [] dX7_dualRound_30 mlX7_222 cvX7_laysMissing rfl rfl rfl rfl rfl (by decide) (Nat.le_of_ble_eq_true rfl) rfl (ev_X7_laysMissing P D n F O Ma (mr_ch a1 (by decide) (by decide) (by decide) (mr_upF (by decide) (mr_upF (by decide) (mr_upF (by decide) hR)))) (isF n F) a2) (fun Mb hq30 => ?_)
    obtain ⟨c1, c2, c3⟩ := hq30
    refine J_iconst dX7_dualRound_33 ?_
    refine J_istore_n (L' := [(33, 0), (0, k), (0, 0)]) dX7_dualRound_34 (by decide) rfl rfl ?_
    refine J_eq (L' := [(33, 0), (0, k), (0, ((0 : Nat) : Int))]) rfl rfl rfl ?_
    exact ev_X7_dualRound_L35 P D n F O tl tb fa tr wh M hS k hk Mb (Fz_tr (Fz_ch (Ch_mo a1 (by decide)) (by decide)) (Fz_mo c1 (by decide) (by decide))) c2 h20 _ _ _ (by exact Ch_rf) (by intro j hj; omega) (by intro j _ hj; exact c3 j hj) (by exact Nat.zero_le _) (Nat.lt_succ_self _)
  ·
    refine J_iconst dX7_dualRound_23 ?_
    refine J_ireturn dX7_dualRound_24 rfl ?_
    exact ⟨by unfold A_dualRound bT bK; rw [h20]; rfl, by unfold u2 bT bK; exact ms_ref if02 hS, cm_ref⟩
set_option maxRecDepth 100000 in
set_option maxHeartbeats 4000000 in
theorem ev_X7_cycle_L52 (P D n : Nat) (F O : Nat → Nat) (tl : Nat) (tb : Nat → Nat) (fa tr wh : Int) (M : jM) (hS : MS P D n F O tl tb fa tr wh M) (i : Int) (hi : -2147483648 ≤ i ∧ i < 2147483648) (M1 : jM) (hM1 : M1 = (j_up (j_up (j_up M 23 0 0) 23 3 (-1)) 23 1 (if decide (0 < n) = true then 0 else 1))) (h11 : decide (0 < n) = true) (h24 : ¬ (nthN n (spB F O) i) = -1) (h41 : (n : Int) ≤ gdN n F O) : ∀ (fu : Nat) (k : Nat) (f2 : k ≤ n) (hfu : n - k < fu), J none 4 mX7_cycle 52 [(33, 0), (0, i), (0, (nthN n (spB F O) i)), (0, (((frN F O k) : Nat) : Int)), (0, ((k : Nat) : Int))] [] M1 (j_ret mX7_cycle (fun z M' => z = A_cycle D n F O i ∧ MS P D n F O tl tb fa (u1 (bP n F O i)) 0 M' ∧ CM M M')) := by
  intro fu
  induction fu with
  | zero => intro k f2 hfu; exact absurd hfu (Nat.not_lt_zero _)
  | succ fu ih =>
    intro k f2 hfu
    have hR := hS.1
    have hn12 := MR.hn hR
    have hP7 := MR.hP hR
    have hD5 := MR.hD hR
    have hR1 : MR P D n F O M1 := by rw [hM1]; exact mr_upF (by decide) (mr_upF (by decide) (mr_upF (by decide) hR))
    have hsp : 0 ≤ (nthN n (spB F O) i) ∧ (nthN n (spB F O) i) < (n : Int) := by rcases nthN_rng (n := n) (p := spB F O) (i := i) with e | e; exact absurd e h24; exact e
    refine J_iload dX7_cycle_52 rfl ?_
    refine J_aload_n dX7_cycle_54 rfl ?_
    refine J_getI dX7_cycle_55 flX7_176 rfl rfl (J_top (v := ((n : Nat) : Int)) (MR.gn hR1) ?_)
    refine J_icmp_ge (tgt := 92) dX7_cycle_58 rfl (j_R (by omega)) (j_R (by omega)) (fun h58 => ?_) (fun h58 => ?_)
    ·
      refine J_eq (L' := [(33, 0), (0, i), (0, (nthN n (spB F O) i)), (0, (((frN F O n) : Nat) : Int)), (0, ((k : Nat) : Int))]) (by rw [show k = n by omega]) rfl rfl ?_
      refine J_aload_n dX7_cycle_92 rfl ?_
      refine J_aload_n dX7_cycle_93 rfl ?_
      refine J_getR dX7_cycle_94 flX7_20 rfl rfl ?_
      refine J_iload_n dX7_cycle_97 rfl (J_top (v := (((Int.toNat (nthN n (spB F O) i)) : Nat) : Int)) (by omega) ?_)
      refine J_iald dX7_cycle_98 rfl (by decide) (by omega) (J_top (v := (((O (Int.toNat (nthN n (spB F O) i))) : Nat) : Int)) (MR.gO hR1 (by omega)) ?_)
      refine J_iload_n dX7_cycle_99 rfl ?_
      refine J_callVi (cl := mX7_solves) [(0, (((O (Int.toNat (nthN n (spB F O) i))) : Nat) : Int)), (0, (((frN F O n) : Nat) : Int))] [] dX7_cycle_100 mlX7_281 cvX7_solves rfl rfl rfl rfl rfl (by decide) (Nat.le_of_ble_eq_true rfl) rfl (ev_X7_solves P D n F O M1 hR1 (O (Int.toNat (nthN n (spB F O) i))) (frN F O n) (MR.ob hR (by omega)) (frN_lt n (fun j hj => MR.ob hR hj))) (fun z100 M2 hq100 => ?_)
      obtain ⟨rfl, e1⟩ := hq100
      refine J_ireturn dX7_cycle_103 rfl ?_
      have hm : bP n F O i = true := by unfold bP bT; rw [h11, decide_eq_true h24]; rfl
      subst hM1
      exact ⟨by unfold A_cycle; rw [if_pos hm, if_neg (by omega)], by rw [u1_t hm]; exact ms_ch e1 (by decide) (by decide) (by decide) (ms_rfE (by rw [h11]; rfl) (by decide) hS), cm_tr cm_ref (cm_ch e1 (by decide))⟩
    ·
      refine J_iload_n dX7_cycle_61 rfl ?_
      refine J_aload_n dX7_cycle_62 rfl ?_
      refine J_iload dX7_cycle_63 rfl ?_
      refine J_callViQ (cl := mX7_isSpanning) [(0, ((k : Nat) : Int))] [(0, (((frN F O k) : Nat) : Int))] dX7_cycle_65 mlX7_275 cvX7_isSpanning rfl rfl rfl rfl rfl (by decide) (Nat.le_of_ble_eq_true rfl) rfl (ev_X7_isSpanning P D n F O M1 hR1 k (by omega)) ?_
      refine J_ifb_eq (tgt := 75) dX7_cycle_68 rfl (fun h68 => ?_) (fun h68 => ?_)
      ·
        refine J_iconst dX7_cycle_75 ?_
        refine J_aload_n dX7_cycle_76 rfl ?_
        refine J_getR dX7_cycle_77 flX7_20 rfl rfl ?_
        refine J_iload dX7_cycle_80 rfl ?_
        refine J_iald dX7_cycle_82 rfl (by decide) (MR.ix hR1 (by omega)) (J_top (v := (((O k) : Nat) : Int)) (MR.gO hR1 (by omega)) ?_)
        refine J_ishl dX7_cycle_83 (J_top (v := (((2 ^ (O k)) : Nat) : Int)) (j_shl1 rfl rfl (by have := MR.ob hR (i := k) (by omega); omega)) ?_)
        refine J_ior dX7_cycle_84 (J_top (v := ((((frN F O k) ||| (2 ^ (O k))) : Nat) : Int)) (j_orN rfl rfl (p12 hn12 (frN_lt k (fun j hj => MR.ob hR (by omega)))) (nb_p2 (by have := MR.ob hR (i := k) (by omega); omega))) ?_)
        refine J_istore_n (L' := [(33, 0), (0, i), (0, (nthN n (spB F O) i)), (0, ((((frN F O k) ||| (2 ^ (O k))) : Nat) : Int)), (0, ((k : Nat) : Int))]) dX7_cycle_85 (by decide) rfl rfl ?_
        refine J_eq (L' := [(33, 0), (0, i), (0, (nthN n (spB F O) i)), (0, (((frN F O (k + 1)) : Nat) : Int)), (0, ((k : Nat) : Int))]) (by simp only [frN]; rw [h68, if_neg (by decide)]) rfl rfl ?_
        refine J_iinc (v := (((k + 1) : Nat) : Int)) (L' := [(33, 0), (0, i), (0, (nthN n (spB F O) i)), (0, (((frN F O (k + 1)) : Nat) : Int)), (0, (((k + 1) : Nat) : Int))]) dX7_cycle_86 rfl (by omega) (by decide) rfl rfl ?_
        refine J_goto (tgt := 52) dX7_cycle_89 rfl ?_
        exact ih _ (by omega) (by omega)
      ·
        refine J_iconst dX7_cycle_71 ?_
        refine J_goto (tgt := 84) dX7_cycle_72 rfl ?_
        refine J_ior dX7_cycle_84 (J_top (v := (((frN F O k) : Nat) : Int)) (j_or0 rfl (p12 hn12 (frN_lt k (fun j hj => MR.ob hR (by omega))))) ?_)
        refine J_istore_n (L' := [(33, 0), (0, i), (0, (nthN n (spB F O) i)), (0, (((frN F O k) : Nat) : Int)), (0, ((k : Nat) : Int))]) dX7_cycle_85 (by decide) rfl rfl ?_
        refine J_eq (L' := [(33, 0), (0, i), (0, (nthN n (spB F O) i)), (0, (((frN F O (k + 1)) : Nat) : Int)), (0, ((k : Nat) : Int))]) (by simp only [frN]; rw [if_pos h68, Nat.or_zero]) rfl rfl ?_
        refine J_iinc (v := (((k + 1) : Nat) : Int)) (L' := [(33, 0), (0, i), (0, (nthN n (spB F O) i)), (0, (((frN F O (k + 1)) : Nat) : Int)), (0, (((k + 1) : Nat) : Int))]) dX7_cycle_86 rfl (by omega) (by decide) rfl rfl ?_
        refine J_goto (tgt := 52) dX7_cycle_89 rfl ?_
        exact ih _ (by omega) (by omega)
set_option maxRecDepth 100000 in
set_option maxHeartbeats 4000000 in
theorem ev_X7_cycle (P D n : Nat) (F O : Nat → Nat) (tl : Nat) (tb : Nat → Nat) (fa tr wh : Int) (M : jM) (hS : MS P D n F O tl tb fa tr wh M) (i : Int) (hi : -2147483648 ≤ i ∧ i < 2147483648) : Ev 4 mX7_cycle [(33, 0), (0, i)] M (fun z M' => z = A_cycle D n F O i ∧ MS P D n F O tl tb fa (u1 (bP n F O i)) 0 M' ∧ CM M M') := by
  refine Ev_of (by decide +kernel) (Nat.le_of_ble_eq_true rfl) (L := [(33, 0), (0, i), (9, 0), (9, 0), (9, 0)]) rfl ?_
  have hR := hS.1
  have hn12 := MR.hn hR
  have hP7 := MR.hP hR
  have hD5 := MR.hD hR
  refine J_aload_n dX7_cycle_0 rfl ?_
  refine J_aload_n dX7_cycle_1 rfl ?_
  refine J_getI dX7_cycle_2 flX7_179 rfl rfl (J_top (v := ((Bool.toNat (decide (0 < n)) : Nat) : Int)) (MR.gt hR) ?_)
  refine J_callSiQ (cl := mX7_unless) [(0, ((Bool.toNat (decide (0 < n)) : Nat) : Int))] [(33, 0)] dX7_cycle_5 mlX7_199 csX7_unless rfl rfl (by decide) (Nat.le_of_ble_eq_true rfl) rfl (ev_X7_unless (decide (0 < n)) M) ?_
  refine J_callViQ (cl := mX7_isRefused) [(0, (if (decide (0 < n)) = true then 0 else 1))] [] dX7_cycle_8 mlX7_159 cvX7_isRefused rfl rfl rfl rfl rfl (by decide) (Nat.le_of_ble_eq_true rfl) rfl (ev_X7_isRefused (if (decide (0 < n)) = true then 0 else 1) (ifR _ (by decide) (by decide)) M) (J_top (v := ((Bool.toNat (!(decide (0 < n))) : Nat) : Int)) (rf_un _) ?_)
  refine J_ifn_eq (b := (decide (0 < n))) (tgt := 16) dX7_cycle_11 rfl (fun h11 => ?_) (fun h11 => ?_)
  ·
    refine J_aload_n dX7_cycle_16 rfl ?_
    refine J_iload_n dX7_cycle_17 rfl ?_
    refine J_callViQ (cl := mX7_spanningAt) [(0, i)] [] dX7_cycle_18 mlX7_278 cvX7_spanningAt rfl rfl rfl rfl rfl (by decide) (Nat.le_of_ble_eq_true rfl) rfl (ev_X7_spanningAt P D n F O (j_up (j_up (j_up M 23 0 0) 23 3 (-1)) 23 1 (if (decide (0 < n)) = true then 0 else 1)) (mr_upF (by decide) (mr_upF (by decide) (mr_upF (by decide) hR))) i (by omega)) ?_
    refine J_istore_n (L' := [(33, 0), (0, i), (0, (nthN n (spB F O) i)), (9, 0), (9, 0)]) dX7_cycle_21 (by decide) rfl rfl ?_
    refine J_iload_n dX7_cycle_22 rfl ?_
    refine J_iconst dX7_cycle_23 ?_
    refine J_icmp_ne (tgt := 33) dX7_cycle_24 rfl (nthR hR _ _) (by decide) (fun h24 => ?_) (fun h24 => ?_)
    ·
      refine J_aload_n dX7_cycle_33 rfl ?_
      refine J_callViQ (cl := mX7_goodMany) [] [] dX7_cycle_34 mlX7_272 cvX7_goodMany rfl rfl rfl rfl rfl (by decide) (Nat.le_of_ble_eq_true rfl) rfl (ev_X7_goodMany P D n F O _ (mr_upF (by decide) (mr_upF (by decide) (mr_upF (by decide) hR)))) ?_
      refine J_aload_n dX7_cycle_37 rfl ?_
      refine J_getI dX7_cycle_38 flX7_176 rfl rfl (J_top (v := ((n : Nat) : Int)) (MR.gn (mr_upF (by decide) (mr_upF (by decide) (mr_upF (by decide) hR)))) ?_)
      refine J_icmp_ge (tgt := 47) dX7_cycle_41 rfl (gdR hR) (j_R (by omega)) (fun h41 => ?_) (fun h41 => ?_)
      ·
        refine J_iconst dX7_cycle_47 ?_
        refine J_istore_n (L' := [(33, 0), (0, i), (0, (nthN n (spB F O) i)), (0, 0), (9, 0)]) dX7_cycle_48 (by decide) rfl rfl ?_
        refine J_iconst dX7_cycle_49 ?_
        refine J_istore (L' := [(33, 0), (0, i), (0, (nthN n (spB F O) i)), (0, 0), (0, 0)]) dX7_cycle_50 (by decide) rfl rfl ?_
        refine J_eq (L' := [(33, 0), (0, i), (0, (nthN n (spB F O) i)), (0, ((0 : Nat) : Int)), (0, ((0 : Nat) : Int))]) rfl rfl rfl ?_
        exact ev_X7_cycle_L52 P D n F O tl tb fa tr wh M hS i hi _ rfl h11 h24 h41 _ _ (by exact Nat.zero_le _) (Nat.lt_succ_self _)
      ·
        refine J_bipush dX7_cycle_44 (by decide) ?_
        refine J_ireturn dX7_cycle_46 rfl ?_
        have hm : bP n F O i = true := by unfold bP bT; rw [h11, decide_eq_true h24]; rfl
        exact ⟨by unfold A_cycle; rw [if_pos hm, if_pos h41], by rw [u1_t hm]; exact ms_rfE (by rw [h11]; rfl) (by decide) hS, cm_ref⟩
    ·
      refine J_aload_n dX7_cycle_27 rfl ?_
      refine J_iconst dX7_cycle_28 ?_
      refine J_callViQ (cl := mX7_no) [(0, 1)] [] dX7_cycle_29 mlX7_168 cvX7_no rfl rfl rfl rfl rfl (by decide) (Nat.le_of_ble_eq_true rfl) rfl (ev_X7_no 1 (j_up (j_up (j_up M 23 0 0) 23 3 (-1)) 23 1 (if (decide (0 < n)) = true then 0 else 1))) ?_
      refine J_ireturn dX7_cycle_32 rfl ?_
      have hm : bP n F O i = false := by unfold bP; rw [h24]; simp
      exact ⟨by unfold A_cycle; rw [hm]; rfl, by rw [u1_f hm]; exact ms_tr (by decide) (ms_ref if01 hS), cm_up cm_ref⟩
  ·
    refine J_iconst dX7_cycle_14 ?_
    refine J_ireturn dX7_cycle_15 rfl ?_
    have hm : bP n F O i = false := by unfold bP bT; rw [h11]; rfl
    exact ⟨by unfold A_cycle; rw [hm]; rfl, by rw [u1_f hm]; exact ms_rfE (by rw [h11]; rfl) (by decide) hS, cm_ref⟩
set_option maxRecDepth 100000 in
set_option maxHeartbeats 4000000 in
theorem ev_X7_fallsApart (P D n : Nat) (F O : Nat → Nat) (tl : Nat) (tb : Nat → Nat) (fa tr wh : Int) (M : jM) (hS : MS P D n F O tl tb fa tr wh M) : Ev 28 mX7_fallsApart [(33, 0)] M (fun z M' => z = A_fallsApart P n F ∧ MS P D n F O tl tb fa (u1 (bT n)) 0 M' ∧ CM M M') := by
  refine Ev_of (by decide +kernel) (Nat.le_of_ble_eq_true rfl) (L := [(33, 0)]) rfl ?_
  have hR := hS.1
  have hn12 := MR.hn hR
  have hP7 := MR.hP hR
  have hD5 := MR.hD hR
  refine J_aload_n dX7_fallsApart_0 rfl ?_
  refine J_aload_n dX7_fallsApart_1 rfl ?_
  refine J_getI dX7_fallsApart_2 flX7_179 rfl rfl (J_top (v := ((Bool.toNat (decide (0 < n)) : Nat) : Int)) (MR.gt hR) ?_)
  refine J_callSiQ (cl := mX7_unless) [(0, ((Bool.toNat (decide (0 < n)) : Nat) : Int))] [(33, 0)] dX7_fallsApart_5 mlX7_199 csX7_unless rfl rfl (by decide) (Nat.le_of_ble_eq_true rfl) rfl (ev_X7_unless (decide (0 < n)) M) ?_
  refine J_callViQ (cl := mX7_isRefused) [(0, (if (decide (0 < n)) = true then 0 else 1))] [] dX7_fallsApart_8 mlX7_159 cvX7_isRefused rfl rfl rfl rfl rfl (by decide) (Nat.le_of_ble_eq_true rfl) rfl (ev_X7_isRefused (if (decide (0 < n)) = true then 0 else 1) (ifR _ (by decide) (by decide)) M) (J_top (v := ((Bool.toNat (!(decide (0 < n))) : Nat) : Int)) (rf_un _) ?_)
  refine J_ifn_eq (b := (decide (0 < n))) (tgt := 16) dX7_fallsApart_11 rfl (fun h11 => ?_) (fun h11 => ?_)
  ·
    refine J_aload_n dX7_fallsApart_16 rfl ?_
    refine J_aload_n dX7_fallsApart_17 rfl ?_
    refine J_callViQ (cl := mX7_allFacets) [] [(33, 0)] dX7_fallsApart_18 mlX7_339 cvX7_allFacets rfl rfl rfl rfl rfl (by decide) (Nat.le_of_ble_eq_true rfl) rfl (ev_X7_allFacets P D n F O (j_up (j_up (j_up M 23 0 0) 23 3 (-1)) 23 1 (if (decide (0 < n)) = true then 0 else 1)) (mr_upF (by decide) (mr_upF (by decide) (mr_upF (by decide) hR))) ) ?_
    refine J_iconst dX7_fallsApart_21 ?_
    refine J_callViQ (cl := mX7_fallsOf) [(0, (((2 ^ n - 1) : Nat) : Int)), (0, 0)] [] dX7_fallsApart_22 mlX7_336 cvX7_fallsOf rfl rfl rfl rfl rfl (by decide) (Nat.le_of_ble_eq_true rfl) rfl (ev_X7_fallsOf P D n F O _ (mr_upF (by decide) (mr_upF (by decide) (mr_upF (by decide) hR))) 12 (2 ^ n - 1) 0 (af31 hR) (by decide) (by have := popc_le_of_lt (n := n) (s := 2 ^ n - 1) (by have := Nat.two_pow_pos n; omega); omega)) ?_
    refine J_ifb_eq (tgt := 32) dX7_fallsApart_25 rfl (fun h25 => ?_) (fun h25 => ?_)
    ·
      refine J_iconst dX7_fallsApart_32 ?_
      refine J_ireturn dX7_fallsApart_33 rfl ?_
      exact ⟨by unfold A_fallsApart bT; rw [if_pos h11, h25]; rfl, by unfold u1 bT; exact ms_ref if01 hS, cm_ref⟩
    ·
      refine J_iconst dX7_fallsApart_28 ?_
      refine J_goto (tgt := 33) dX7_fallsApart_29 rfl ?_
      refine J_ireturn dX7_fallsApart_33 rfl ?_
      exact ⟨by unfold A_fallsApart bT; rw [if_pos h11, h25]; rfl, by unfold u1 bT; exact ms_ref if01 hS, cm_ref⟩
  ·
    refine J_iconst dX7_fallsApart_14 ?_
    refine J_ireturn dX7_fallsApart_15 rfl ?_
    exact ⟨by unfold A_fallsApart bT; rw [h11]; rfl, by unfold u1 bT; exact ms_ref if01 hS, cm_ref⟩
set_option maxRecDepth 100000 in
set_option maxHeartbeats 4000000 in
theorem ev_X7_shed_L20 (P D n : Nat) (F O : Nat → Nat) (tl : Nat) (tb : Nat → Nat) (fa tr wh : Int) (M : jM) (hS : MS P D n F O tl tb fa tr wh M) (M1 : jM) (hM1 : M1 = (j_up (j_up (j_up M 23 0 0) 23 3 (-1)) 23 1 (if decide (0 < n) = true then 0 else 1))) (h11 : decide (0 < n) = true) : ∀ (fu : Nat) (p : Nat) (f2 : p ≤ P) (hfu : P - p < fu), J none 2 mX7_shed 20 [(33, 0), (0, (((mskN p (fun p => csB n F (2 ^ n - 1) 0 p)) : Nat) : Int)), (0, ((p : Nat) : Int))] [] M1 (j_ret mX7_shed (fun z M' => z = A_shed P n F ∧ MS P D n F O tl tb fa (u1 (bT n)) 0 M' ∧ CM M M')) := by
  intro fu
  induction fu with
  | zero => intro p f2 hfu; exact absurd hfu (Nat.not_lt_zero _)
  | succ fu ih =>
    intro p f2 hfu
    have hR := hS.1
    have hn12 := MR.hn hR
    have hP7 := MR.hP hR
    have hD5 := MR.hD hR
    have hR1 : MR P D n F O M1 := by rw [hM1]; exact mr_upF (by decide) (mr_upF (by decide) (mr_upF (by decide) hR))
    refine J_iload_n dX7_shed_20 rfl ?_
    refine J_aload_n dX7_shed_21 rfl ?_
    refine J_getI dX7_shed_22 flX7_171 rfl rfl (J_top (v := ((P : Nat) : Int)) (MR.gP hR1) ?_)
    refine J_icmp_ge (tgt := 57) dX7_shed_25 rfl (j_R (by omega)) (j_R (by omega)) (fun h25 => ?_) (fun h25 => ?_)
    ·
      refine J_iload_n dX7_shed_57 rfl ?_
      refine J_ireturn dX7_shed_58 rfl ?_
      subst hM1
      exact ⟨by unfold A_shed bT; rw [if_pos h11, show p = P by omega], by unfold u1 bT; exact ms_ref if01 hS, cm_ref⟩
    ·
      refine J_iload_n dX7_shed_28 rfl ?_
      refine J_aload_n dX7_shed_29 rfl ?_
      refine J_aload_n dX7_shed_30 rfl ?_
      refine J_callViQ (cl := mX7_allFacets) [] [(33, 0), (0, (((mskN p (fun p => csB n F (2 ^ n - 1) 0 p)) : Nat) : Int))] dX7_shed_31 mlX7_339 cvX7_allFacets rfl rfl rfl rfl rfl (by decide) (Nat.le_of_ble_eq_true rfl) rfl (ev_X7_allFacets P D n F O M1 hR1 ) ?_
      refine J_iconst dX7_shed_34 ?_
      refine J_iload_n dX7_shed_35 rfl ?_
      refine J_callViQ (cl := mX7_canShed) [(0, (((2 ^ n - 1) : Nat) : Int)), (0, 0), (0, ((p : Nat) : Int))] [(0, (((mskN p (fun p => csB n F (2 ^ n - 1) 0 p)) : Nat) : Int))] dX7_shed_36 mlX7_327 cvX7_canShed rfl rfl rfl rfl rfl (by decide) (Nat.le_of_ble_eq_true rfl) rfl (ev_X7_canShed P D n F O M1 hR1 (2 ^ n - 1) 0 p (af31 hR1) (by decide) (by omega)) ?_
      refine J_ifb_eq (tgt := 48) dX7_shed_39 rfl (fun h39 => ?_) (fun h39 => ?_)
      ·
        refine J_iconst dX7_shed_48 ?_
        refine J_ior dX7_shed_49 (J_top (v := (((mskN p (fun p => csB n F (2 ^ n - 1) 0 p)) : Nat) : Int)) (j_or0 rfl (mskN_31 (by omega))) ?_)
        refine J_istore_n (L' := [(33, 0), (0, (((mskN p (fun p => csB n F (2 ^ n - 1) 0 p)) : Nat) : Int)), (0, ((p : Nat) : Int))]) dX7_shed_50 (by decide) rfl rfl ?_
        refine J_eq (L' := [(33, 0), (0, (((mskN (p + 1) (fun p => csB n F (2 ^ n - 1) 0 p)) : Nat) : Int)), (0, ((p : Nat) : Int))]) (by rw [mskN_f (k := p) h39]) rfl rfl ?_
        refine J_iinc (v := (((p + 1) : Nat) : Int)) (L' := [(33, 0), (0, (((mskN (p + 1) (fun p => csB n F (2 ^ n - 1) 0 p)) : Nat) : Int)), (0, (((p + 1) : Nat) : Int))]) dX7_shed_51 rfl (by omega) (by decide) rfl rfl ?_
        refine J_goto (tgt := 20) dX7_shed_54 rfl ?_
        exact ih _ (by omega) (by omega)
      ·
        refine J_iconst dX7_shed_42 ?_
        refine J_iload_n dX7_shed_43 rfl ?_
        refine J_ishl dX7_shed_44 (J_top (v := (((2 ^ p) : Nat) : Int)) (j_shl1 rfl rfl (by omega)) ?_)
        refine J_goto (tgt := 49) dX7_shed_45 rfl ?_
        refine J_ior dX7_shed_49 (J_top (v := ((((mskN p (fun p => csB n F (2 ^ n - 1) 0 p)) ||| (2 ^ p)) : Nat) : Int)) (j_orN rfl rfl (mskN_31 (by omega)) (nb_p2 (by omega))) ?_)
        refine J_istore_n (L' := [(33, 0), (0, ((((mskN p (fun p => csB n F (2 ^ n - 1) 0 p)) ||| (2 ^ p)) : Nat) : Int)), (0, ((p : Nat) : Int))]) dX7_shed_50 (by decide) rfl rfl ?_
        refine J_eq (L' := [(33, 0), (0, (((mskN (p + 1) (fun p => csB n F (2 ^ n - 1) 0 p)) : Nat) : Int)), (0, ((p : Nat) : Int))]) (by rw [mskN_t (k := p) h39]) rfl rfl ?_
        refine J_iinc (v := (((p + 1) : Nat) : Int)) (L' := [(33, 0), (0, (((mskN (p + 1) (fun p => csB n F (2 ^ n - 1) 0 p)) : Nat) : Int)), (0, (((p + 1) : Nat) : Int))]) dX7_shed_51 rfl (by omega) (by decide) rfl rfl ?_
        refine J_goto (tgt := 20) dX7_shed_54 rfl ?_
        exact ih _ (by omega) (by omega)
set_option maxRecDepth 100000 in
set_option maxHeartbeats 4000000 in
theorem ev_X7_shed (P D n : Nat) (F O : Nat → Nat) (tl : Nat) (tb : Nat → Nat) (fa tr wh : Int) (M : jM) (hS : MS P D n F O tl tb fa tr wh M) : Ev 2 mX7_shed [(33, 0)] M (fun z M' => z = A_shed P n F ∧ MS P D n F O tl tb fa (u1 (bT n)) 0 M' ∧ CM M M') := by
  refine Ev_of (by decide +kernel) (Nat.le_of_ble_eq_true rfl) (L := [(33, 0), (9, 0), (9, 0)]) rfl ?_
  have hR := hS.1
  have hn12 := MR.hn hR
  have hP7 := MR.hP hR
  have hD5 := MR.hD hR
  refine J_aload_n dX7_shed_0 rfl ?_
  refine J_aload_n dX7_shed_1 rfl ?_
  refine J_getI dX7_shed_2 flX7_179 rfl rfl (J_top (v := ((Bool.toNat (decide (0 < n)) : Nat) : Int)) (MR.gt hR) ?_)
  refine J_callSiQ (cl := mX7_unless) [(0, ((Bool.toNat (decide (0 < n)) : Nat) : Int))] [(33, 0)] dX7_shed_5 mlX7_199 csX7_unless rfl rfl (by decide) (Nat.le_of_ble_eq_true rfl) rfl (ev_X7_unless (decide (0 < n)) M) ?_
  refine J_callViQ (cl := mX7_isRefused) [(0, (if (decide (0 < n)) = true then 0 else 1))] [] dX7_shed_8 mlX7_159 cvX7_isRefused rfl rfl rfl rfl rfl (by decide) (Nat.le_of_ble_eq_true rfl) rfl (ev_X7_isRefused (if (decide (0 < n)) = true then 0 else 1) (ifR _ (by decide) (by decide)) M) (J_top (v := ((Bool.toNat (!(decide (0 < n))) : Nat) : Int)) (rf_un _) ?_)
  refine J_ifn_eq (b := (decide (0 < n))) (tgt := 16) dX7_shed_11 rfl (fun h11 => ?_) (fun h11 => ?_)
  ·
    refine J_iconst dX7_shed_16 ?_
    refine J_istore_n (L' := [(33, 0), (0, 0), (9, 0)]) dX7_shed_17 (by decide) rfl rfl ?_
    refine J_iconst dX7_shed_18 ?_
    refine J_istore_n (L' := [(33, 0), (0, 0), (0, 0)]) dX7_shed_19 (by decide) rfl rfl ?_
    refine J_eq (L' := [(33, 0), (0, ((0 : Nat) : Int)), (0, ((0 : Nat) : Int))]) rfl rfl rfl ?_
    exact ev_X7_shed_L20 P D n F O tl tb fa tr wh M hS _ rfl h11 _ _ (by exact Nat.zero_le _) (Nat.lt_succ_self _)
  ·
    refine J_iconst dX7_shed_14 ?_
    refine J_ireturn dX7_shed_15 rfl ?_
    exact ⟨by unfold A_shed bT; rw [h11]; rfl, by unfold u1 bT; exact ms_ref if01 hS, cm_ref⟩
set_option maxRecDepth 100000 in
set_option maxHeartbeats 4000000 in
theorem ev_X7_first_L18 (P D n : Nat) (F O : Nat → Nat) (tl : Nat) (tb : Nat → Nat) (fa tr wh : Int) (M : jM) (hS : MS P D n F O tl tb fa tr wh M) (M1 : jM) (hM1 : M1 = (j_up (j_up (j_up M 23 0 0) 23 3 (-1)) 23 1 (if decide (0 < n) = true then 0 else 1))) (h11 : decide (0 < n) = true) : ∀ (fu : Nat) (p : Nat) (f1 : anyN p (fsQ P n F) = false) (f2 : p ≤ P) (hfu : P - p < fu), J none 28 mX7_first 18 [(33, 0), (0, ((p : Nat) : Int))] [] M1 (j_ret mX7_first (fun z M' => z = A_first P n F ∧ MS P D n F O tl tb fa (u1 (bT n)) 0 M' ∧ CM M M')) := by
  intro fu
  induction fu with
  | zero => intro p f1 f2 hfu; exact absurd hfu (Nat.not_lt_zero _)
  | succ fu ih =>
    intro p f1 f2 hfu
    have hR := hS.1
    have hn12 := MR.hn hR
    have hP7 := MR.hP hR
    have hD5 := MR.hD hR
    have hR1 : MR P D n F O M1 := by rw [hM1]; exact mr_upF (by decide) (mr_upF (by decide) (mr_upF (by decide) hR))
    refine J_iload_n dX7_first_18 rfl ?_
    refine J_aload_n dX7_first_19 rfl ?_
    refine J_getI dX7_first_20 flX7_171 rfl rfl (J_top (v := ((P : Nat) : Int)) (MR.gP hR1) ?_)
    refine J_icmp_ge (tgt := 60) dX7_first_23 rfl (j_R (by omega)) (j_R (by omega)) (fun h23 => ?_) (fun h23 => ?_)
    ·
      refine J_bipush dX7_first_60 (by decide) ?_
      refine J_ireturn dX7_first_62 rfl ?_
      rw [show p = P by omega] at f1
      subst hM1
      exact ⟨by unfold A_first bT; rw [if_pos h11, fstN_none f1], by unfold u1 bT; exact ms_ref if01 hS, cm_ref⟩
    ·
      refine J_aload_n dX7_first_26 rfl ?_
      refine J_aload_n dX7_first_27 rfl ?_
      refine J_callViQ (cl := mX7_allFacets) [] [(33, 0)] dX7_first_28 mlX7_339 cvX7_allFacets rfl rfl rfl rfl rfl (by decide) (Nat.le_of_ble_eq_true rfl) rfl (ev_X7_allFacets P D n F O M1 hR1 ) ?_
      refine J_iconst dX7_first_31 ?_
      refine J_iload_n dX7_first_32 rfl ?_
      refine J_callViQ (cl := mX7_canShed) [(0, (((2 ^ n - 1) : Nat) : Int)), (0, 0), (0, ((p : Nat) : Int))] [] dX7_first_33 mlX7_327 cvX7_canShed rfl rfl rfl rfl rfl (by decide) (Nat.le_of_ble_eq_true rfl) rfl (ev_X7_canShed P D n F O M1 hR1 (2 ^ n - 1) 0 p (af31 hR1) (by decide) (by omega)) ?_
      refine J_ifb_eq (tgt := 54) dX7_first_36 rfl (fun h36 => ?_) (fun h36 => ?_)
      ·
        refine J_iinc (v := (((p + 1) : Nat) : Int)) (L' := [(33, 0), (0, (((p + 1) : Nat) : Int))]) dX7_first_54 rfl (by omega) (by decide) rfl rfl ?_
        refine J_goto (tgt := 18) dX7_first_57 rfl ?_
        exact ih _ (by rw [anyN_f (by unfold fsQ; rw [h36, Bool.false_and]), f1]) (by omega) (by omega)
      ·
        refine J_aload_n dX7_first_39 rfl ?_
        refine J_aload_n dX7_first_40 rfl ?_
        refine J_callViQ (cl := mX7_allFacets) [] [(33, 0)] dX7_first_41 mlX7_339 cvX7_allFacets rfl rfl rfl rfl rfl (by decide) (Nat.le_of_ble_eq_true rfl) rfl (ev_X7_allFacets P D n F O M1 hR1 ) ?_
        refine J_iconst dX7_first_44 ?_
        refine J_iload_n dX7_first_45 rfl ?_
        refine J_callViQ (cl := mX7_bothFall) [(0, (((2 ^ n - 1) : Nat) : Int)), (0, 0), (0, ((p : Nat) : Int))] [] dX7_first_46 mlX7_330 cvX7_bothFall rfl rfl rfl rfl rfl (by decide) (Nat.le_of_ble_eq_true rfl) rfl (ev_X7_bothFall P D n F O M1 hR1 11 (2 ^ n - 1) 0 (af31 hR) (by decide) p (by omega) (ev_X7_fallsOf P D n F O M1 hR1 11) (cs_pop1 hR.wf h36 (by have := popc_le_of_lt (n := n) (s := 2 ^ n - 1) (by have := Nat.two_pow_pos n; omega); omega)) (cs_pop2 hR.wf h36 (by have := popc_le_of_lt (n := n) (s := 2 ^ n - 1) (by have := Nat.two_pow_pos n; omega); omega))) ?_
        refine J_ifb_eq (tgt := 54) dX7_first_49 rfl (fun h49 => ?_) (fun h49 => ?_)
        ·
          refine J_iinc (v := (((p + 1) : Nat) : Int)) (L' := [(33, 0), (0, (((p + 1) : Nat) : Int))]) dX7_first_54 rfl (by omega) (by decide) rfl rfl ?_
          refine J_goto (tgt := 18) dX7_first_57 rfl ?_
          exact ih _ (by rw [anyN_f (by unfold fsQ; rw [h49, Bool.and_false]), f1]) (by omega) (by omega)
        ·
          refine J_iload_n dX7_first_52 rfl ?_
          refine J_ireturn dX7_first_53 rfl ?_
          subst hM1
          exact ⟨by unfold A_first bT; rw [if_pos h11, fstN_hit f1 (by unfold fsQ; rw [h36, h49]; rfl) (by omega)], by unfold u1 bT; exact ms_ref if01 hS, cm_ref⟩
set_option maxRecDepth 100000 in
set_option maxHeartbeats 4000000 in
theorem ev_X7_first (P D n : Nat) (F O : Nat → Nat) (tl : Nat) (tb : Nat → Nat) (fa tr wh : Int) (M : jM) (hS : MS P D n F O tl tb fa tr wh M) : Ev 28 mX7_first [(33, 0)] M (fun z M' => z = A_first P n F ∧ MS P D n F O tl tb fa (u1 (bT n)) 0 M' ∧ CM M M') := by
  refine Ev_of (by decide +kernel) (Nat.le_of_ble_eq_true rfl) (L := [(33, 0), (9, 0)]) rfl ?_
  have hR := hS.1
  have hn12 := MR.hn hR
  have hP7 := MR.hP hR
  have hD5 := MR.hD hR
  refine J_aload_n dX7_first_0 rfl ?_
  refine J_aload_n dX7_first_1 rfl ?_
  refine J_getI dX7_first_2 flX7_179 rfl rfl (J_top (v := ((Bool.toNat (decide (0 < n)) : Nat) : Int)) (MR.gt hR) ?_)
  refine J_callSiQ (cl := mX7_unless) [(0, ((Bool.toNat (decide (0 < n)) : Nat) : Int))] [(33, 0)] dX7_first_5 mlX7_199 csX7_unless rfl rfl (by decide) (Nat.le_of_ble_eq_true rfl) rfl (ev_X7_unless (decide (0 < n)) M) ?_
  refine J_callViQ (cl := mX7_isRefused) [(0, (if (decide (0 < n)) = true then 0 else 1))] [] dX7_first_8 mlX7_159 cvX7_isRefused rfl rfl rfl rfl rfl (by decide) (Nat.le_of_ble_eq_true rfl) rfl (ev_X7_isRefused (if (decide (0 < n)) = true then 0 else 1) (ifR _ (by decide) (by decide)) M) (J_top (v := ((Bool.toNat (!(decide (0 < n))) : Nat) : Int)) (rf_un _) ?_)
  refine J_ifn_eq (b := (decide (0 < n))) (tgt := 16) dX7_first_11 rfl (fun h11 => ?_) (fun h11 => ?_)
  ·
    refine J_iconst dX7_first_16 ?_
    refine J_istore_n (L' := [(33, 0), (0, 0)]) dX7_first_17 (by decide) rfl rfl ?_
    refine J_eq (L' := [(33, 0), (0, ((0 : Nat) : Int))]) rfl rfl rfl ?_
    exact ev_X7_first_L18 P D n F O tl tb fa tr wh M hS _ rfl h11 _ _ (by rfl) (by exact Nat.zero_le _) (Nat.lt_succ_self _)
  ·
    refine J_iconst dX7_first_14 ?_
    refine J_ireturn dX7_first_15 rfl ?_
    exact ⟨by unfold A_first bT; rw [h11]; rfl, by unfold u1 bT; exact ms_ref if01 hS, cm_ref⟩
