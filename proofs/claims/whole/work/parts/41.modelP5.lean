def A_link (P n : Nat) (F : Nat → Nat) (i : Int) : Int := if lkW P n F i = 0 then (popc (lyg n F i.toNat) : Int) else -1
def bR (D : Nat) (i k : Int) : Bool := decide (0 ≤ k ∧ k ≤ (D : Int) - (popc i.toNat : Int))
def tLR (P D n : Nat) (F : Nat → Nat) (i k : Int) : Int := if lkW P n F i = 0 then (if bR D i k = true then 0 else 2) else lkW P n F i
def A_linkRound (P D n : Nat) (F : Nat → Nat) (i k : Int) : Int := if lkW P n F i = 0 ∧ bR D i k = true then rdN (lkF n F i.toNat) k.toNat else -1
def A_linkShellings (P n : Nat) (F : Nat → Nat) (i : Int) : Int := if lkW P n F i = 0 then (won (lkG n F i.toNat) (lkN n F i.toNat) 0 : Int) else -1
def A_even (P D n : Nat) (F : Nat → Nat) : Int := if bT n = true then ((allN (2 ^ P) (fun s => decide (lyg n F s = 0) || evB D n F s)).toNat : Int) else -1
def obN (n : Nat) (F : Nat → Nat) : Nat → Int
  | 0 => -2
  | s + 1 => if (¬ lyg n F s = 0 ∧ (obN n F s = -2 ∨ popc (obN n F s).toNat < popc s)) ∧ won (lkG n F s) (lkN n F s) 0 = 0 then (s : Int) else obN n F s
theorem obN_r (n : Nat) (F : Nat → Nat) : ∀ s, obN n F s = -2 ∨ (0 ≤ obN n F s ∧ obN n F s < (s : Int)) := by
  intro s
  induction s with
  | zero => exact Or.inl rfl
  | succ s ih =>
    simp only [obN]
    split
    · exact Or.inr (by omega)
    · rcases ih with h | h
      · exact Or.inl h
      · exact Or.inr (by omega)
def A_obstruction (P n : Nat) (F : Nat → Nat) : Int := if bT n = true then obN n F (2 ^ P) else -1
theorem lkW4 (P n : Nat) (F : Nat → Nat) (i : Int) : lkW P n F i ≠ 4 := by
  unfold lkW
  split
  · decide
  · split
    · decide
    · split <;> decide
theorem lkW0 {P n : Nat} {F : Nat → Nat} {i : Int} (h : lkW P n F i = 0) : 0 < n ∧ 0 ≤ i ∧ i ≤ ((2 ^ P - 1 : Nat) : Int) ∧ ¬ lyg n F i.toNat = 0 := by
  unfold lkW at h
  split at h
  · exact absurd h (by decide)
  · split at h
    · exact absurd h (by decide)
    · split at h
      · exact absurd h (by decide)
      · rename_i a b c
        rw [Decidable.not_not] at b
        exact ⟨by omega, b.1, b.2, c⟩
theorem lkF_cl (n : Nat) (F : Nat → Nat) (x : Nat) : Cl (lkF n F x) := isF_cl _ _
set_option maxRecDepth 100000 in
set_option maxHeartbeats 4000000 in
theorem ev_X7_link (P D n : Nat) (F O : Nat → Nat) (tl : Nat) (tb : Nat → Nat) (fa tr wh : Int) (M : jM) (hS : MS P D n F O tl tb fa tr wh M) (i : Int) (hi : -2147483648 ≤ i ∧ i < 2147483648) : Ev 3 mX7_link [(33, 0), (0, i)] M (fun z M' => z = A_link P n F i ∧ MS P D n F O tl tb fa (lkW P n F i) 0 M' ∧ CM M M') := by
  refine Ev_of (by decide +kernel) (Nat.le_of_ble_eq_true rfl) (L := [(33, 0), (0, i)]) rfl ?_
  have hR := hS.1
  have hn12 := MR.hn hR
  have hP7 := MR.hP hR
  have hD5 := MR.hD hR
  refine J_aload_n dX7_link_0 rfl ?_
  refine J_aload_n dX7_link_1 rfl ?_
  refine J_iload_n dX7_link_2 rfl ?_
  refine J_callViQ (cl := mX7_linkWhy) [(0, i)] [(33, 0)] dX7_link_3 mlX7_318 cvX7_linkWhy rfl rfl rfl rfl rfl (by decide) (Nat.le_of_ble_eq_true rfl) rfl (ev_X7_linkWhy P D n F O M hR i (by omega)) ?_
  refine J_callViQ (cl := mX7_isRefused) [(0, (lkW P n F i))] [] dX7_link_6 mlX7_159 cvX7_isRefused rfl rfl rfl rfl rfl (by decide) (Nat.le_of_ble_eq_true rfl) rfl (ev_X7_isRefused (lkW P n F i) (lkWR _ _ _ _) M) ?_
  refine J_ifb_eq (tgt := 16) dX7_link_9 rfl (fun h9 => ?_) (fun h9 => ?_)
  ·
    refine J_aload_n dX7_link_16 rfl ?_
    refine J_iload_n dX7_link_17 rfl (J_top (v := (((Int.toNat i) : Nat) : Int)) (by have := lkW0 (by have := of_decide_eq_false h9; omega : lkW P n F i = 0); omega) ?_)
    refine J_callViQ (cl := mX7_withinOf) [(0, (((Int.toNat i) : Nat) : Int))] [] dX7_link_18 mlX7_237 cvX7_withinOf rfl rfl rfl rfl rfl (by decide) (Nat.le_of_ble_eq_true rfl) rfl (ev_X7_withinOf P D n F O (j_up (j_up (j_up M 23 0 0) 23 3 (-1)) 23 1 (lkW P n F i)) (mr_upF (by decide) (mr_upF (by decide) (mr_upF (by decide) hR))) (Int.toNat i) (by have := lkW0 (by have := of_decide_eq_false h9; omega : lkW P n F i = 0); have := ap31 hR; omega)) ?_
    refine J_callSiQ (cl := mX7_many) [(0, (((lyg n F (Int.toNat i)) : Nat) : Int))] [] dX7_link_21 mlX7_136 csX7_many rfl rfl (by decide) (Nat.le_of_ble_eq_true rfl) rfl (ev_X7_many (lyg n F (Int.toNat i)) (ly31 hR _) (j_up (j_up (j_up M 23 0 0) 23 3 (-1)) 23 1 (lkW P n F i))) ?_
    refine J_ireturn dX7_link_24 rfl ?_
    have h0 : lkW P n F i = 0 := by have := of_decide_eq_false h9; omega
    exact ⟨by unfold A_link; rw [if_pos h0], ms_ref (lkW4 _ _ _ _) hS, cm_ref⟩
  ·
    refine J_iconst dX7_link_12 ?_
    refine J_goto (tgt := 24) dX7_link_13 rfl ?_
    refine J_ireturn dX7_link_24 rfl ?_
    have h0 := of_decide_eq_true h9
    exact ⟨by unfold A_link; rw [if_neg h0], ms_ref (lkW4 _ _ _ _) hS, cm_ref⟩
set_option maxRecDepth 100000 in
set_option maxHeartbeats 4000000 in
theorem ev_X7_linkShellings (P D n : Nat) (F O : Nat → Nat) (tl : Nat) (tb : Nat → Nat) (fa tr wh : Int) (M : jM) (hS : MS P D n F O tl tb fa tr wh M) (i : Int) (hi : -2147483648 ≤ i ∧ i < 2147483648) : Ev 4 mX7_linkShellings [(33, 0), (0, i)] M (fun z M' => z = A_linkShellings P n F i ∧ MS P D n F O tl tb fa (lkW P n F i) 0 M' ∧ CM M M') := by
  refine Ev_of (by decide +kernel) (Nat.le_of_ble_eq_true rfl) (L := [(33, 0), (0, i)]) rfl ?_
  have hR := hS.1
  have hn12 := MR.hn hR
  have hP7 := MR.hP hR
  have hD5 := MR.hD hR
  refine J_aload_n dX7_linkShellings_0 rfl ?_
  refine J_aload_n dX7_linkShellings_1 rfl ?_
  refine J_iload_n dX7_linkShellings_2 rfl ?_
  refine J_callViQ (cl := mX7_linkWhy) [(0, i)] [(33, 0)] dX7_linkShellings_3 mlX7_318 cvX7_linkWhy rfl rfl rfl rfl rfl (by decide) (Nat.le_of_ble_eq_true rfl) rfl (ev_X7_linkWhy P D n F O M hR i (by omega)) ?_
  refine J_callViQ (cl := mX7_isRefused) [(0, (lkW P n F i))] [] dX7_linkShellings_6 mlX7_159 cvX7_isRefused rfl rfl rfl rfl rfl (by decide) (Nat.le_of_ble_eq_true rfl) rfl (ev_X7_isRefused (lkW P n F i) (lkWR _ _ _ _) M) ?_
  refine J_ifb_eq (tgt := 14) dX7_linkShellings_9 rfl (fun h9 => ?_) (fun h9 => ?_)
  ·
    refine J_aload_n dX7_linkShellings_14 rfl ?_
    refine J_iload_n dX7_linkShellings_15 rfl (J_top (v := (((Int.toNat i) : Nat) : Int)) (by have := lkW0 (by have := of_decide_eq_false h9; omega : lkW P n F i = 0); omega) ?_)
    refine J_callVv (cl := mX7_laysLink) [(0, (((Int.toNat i) : Nat) : Int))] [] dX7_linkShellings_16 mlX7_321 cvX7_laysLink rfl rfl rfl rfl rfl (by decide) (Nat.le_of_ble_eq_true rfl) rfl (ev_X7_laysLink P D n F O _ (mr_upF (by decide) (mr_upF (by decide) (mr_upF (by decide) hR))) (Int.toNat i) (by have := lkW0 (by have := of_decide_eq_false h9; omega : lkW P n F i = 0); have := ap31 hR; omega)) (fun Mb hq16 => ?_)
    obtain ⟨b1, b2, b3⟩ := hq16
    refine J_aload_n dX7_linkShellings_19 rfl ?_
    refine J_aload_n dX7_linkShellings_20 rfl ?_
    refine J_getR dX7_linkShellings_21 flX7_52 rfl rfl ?_
    refine J_aload_n dX7_linkShellings_24 rfl ?_
    refine J_getI dX7_linkShellings_25 flX7_315 rfl rfl (J_top (v := (((lkN n F (Int.toNat i)) : Nat) : Int)) b2 ?_)
    refine J_callVv (cl := mX7_laysWays) [(46, 0), (0, (((lkN n F (Int.toNat i)) : Nat) : Int))] [] dX7_linkShellings_28 mlX7_301 cvX7_laysWays rfl rfl rfl rfl rfl (by decide) (Nat.le_of_ble_eq_true rfl) rfl (ev_X7_laysWays_36 (lkN n F (Int.toNat i)) (by have := lkN_le n F (Int.toNat i); omega) (lkG n F (Int.toNat i)) Mb b3) (fun Mc hq28 => ?_)
    obtain ⟨e1, e2, e3⟩ := hq28
    refine J_aload_n dX7_linkShellings_31 rfl ?_
    refine J_getR dX7_linkShellings_32 flX7_46 rfl rfl ?_
    refine J_iconst dX7_linkShellings_35 ?_
    refine J_iald dX7_linkShellings_36 rfl (by decide) (by omega) (J_top (v := (((won (lkG n F (Int.toNat i)) (lkN n F (Int.toNat i)) 0) : Nat) : Int)) (e3 0 (Nat.two_pow_pos _)) ?_)
    refine J_ireturn dX7_linkShellings_37 rfl ?_
    have h0 : lkW P n F i = 0 := by have := of_decide_eq_false h9; omega
    exact ⟨by unfold A_linkShellings; rw [if_pos h0], ms_ch e1 (by decide) (by decide) (by decide) (ms_fz b1 (by decide) (by decide) (by decide) (by decide) (ms_ref (lkW4 _ _ _ _) hS)), cm_tr (cm_tr cm_ref (cm_fz b1 (by decide))) (cm_ch e1 (by decide))⟩
  ·
    refine J_iconst dX7_linkShellings_12 ?_
    refine J_ireturn dX7_linkShellings_13 rfl ?_
    have h0 := of_decide_eq_true h9
    exact ⟨by unfold A_linkShellings; rw [if_neg h0], ms_ref (lkW4 _ _ _ _) hS, cm_ref⟩
set_option maxRecDepth 100000 in
set_option maxHeartbeats 4000000 in
theorem ev_X7_linkRound (P D n : Nat) (F O : Nat → Nat) (tl : Nat) (tb : Nat → Nat) (fa tr wh : Int) (M : jM) (hS : MS P D n F O tl tb fa tr wh M) (i : Int) (hi : -2147483648 ≤ i ∧ i < 2147483648) (k : Int) (hk : -2147483648 ≤ k ∧ k < 2147483648) : Ev 5 mX7_linkRound [(33, 0), (0, i), (0, k)] M (fun z M' => z = A_linkRound P D n F i k ∧ MS P D n F O tl tb fa (tLR P D n F i k) 0 M' ∧ CM M M') := by
  refine Ev_of (by decide +kernel) (Nat.le_of_ble_eq_true rfl) (L := [(33, 0), (0, i), (0, k)]) rfl ?_
  have hR := hS.1
  have hn12 := MR.hn hR
  have hP7 := MR.hP hR
  have hD5 := MR.hD hR
  refine J_aload_n dX7_linkRound_0 rfl ?_
  refine J_aload_n dX7_linkRound_1 rfl ?_
  refine J_iload_n dX7_linkRound_2 rfl ?_
  refine J_callViQ (cl := mX7_linkWhy) [(0, i)] [(33, 0)] dX7_linkRound_3 mlX7_318 cvX7_linkWhy rfl rfl rfl rfl rfl (by decide) (Nat.le_of_ble_eq_true rfl) rfl (ev_X7_linkWhy P D n F O M hR i (by omega)) ?_
  refine J_callViQ (cl := mX7_isRefused) [(0, (lkW P n F i))] [] dX7_linkRound_6 mlX7_159 cvX7_isRefused rfl rfl rfl rfl rfl (by decide) (Nat.le_of_ble_eq_true rfl) rfl (ev_X7_isRefused (lkW P n F i) (lkWR _ _ _ _) M) ?_
  refine J_ifb_eq (tgt := 14) dX7_linkRound_9 rfl (fun h9 => ?_) (fun h9 => ?_)
  ·
    refine J_iload_n dX7_linkRound_14 rfl ?_
    refine J_iconst dX7_linkRound_15 ?_
    refine J_aload_n dX7_linkRound_16 rfl ?_
    refine J_getI dX7_linkRound_17 flX7_173 rfl rfl (J_top (v := ((D : Nat) : Int)) (MR.gD (mr_upF (by decide) (mr_upF (by decide) (mr_upF (by decide) hR)))) ?_)
    refine J_iload_n dX7_linkRound_20 rfl (J_top (v := (((Int.toNat i) : Nat) : Int)) (by have := lkW0 (by have := of_decide_eq_false h9; omega : lkW P n F i = 0); omega) ?_)
    refine J_callSiQ (cl := mX7_many) [(0, (((Int.toNat i) : Nat) : Int))] [(0, ((D : Nat) : Int)), (0, 0), (0, k)] dX7_linkRound_21 mlX7_136 csX7_many rfl rfl (by decide) (Nat.le_of_ble_eq_true rfl) rfl (ev_X7_many (Int.toNat i) (by have := lkW0 (by have := of_decide_eq_false h9; omega : lkW P n F i = 0); have := ap31 hR; omega) (j_up (j_up (j_up M 23 0 0) 23 3 (-1)) 23 1 (lkW P n F i))) ?_
    refine J_isub dX7_linkRound_24 ?_
    refine J_callSiQ (cl := mX7_in) [(0, k), (0, 0), (0, (((D : Nat) : Int) - (((popc (Int.toNat i)) : Nat) : Int)))] [] dX7_linkRound_25 mlX7_84 csX7_in rfl rfl (by decide) (Nat.le_of_ble_eq_true rfl) rfl (ev_X7_in k 0 (((D : Nat) : Int) - (((popc (Int.toNat i)) : Nat) : Int)) (by omega) (by decide) (by have := popc_lt (n := 2147483648) (x := Int.toNat i) (by have := lkW0 (by have := of_decide_eq_false h9; omega : lkW P n F i = 0); have := ap31 hR; omega); omega) (j_up (j_up (j_up M 23 0 0) 23 3 (-1)) 23 1 (lkW P n F i))) ?_
    refine J_ifb_ne (tgt := 37) dX7_linkRound_28 rfl (fun h28 => ?_) (fun h28 => ?_)
    ·
      refine J_aload_n dX7_linkRound_37 rfl ?_
      refine J_iload_n dX7_linkRound_38 rfl (J_top (v := (((Int.toNat i) : Nat) : Int)) (by have := lkW0 (by have := of_decide_eq_false h9; omega : lkW P n F i = 0); omega) ?_)
      refine J_callVv (cl := mX7_laysLink) [(0, (((Int.toNat i) : Nat) : Int))] [] dX7_linkRound_39 mlX7_321 cvX7_laysLink rfl rfl rfl rfl rfl (by decide) (Nat.le_of_ble_eq_true rfl) rfl (ev_X7_laysLink P D n F O _ (mr_upF (by decide) (mr_upF (by decide) (mr_upF (by decide) hR))) (Int.toNat i) (by have := lkW0 (by have := of_decide_eq_false h9; omega : lkW P n F i = 0); have := ap31 hR; omega)) (fun Mb hq39 => ?_)
      obtain ⟨b1, b2, b3⟩ := hq39
      refine J_aload_n dX7_linkRound_42 rfl ?_
      refine J_aload_n dX7_linkRound_43 rfl ?_
      refine J_getR dX7_linkRound_44 flX7_52 rfl rfl ?_
      refine J_aload_n dX7_linkRound_47 rfl ?_
      refine J_getI dX7_linkRound_48 flX7_315 rfl rfl (J_top (v := (((lkN n F (Int.toNat i)) : Nat) : Int)) b2 ?_)
      refine J_callVv (cl := mX7_laysFaces) [(46, 0), (0, (((lkN n F (Int.toNat i)) : Nat) : Int))] [] dX7_linkRound_51 mlX7_195 cvX7_laysFaces rfl rfl rfl rfl rfl (by decide) (Nat.le_of_ble_eq_true rfl) rfl (ev_X7_laysFaces_36 (lkN n F (Int.toNat i)) (by have := lkN_le n F (Int.toNat i); omega) (lkG n F (Int.toNat i)) Mb b3) (fun Mc hq51 => ?_)
      obtain ⟨e1, e2⟩ := hq51
      refine J_aload_n dX7_linkRound_54 rfl ?_
      refine J_iload_n dX7_linkRound_55 rfl (J_top (v := (((Int.toNat k) : Nat) : Int)) (by have := of_decide_eq_true h28; omega) ?_)
      refine J_callVi (cl := mX7_roundOf) [(0, (((Int.toNat k) : Nat) : Int))] [] dX7_linkRound_56 mlX7_250 cvX7_roundOf rfl rfl rfl rfl rfl (by decide) (Nat.le_of_ble_eq_true rfl) rfl (ev_X7_roundOf (lkF n F (Int.toNat i)) (lkF_cl n F (Int.toNat i)) (Int.toNat k) (by have := of_decide_eq_true h28; omega) Mc e2) (fun z56 Md hq56 => ?_)
      obtain ⟨rfl, g1⟩ := hq56
      refine J_ireturn dX7_linkRound_59 rfl ?_
      have h0 : lkW P n F i = 0 := by have := of_decide_eq_false h9; omega
      exact ⟨by unfold A_linkRound bR; rw [if_pos ⟨h0, h28⟩], by unfold tLR bR; rw [if_pos h0, if_pos h28]; exact ms_ch g1 (by decide) (by decide) (by decide) (ms_ch e1 (by decide) (by decide) (by decide) (ms_fz b1 (by decide) (by decide) (by decide) (by decide) (ms_rfE h0 (by decide) hS))), cm_tr (cm_tr (cm_tr cm_ref (cm_fz b1 (by decide))) (cm_ch e1 (by decide))) (cm_ch g1 (by decide))⟩
    ·
      refine J_aload_n dX7_linkRound_31 rfl ?_
      refine J_iconst dX7_linkRound_32 ?_
      refine J_callViQ (cl := mX7_no) [(0, 2)] [] dX7_linkRound_33 mlX7_168 cvX7_no rfl rfl rfl rfl rfl (by decide) (Nat.le_of_ble_eq_true rfl) rfl (ev_X7_no 2 (j_up (j_up (j_up M 23 0 0) 23 3 (-1)) 23 1 (lkW P n F i))) ?_
      refine J_ireturn dX7_linkRound_36 rfl ?_
      have h0 : lkW P n F i = 0 := by have := of_decide_eq_false h9; omega
      exact ⟨by unfold A_linkRound bR; rw [if_neg (fun q => absurd (h28.symm.trans q.2) (by decide))], by unfold tLR bR; rw [if_pos h0, h28]; exact ms_tr (by decide) (ms_ref (lkW4 _ _ _ _) hS), cm_up cm_ref⟩
  ·
    refine J_iconst dX7_linkRound_12 ?_
    refine J_ireturn dX7_linkRound_13 rfl ?_
    have h0 := of_decide_eq_true h9
    exact ⟨by unfold A_linkRound; rw [if_neg (fun q => h0 q.1)], by unfold tLR; rw [if_neg h0]; exact ms_ref (lkW4 _ _ _ _) hS, cm_ref⟩
set_option maxRecDepth 100000 in
set_option maxHeartbeats 4000000 in
theorem ev_X7_even_L18 (P D n : Nat) (F O : Nat → Nat) (tl : Nat) (tb : Nat → Nat) (fa tr wh : Int) (M : jM) (hS : MS P D n F O tl tb fa tr wh M) (h11 : decide (0 < n) = true) : ∀ (fu : Nat) (M2 : jM) (s : Nat) (f1 : Fz [33] [28, 29, 30, 36] (j_up (j_up (j_up M 23 0 0) 23 3 (-1)) 23 1 (if decide (0 < n) = true then 0 else 1)) M2) (f2 : allN s (fun s => decide (lyg n F s = 0) || evB D n F s) = true) (f3 : s ≤ 2 ^ P) (hfu : 2 ^ P - s < fu), J none 5 mX7_even 18 [(33, 0), (0, ((s : Nat) : Int))] [] M2 (j_ret mX7_even (fun z M' => z = A_even P D n F ∧ MS P D n F O tl tb fa (u1 (bT n)) 0 M' ∧ CM M M')) := by
  intro fu
  induction fu with
  | zero => intro M2 s f1 f2 f3 hfu; exact absurd hfu (Nat.not_lt_zero _)
  | succ fu ih =>
    intro M2 s f1 f2 f3 hfu
    have hR := hS.1
    have hn12 := MR.hn hR
    have hP7 := MR.hP hR
    have hD5 := MR.hD hR
    have h2P : 2 ^ P ≤ 128 := Nat.pow_le_pow_right (n := 2) (by decide) hP7
    have h2p := Nat.two_pow_pos P
    refine J_iload_n dX7_even_18 rfl ?_
    refine J_aload_n dX7_even_19 rfl ?_
    refine J_callViQ (cl := mX7_allPoints) [] [(0, ((s : Nat) : Int))] dX7_even_20 mlX7_212 cvX7_allPoints rfl rfl rfl rfl rfl (by decide) (Nat.le_of_ble_eq_true rfl) rfl (ev_X7_allPoints P D n F O M2 (mr_fz f1 (by decide) (by decide) (mr_upF (by decide) (mr_upF (by decide) (mr_upF (by decide) hR))))) ?_
    refine J_icmp_gt (tgt := 50) dX7_even_23 rfl (j_R (by omega)) (j_R (ap31 (mr_fz f1 (by decide) (by decide) (mr_upF (by decide) (mr_upF (by decide) (mr_upF (by decide) hR)))))) (fun h23 => ?_) (fun h23 => ?_)
    ·
      refine J_iconst dX7_even_50 ?_
      refine J_ireturn dX7_even_51 rfl ?_
      exact ⟨by unfold A_even bT; rw [if_pos h11, show 2 ^ P = s by omega, f2]; rfl, by unfold u1 bT; exact ms_fz f1 (by decide) (by decide) (by decide) (by decide) (ms_ref if01 hS), cm_tr cm_ref (cm_fz f1 (by decide))⟩
    ·
      refine J_aload_n dX7_even_26 rfl ?_
      refine J_iload_n dX7_even_27 rfl ?_
      refine J_callViQ (cl := mX7_withinOf) [(0, ((s : Nat) : Int))] [] dX7_even_28 mlX7_237 cvX7_withinOf rfl rfl rfl rfl rfl (by decide) (Nat.le_of_ble_eq_true rfl) rfl (ev_X7_withinOf P D n F O M2 (mr_fz f1 (by decide) (by decide) (mr_upF (by decide) (mr_upF (by decide) (mr_upF (by decide) hR)))) s (by omega)) ?_
      refine J_if_eq (tgt := 44) dX7_even_31 rfl (j_R (ly31 (mr_fz f1 (by decide) (by decide) (mr_upF (by decide) (mr_upF (by decide) (mr_upF (by decide) hR)))) _)) (fun h31 => ?_) (fun h31 => ?_)
      ·
        refine J_iinc (v := (((s + 1) : Nat) : Int)) (L' := [(33, 0), (0, (((s + 1) : Nat) : Int))]) dX7_even_44 rfl (by omega) (by decide) rfl rfl ?_
        refine J_goto (tgt := 18) dX7_even_47 rfl ?_
        exact ih _ _ (by exact f1) (by rw [allN_t (by rw [decide_eq_true (by omega)]; rfl), f2]) (by omega) (by omega)
      ·
        refine J_aload_n dX7_even_34 rfl ?_
        refine J_iload_n dX7_even_35 rfl ?_
        refine J_callVi (cl := mX7_isEvenLink) [(0, ((s : Nat) : Int))] [] dX7_even_36 mlX7_324 cvX7_isEvenLink rfl rfl rfl rfl rfl (by decide) (Nat.le_of_ble_eq_true rfl) rfl (ev_X7_isEvenLink P D n F O M2 (mr_fz f1 (by decide) (by decide) (mr_upF (by decide) (mr_upF (by decide) (mr_upF (by decide) hR)))) s (by omega)) (fun z36 M3 hq36 => ?_)
        obtain ⟨rfl, e1⟩ := hq36
        refine J_ifb_ne (tgt := 44) dX7_even_39 rfl (fun h39 => ?_) (fun h39 => ?_)
        ·
          refine J_iinc (v := (((s + 1) : Nat) : Int)) (L' := [(33, 0), (0, (((s + 1) : Nat) : Int))]) dX7_even_44 rfl (by omega) (by decide) rfl rfl ?_
          refine J_goto (tgt := 18) dX7_even_47 rfl ?_
          exact ih _ _ (by exact Fz_tr f1 e1) (by rw [allN_t (by rw [h39]; simp), f2]) (by omega) (by omega)
        ·
          refine J_iconst dX7_even_42 ?_
          refine J_ireturn dX7_even_43 rfl ?_
          exact ⟨by unfold A_even bT; rw [if_pos h11, allN_no (k := s) (by rw [h39, decide_eq_false (by omega)]; rfl) (by omega)]; rfl, by unfold u1 bT; exact ms_fz (Fz_tr f1 e1) (by decide) (by decide) (by decide) (by decide) (ms_ref if01 hS), cm_tr cm_ref (cm_fz (Fz_tr f1 e1) (by decide))⟩
set_option maxRecDepth 100000 in
set_option maxHeartbeats 4000000 in
theorem ev_X7_even (P D n : Nat) (F O : Nat → Nat) (tl : Nat) (tb : Nat → Nat) (fa tr wh : Int) (M : jM) (hS : MS P D n F O tl tb fa tr wh M) : Ev 5 mX7_even [(33, 0)] M (fun z M' => z = A_even P D n F ∧ MS P D n F O tl tb fa (u1 (bT n)) 0 M' ∧ CM M M') := by
  refine Ev_of (by decide +kernel) (Nat.le_of_ble_eq_true rfl) (L := [(33, 0), (9, 0)]) rfl ?_
  have hR := hS.1
  have hn12 := MR.hn hR
  have hP7 := MR.hP hR
  have hD5 := MR.hD hR
  refine J_aload_n dX7_even_0 rfl ?_
  refine J_aload_n dX7_even_1 rfl ?_
  refine J_getI dX7_even_2 flX7_179 rfl rfl (J_top (v := ((Bool.toNat (decide (0 < n)) : Nat) : Int)) (MR.gt hR) ?_)
  refine J_callSiQ (cl := mX7_unless) [(0, ((Bool.toNat (decide (0 < n)) : Nat) : Int))] [(33, 0)] dX7_even_5 mlX7_199 csX7_unless rfl rfl (by decide) (Nat.le_of_ble_eq_true rfl) rfl (ev_X7_unless (decide (0 < n)) M) ?_
  refine J_callViQ (cl := mX7_isRefused) [(0, (if (decide (0 < n)) = true then 0 else 1))] [] dX7_even_8 mlX7_159 cvX7_isRefused rfl rfl rfl rfl rfl (by decide) (Nat.le_of_ble_eq_true rfl) rfl (ev_X7_isRefused (if (decide (0 < n)) = true then 0 else 1) (ifR _ (by decide) (by decide)) M) (J_top (v := ((Bool.toNat (!(decide (0 < n))) : Nat) : Int)) (rf_un _) ?_)
  refine J_ifn_eq (b := (decide (0 < n))) (tgt := 16) dX7_even_11 rfl (fun h11 => ?_) (fun h11 => ?_)
  ·
    refine J_iconst dX7_even_16 ?_
    refine J_istore_n (L' := [(33, 0), (0, 0)]) dX7_even_17 (by decide) rfl rfl ?_
    refine J_eq (L' := [(33, 0), (0, ((0 : Nat) : Int))]) rfl rfl rfl ?_
    exact ev_X7_even_L18 P D n F O tl tb fa tr wh M hS h11 _ _ _ (by exact Fz_rf) (by rfl) (by exact Nat.zero_le _) (Nat.lt_succ_self _)
  ·
    refine J_iconst dX7_even_14 ?_
    refine J_ireturn dX7_even_15 rfl ?_
    exact ⟨by unfold A_even bT; rw [h11]; rfl, by unfold u1 bT; exact ms_ref if01 hS, cm_ref⟩
set_option maxRecDepth 100000 in
set_option maxHeartbeats 4000000 in
theorem ev_X7_obstruction_L21 (P D n : Nat) (F O : Nat → Nat) (tl : Nat) (tb : Nat → Nat) (fa tr wh : Int) (M : jM) (hS : MS P D n F O tl tb fa tr wh M) (h11 : decide (0 < n) = true) : ∀ (fu : Nat) (M2 : jM) (s : Nat) (f1 : Fz [33] [33, 34, 36] (j_up (j_up (j_up M 23 0 0) 23 3 (-1)) 23 1 (if decide (0 < n) = true then 0 else 1)) M2) (f3 : s ≤ 2 ^ P) (hfu : 2 ^ P - s < fu), J none 5 mX7_obstruction 21 [(33, 0), (0, (obN n F s)), (0, ((s : Nat) : Int))] [] M2 (j_ret mX7_obstruction (fun z M' => z = A_obstruction P n F ∧ MS P D n F O tl tb fa (u1 (bT n)) 0 M' ∧ CM M M')) := by
  intro fu
  induction fu with
  | zero => intro M2 s f1 f3 hfu; exact absurd hfu (Nat.not_lt_zero _)
  | succ fu ih =>
    intro M2 s f1 f3 hfu
    have hR := hS.1
    have hn12 := MR.hn hR
    have hP7 := MR.hP hR
    have hD5 := MR.hD hR
    have h2P : 2 ^ P ≤ 128 := Nat.pow_le_pow_right (n := 2) (by decide) hP7
    have h2p := Nat.two_pow_pos P
    refine J_iload_n dX7_obstruction_21 rfl ?_
    refine J_aload_n dX7_obstruction_22 rfl ?_
    refine J_callViQ (cl := mX7_allPoints) [] [(0, ((s : Nat) : Int))] dX7_obstruction_23 mlX7_212 cvX7_allPoints rfl rfl rfl rfl rfl (by decide) (Nat.le_of_ble_eq_true rfl) rfl (ev_X7_allPoints P D n F O M2 (mr_fz f1 (by decide) (by decide) (mr_upF (by decide) (mr_upF (by decide) (mr_upF (by decide) hR))))) ?_
    refine J_icmp_gt (tgt := 92) dX7_obstruction_26 rfl (j_R (by omega)) (j_R (ap31 (mr_fz f1 (by decide) (by decide) (mr_upF (by decide) (mr_upF (by decide) (mr_upF (by decide) hR)))))) (fun h26 => ?_) (fun h26 => ?_)
    ·
      refine J_iload_n dX7_obstruction_92 rfl ?_
      refine J_ireturn dX7_obstruction_93 rfl ?_
      exact ⟨by unfold A_obstruction bT; rw [if_pos h11, show s = 2 ^ P by omega], by unfold u1 bT; exact ms_fz f1 (by decide) (by decide) (by decide) (by decide) (ms_ref if01 hS), cm_tr cm_ref (cm_fz f1 (by decide))⟩
    ·
      refine J_aload_n dX7_obstruction_29 rfl ?_
      refine J_iload_n dX7_obstruction_30 rfl ?_
      refine J_callViQ (cl := mX7_withinOf) [(0, ((s : Nat) : Int))] [] dX7_obstruction_31 mlX7_237 cvX7_withinOf rfl rfl rfl rfl rfl (by decide) (Nat.le_of_ble_eq_true rfl) rfl (ev_X7_withinOf P D n F O M2 (mr_fz f1 (by decide) (by decide) (mr_upF (by decide) (mr_upF (by decide) (mr_upF (by decide) hR)))) s (by omega)) ?_
      refine J_if_eq (tgt := 86) dX7_obstruction_34 rfl (j_R (ly31 (mr_fz f1 (by decide) (by decide) (mr_upF (by decide) (mr_upF (by decide) (mr_upF (by decide) hR)))) _)) (fun h34 => ?_) (fun h34 => ?_)
      ·
        refine J_eq (L' := [(33, 0), (0, (obN n F (s + 1))), (0, ((s : Nat) : Int))]) (by simp only [obN]; rw [if_neg (fun q => q.1.1 (by omega))]) rfl rfl ?_
        refine J_iinc (v := (((s + 1) : Nat) : Int)) (L' := [(33, 0), (0, (obN n F (s + 1))), (0, (((s + 1) : Nat) : Int))]) dX7_obstruction_86 rfl (by omega) (by decide) rfl rfl ?_
        refine J_goto (tgt := 21) dX7_obstruction_89 rfl ?_
        exact ih _ _ (by exact f1) (by omega) (by omega)
      ·
        refine J_iload_n dX7_obstruction_37 rfl ?_
        refine J_bipush dX7_obstruction_38 (by decide) ?_
        refine J_icmp_eq (tgt := 54) dX7_obstruction_40 rfl (by rcases obN_r n F s with q | q <;> omega) (by decide) (fun h40 => ?_) (fun h40 => ?_)
        ·
          refine J_aload_n dX7_obstruction_54 rfl ?_
          refine J_iload_n dX7_obstruction_55 rfl ?_
          refine J_callVv (cl := mX7_laysLink) [(0, ((s : Nat) : Int))] [] dX7_obstruction_56 mlX7_321 cvX7_laysLink rfl rfl rfl rfl rfl (by decide) (Nat.le_of_ble_eq_true rfl) rfl (ev_X7_laysLink P D n F O M2 (mr_fz f1 (by decide) (by decide) (mr_upF (by decide) (mr_upF (by decide) (mr_upF (by decide) hR)))) s (by omega)) (fun Mb hq56 => ?_)
          obtain ⟨b1, b2, b3⟩ := hq56
          refine J_aload_n dX7_obstruction_59 rfl ?_
          refine J_aload_n dX7_obstruction_60 rfl ?_
          refine J_getR dX7_obstruction_61 flX7_52 rfl rfl ?_
          refine J_aload_n dX7_obstruction_64 rfl ?_
          refine J_getI dX7_obstruction_65 flX7_315 rfl rfl (J_top (v := (((lkN n F s) : Nat) : Int)) b2 ?_)
          refine J_callVv (cl := mX7_laysWays) [(46, 0), (0, (((lkN n F s) : Nat) : Int))] [] dX7_obstruction_68 mlX7_301 cvX7_laysWays rfl rfl rfl rfl rfl (by decide) (Nat.le_of_ble_eq_true rfl) rfl (ev_X7_laysWays_36 (lkN n F s) (by have := lkN_le n F s; omega) (lkG n F s) Mb b3) (fun Mc hq68 => ?_)
          obtain ⟨e1, e2, e3⟩ := hq68
          refine J_aload_n dX7_obstruction_71 rfl ?_
          refine J_getR dX7_obstruction_72 flX7_46 rfl rfl ?_
          refine J_iconst dX7_obstruction_75 ?_
          refine J_iald dX7_obstruction_76 rfl (by decide) (by omega) (J_top (v := (((won (lkG n F s) (lkN n F s) 0) : Nat) : Int)) (e3 0 (Nat.two_pow_pos _)) ?_)
          refine J_if_ne (tgt := 84) dX7_obstruction_77 rfl (j_R (won31 _ (by have := lkN_le n F s; omega) _)) (fun h77 => ?_) (fun h77 => ?_)
          ·
            refine J_iload_n dX7_obstruction_84 rfl ?_
            refine J_istore_n (L' := [(33, 0), (0, (obN n F s)), (0, ((s : Nat) : Int))]) dX7_obstruction_85 (by decide) rfl rfl ?_
            refine J_eq (L' := [(33, 0), (0, (obN n F (s + 1))), (0, ((s : Nat) : Int))]) (by simp only [obN]; rw [if_neg (fun q => by have := q.2; omega)]) rfl rfl ?_
            refine J_iinc (v := (((s + 1) : Nat) : Int)) (L' := [(33, 0), (0, (obN n F (s + 1))), (0, (((s + 1) : Nat) : Int))]) dX7_obstruction_86 rfl (by omega) (by decide) rfl rfl ?_
            refine J_goto (tgt := 21) dX7_obstruction_89 rfl ?_
            exact ih _ _ (by exact Fz_tr (Fz_tr f1 (Fz_mo b1 (by decide) (by decide))) (Fz_ch (Ch_mo e1 (by decide)) (by decide))) (by omega) (by omega)
          ·
            refine J_iload_n dX7_obstruction_80 rfl ?_
            refine J_goto (tgt := 85) dX7_obstruction_81 rfl ?_
            refine J_istore_n (L' := [(33, 0), (0, ((s : Nat) : Int)), (0, ((s : Nat) : Int))]) dX7_obstruction_85 (by decide) rfl rfl ?_
            refine J_eq (L' := [(33, 0), (0, (obN n F (s + 1))), (0, ((s : Nat) : Int))]) (by simp only [obN]; rw [if_pos ⟨⟨by omega, Or.inl (by omega)⟩, by omega⟩]) rfl rfl ?_
            refine J_iinc (v := (((s + 1) : Nat) : Int)) (L' := [(33, 0), (0, (obN n F (s + 1))), (0, (((s + 1) : Nat) : Int))]) dX7_obstruction_86 rfl (by omega) (by decide) rfl rfl ?_
            refine J_goto (tgt := 21) dX7_obstruction_89 rfl ?_
            exact ih _ _ (by exact Fz_tr (Fz_tr f1 (Fz_mo b1 (by decide) (by decide))) (Fz_ch (Ch_mo e1 (by decide)) (by decide))) (by omega) (by omega)
        ·
          refine J_iload_n dX7_obstruction_43 rfl ?_
          refine J_callSiQ (cl := mX7_many) [(0, ((s : Nat) : Int))] [] dX7_obstruction_44 mlX7_136 csX7_many rfl rfl (by decide) (Nat.le_of_ble_eq_true rfl) rfl (ev_X7_many s (by omega) M2) ?_
          refine J_iload_n dX7_obstruction_47 rfl (J_top (v := (((Int.toNat (obN n F s)) : Nat) : Int)) (by rcases obN_r n F s with q | q <;> omega) ?_)
          refine J_callSiQ (cl := mX7_many) [(0, (((Int.toNat (obN n F s)) : Nat) : Int))] [(0, (((popc s) : Nat) : Int))] dX7_obstruction_48 mlX7_136 csX7_many rfl rfl (by decide) (Nat.le_of_ble_eq_true rfl) rfl (ev_X7_many (Int.toNat (obN n F s)) (by rcases obN_r n F s with q | q <;> omega) M2) ?_
          refine J_icmp_le (tgt := 86) dX7_obstruction_51 rfl (j_R (popc_lt (by omega))) (j_R (popc_lt (by rcases obN_r n F s with q | q <;> omega))) (fun h51 => ?_) (fun h51 => ?_)
          ·
            refine J_eq (L' := [(33, 0), (0, (obN n F (s + 1))), (0, ((s : Nat) : Int))]) (by simp only [obN]; rw [if_neg (fun q => by rcases q.1.2 with e | e <;> omega)]) rfl rfl ?_
            refine J_iinc (v := (((s + 1) : Nat) : Int)) (L' := [(33, 0), (0, (obN n F (s + 1))), (0, (((s + 1) : Nat) : Int))]) dX7_obstruction_86 rfl (by omega) (by decide) rfl rfl ?_
            refine J_goto (tgt := 21) dX7_obstruction_89 rfl ?_
            exact ih _ _ (by exact f1) (by omega) (by omega)
          ·
            refine J_aload_n dX7_obstruction_54 rfl ?_
            refine J_iload_n dX7_obstruction_55 rfl ?_
            refine J_callVv (cl := mX7_laysLink) [(0, ((s : Nat) : Int))] [] dX7_obstruction_56 mlX7_321 cvX7_laysLink rfl rfl rfl rfl rfl (by decide) (Nat.le_of_ble_eq_true rfl) rfl (ev_X7_laysLink P D n F O M2 (mr_fz f1 (by decide) (by decide) (mr_upF (by decide) (mr_upF (by decide) (mr_upF (by decide) hR)))) s (by omega)) (fun Mb hq56 => ?_)
            obtain ⟨b1, b2, b3⟩ := hq56
            refine J_aload_n dX7_obstruction_59 rfl ?_
            refine J_aload_n dX7_obstruction_60 rfl ?_
            refine J_getR dX7_obstruction_61 flX7_52 rfl rfl ?_
            refine J_aload_n dX7_obstruction_64 rfl ?_
            refine J_getI dX7_obstruction_65 flX7_315 rfl rfl (J_top (v := (((lkN n F s) : Nat) : Int)) b2 ?_)
            refine J_callVv (cl := mX7_laysWays) [(46, 0), (0, (((lkN n F s) : Nat) : Int))] [] dX7_obstruction_68 mlX7_301 cvX7_laysWays rfl rfl rfl rfl rfl (by decide) (Nat.le_of_ble_eq_true rfl) rfl (ev_X7_laysWays_36 (lkN n F s) (by have := lkN_le n F s; omega) (lkG n F s) Mb b3) (fun Mc hq68 => ?_)
            obtain ⟨e1, e2, e3⟩ := hq68
            refine J_aload_n dX7_obstruction_71 rfl ?_
            refine J_getR dX7_obstruction_72 flX7_46 rfl rfl ?_
            refine J_iconst dX7_obstruction_75 ?_
            refine J_iald dX7_obstruction_76 rfl (by decide) (by omega) (J_top (v := (((won (lkG n F s) (lkN n F s) 0) : Nat) : Int)) (e3 0 (Nat.two_pow_pos _)) ?_)
            refine J_if_ne (tgt := 84) dX7_obstruction_77 rfl (j_R (won31 _ (by have := lkN_le n F s; omega) _)) (fun h77 => ?_) (fun h77 => ?_)
            ·
              refine J_iload_n dX7_obstruction_84 rfl ?_
              refine J_istore_n (L' := [(33, 0), (0, (obN n F s)), (0, ((s : Nat) : Int))]) dX7_obstruction_85 (by decide) rfl rfl ?_
              refine J_eq (L' := [(33, 0), (0, (obN n F (s + 1))), (0, ((s : Nat) : Int))]) (by simp only [obN]; rw [if_neg (fun q => by have := q.2; omega)]) rfl rfl ?_
              refine J_iinc (v := (((s + 1) : Nat) : Int)) (L' := [(33, 0), (0, (obN n F (s + 1))), (0, (((s + 1) : Nat) : Int))]) dX7_obstruction_86 rfl (by omega) (by decide) rfl rfl ?_
              refine J_goto (tgt := 21) dX7_obstruction_89 rfl ?_
              exact ih _ _ (by exact Fz_tr (Fz_tr f1 (Fz_mo b1 (by decide) (by decide))) (Fz_ch (Ch_mo e1 (by decide)) (by decide))) (by omega) (by omega)
            ·
              refine J_iload_n dX7_obstruction_80 rfl ?_
              refine J_goto (tgt := 85) dX7_obstruction_81 rfl ?_
              refine J_istore_n (L' := [(33, 0), (0, ((s : Nat) : Int)), (0, ((s : Nat) : Int))]) dX7_obstruction_85 (by decide) rfl rfl ?_
              refine J_eq (L' := [(33, 0), (0, (obN n F (s + 1))), (0, ((s : Nat) : Int))]) (by simp only [obN]; rw [if_pos ⟨⟨by omega, Or.inr (by omega)⟩, by omega⟩]) rfl rfl ?_
              refine J_iinc (v := (((s + 1) : Nat) : Int)) (L' := [(33, 0), (0, (obN n F (s + 1))), (0, (((s + 1) : Nat) : Int))]) dX7_obstruction_86 rfl (by omega) (by decide) rfl rfl ?_
              refine J_goto (tgt := 21) dX7_obstruction_89 rfl ?_
              exact ih _ _ (by exact Fz_tr (Fz_tr f1 (Fz_mo b1 (by decide) (by decide))) (Fz_ch (Ch_mo e1 (by decide)) (by decide))) (by omega) (by omega)
set_option maxRecDepth 100000 in
set_option maxHeartbeats 4000000 in
theorem ev_X7_obstruction (P D n : Nat) (F O : Nat → Nat) (tl : Nat) (tb : Nat → Nat) (fa tr wh : Int) (M : jM) (hS : MS P D n F O tl tb fa tr wh M) : Ev 5 mX7_obstruction [(33, 0)] M (fun z M' => z = A_obstruction P n F ∧ MS P D n F O tl tb fa (u1 (bT n)) 0 M' ∧ CM M M') := by
  refine Ev_of (by decide +kernel) (Nat.le_of_ble_eq_true rfl) (L := [(33, 0), (9, 0), (9, 0)]) rfl ?_
  have hR := hS.1
  have hn12 := MR.hn hR
  have hP7 := MR.hP hR
  have hD5 := MR.hD hR
  refine J_aload_n dX7_obstruction_0 rfl ?_
  refine J_aload_n dX7_obstruction_1 rfl ?_
  refine J_getI dX7_obstruction_2 flX7_179 rfl rfl (J_top (v := ((Bool.toNat (decide (0 < n)) : Nat) : Int)) (MR.gt hR) ?_)
  refine J_callSiQ (cl := mX7_unless) [(0, ((Bool.toNat (decide (0 < n)) : Nat) : Int))] [(33, 0)] dX7_obstruction_5 mlX7_199 csX7_unless rfl rfl (by decide) (Nat.le_of_ble_eq_true rfl) rfl (ev_X7_unless (decide (0 < n)) M) ?_
  refine J_callViQ (cl := mX7_isRefused) [(0, (if (decide (0 < n)) = true then 0 else 1))] [] dX7_obstruction_8 mlX7_159 cvX7_isRefused rfl rfl rfl rfl rfl (by decide) (Nat.le_of_ble_eq_true rfl) rfl (ev_X7_isRefused (if (decide (0 < n)) = true then 0 else 1) (ifR _ (by decide) (by decide)) M) (J_top (v := ((Bool.toNat (!(decide (0 < n))) : Nat) : Int)) (rf_un _) ?_)
  refine J_ifn_eq (b := (decide (0 < n))) (tgt := 16) dX7_obstruction_11 rfl (fun h11 => ?_) (fun h11 => ?_)
  ·
    refine J_bipush dX7_obstruction_16 (by decide) ?_
    refine J_istore_n (L' := [(33, 0), (0, (-2)), (9, 0)]) dX7_obstruction_18 (by decide) rfl rfl ?_
    refine J_iconst dX7_obstruction_19 ?_
    refine J_istore_n (L' := [(33, 0), (0, (-2)), (0, 0)]) dX7_obstruction_20 (by decide) rfl rfl ?_
    refine J_eq (L' := [(33, 0), (0, (-2)), (0, ((0 : Nat) : Int))]) rfl rfl rfl ?_
    exact ev_X7_obstruction_L21 P D n F O tl tb fa tr wh M hS h11 _ _ _ (by exact Fz_rf) (by exact Nat.zero_le _) (Nat.lt_succ_self _)
  ·
    refine J_iconst dX7_obstruction_14 ?_
    refine J_ireturn dX7_obstruction_15 rfl ?_
    exact ⟨by unfold A_obstruction bT; rw [h11]; rfl, by unfold u1 bT; exact ms_ref if01 hS, cm_ref⟩
