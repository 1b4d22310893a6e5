theorem ms_rfE {P D n : Nat} {F O : Nat → Nat} {tl : Nat} {tb : Nat → Nat} {fa tr wh : Int} {M : jM} {w w' : Int} (e : w = w') (hw : w' ≠ 4) (h : MS P D n F O tl tb fa tr wh M) : MS P D n F O tl tb fa w' 0 (j_up (j_up (j_up M 23 0 0) 23 3 (-1)) 23 1 w) := by subst e; exact ms_ref hw h
theorem u1_t {b : Bool} (h : b = true) : u1 b = 0 := by rw [h]; rfl
theorem u1_f {b : Bool} (h : b = false) : u1 b = 1 := by rw [h]; rfl
theorem u2_t {b c : Bool} (h : (b && c) = true) : u2 b c = 0 := by rw [Bool.and_eq_true] at h; rw [h.1, h.2]; rfl
def nmS (P n : Nat) (F : Nat → Nat) (i : Int) : Int := nthN (2 ^ P) (msg P (isF n F)) i
def bM (P n : Nat) (F : Nat → Nat) (i : Int) : Bool := bT n && decide (¬ nmS P n F i = -1)
def A_missing (P n : Nat) (F : Nat → Nat) (i : Int) : Int := if bM P n F i = true then nmS P n F i else -1
def A_dual (P n : Nat) (F : Nat → Nat) (i : Int) : Int := if bM P n F i = true then ((ndf (2 ^ P - 1) (nmS P n F i).toNat : Nat) : Int) else -1
def fcs (G : Nat → Bool) (i : Nat) : Nat := cntN 128 (fun s => G s && decide ((popc s : Int) = (i : Int)))
def hT (G : Nat → Bool) (D k i : Nat) : Int := if (k - i) % 2 = 1 then -((fcs G i * wys (D - i) (k - i) : Nat) : Int) else ((fcs G i * wys (D - i) (k - i) : Nat) : Int)
def A_h (D n : Nat) (F : Nat → Nat) (k : Int) : Int := if (bT n && bK D k) = true then sumN (k.toNat + 1) (hT (isF n F) D k.toNat) else -2147483648
def A_sized (D n : Nat) (F O : Nat → Nat) (k : Int) : Int := if (bT n && bK D k) = true then (cntN n (fun j => decide ((popc (rst F O j) : Int) = k)) : Int) else -1
def bP (n : Nat) (F O : Nat → Nat) (i : Int) : Bool := bT n && decide (¬ nthN n (spB F O) i = -1)
def A_spanning (n : Nat) (F O : Nat → Nat) (i : Int) : Int := if bP n F O i = true then nthN n (spB F O) i else -1
def A_fresh (P n : Nat) (F O : Nat → Nat) (i : Int) : Int := if bI n i = true then (cntN (2 ^ P) (fun s => decide (fstN n (fun k => sbs s (F (O k))) (-2) = i)) : Int) else -1
def A_unparted (P n : Nat) (F O : Nat → Nat) : Int := if bT n = true then (cntN (2 ^ P) (fun s => decide (¬ lyg n F s = 0) && decide (¬ cntN n (fun k => sbs s (F (O k)) && sbs (rst F O k) s) = 1)) : Int) else -1
def rbT (D : Nat) (F O : Nat → Nat) (k j : Nat) : Nat := if popc (rst F O j) ≤ k then wys (D - popc (rst F O j)) (k - popc (rst F O j)) else 0
def A_rebuilt (D n : Nat) (F O : Nat → Nat) (k : Int) : Int := if (bT n && bK D k) = true then (smN n (rbT D F O k.toNat) : Int) else -1
def apW (D n : Nat) (F : Nat → Nat) (met : Nat) : Nat → Nat
  | 0 => met
  | k + 1 => apW D n F met k ||| (if met.testBit k = true then mskN n (nrB F D k) else 0)
def apT (D n : Nat) (F : Nat → Nat) (i : Nat) : Nat → Nat
  | 0 => 2 ^ i
  | t + 1 => apW D n F (apT D n F i t) n
theorem apW31 {D n : Nat} {F : Nat → Nat} {met : Nat} (hn : n ≤ 12) (h : met < 2147483648) : ∀ k, apW D n F met k < 2147483648 := by
  intro k
  induction k with
  | zero => exact h
  | succ k ih =>
    refine nb_or ih ?_
    split
    · exact mskN_31 (by omega)
    · decide
theorem apT31 {D n : Nat} {F : Nat → Nat} {i : Nat} (hn : n ≤ 12) (h : i < 31) : ∀ k, apT D n F i k < 2147483648 := by
  intro k
  induction k with
  | zero => exact nb_p2 h
  | succ k ih => exact apW31 hn ih n
def A_apart (D n : Nat) (F : Nat → Nat) (i j : Int) : Int := if (bI n i && bI n j) = true then fstN 12 (fun t => (apT D n F i.toNat t).testBit j.toNat) (-2) else -1
def b6 (i : Int) : Bool := decide (0 ≤ i ∧ i ≤ 6)
def A_about (P D n : Nat) (F : Nat → Nat) (i : Int) : Int := if (bT n && b6 i) = true then (if i = 0 then (P : Int) else if i = 1 then (D : Int) else if i = 2 then (n : Int) else if i = 3 then sumN 128 (fun s => if isF n F s = true then (if false = true ∧ popc s % 2 = 0 then -1 else 1) else 0) else if i = 4 then (ptN P n F false : Int) else if i = 5 then (ptN P n F true : Int) else (cntN (2 ^ P) (msg P (isF n F)) : Int)) else -1
theorem cnt_2P {P D n : Nat} {F O : Nat → Nat} {M : jM} (h : MR P D n F O M) (q : Nat → Bool) : cntN (2 ^ P) q < 2147483648 := by
  have := cntN_le (2 ^ P) q
  have := ap31 h
  omega
set_option maxRecDepth 100000 in
set_option maxHeartbeats 4000000 in
theorem ev_X7_thrown (M : jM) : Ev 0 mX7_thrown [(33, 0)] M (fun z M' => z = M 23 0 ∧ M' = M) := by
  refine Ev_of (by decide +kernel) (Nat.le_of_ble_eq_true rfl) (L := [(33, 0)]) rfl ?_
  refine J_aload_n dX7_thrown_0 rfl ?_
  refine J_getI dX7_thrown_1 flX7_55 rfl rfl ?_
  refine J_ireturn dX7_thrown_4 rfl ?_
  exact ⟨rfl, rfl⟩
set_option maxRecDepth 100000 in
set_option maxHeartbeats 4000000 in
theorem ev_X7_missing (P D n : Nat) (F O : Nat → Nat) (tl : Nat) (tb : Nat → Nat) (fa tr wh : Int) (M : jM) (hS : MS P D n F O tl tb fa tr wh M) (i : Int) (hi : -2147483648 ≤ i ∧ i < 2147483648) : Ev 4 mX7_missing [(33, 0), (0, i)] M (fun z M' => z = A_missing P n F i ∧ MS P D n F O tl tb fa (u1 (bM P n F i)) 0 M' ∧ CM M M') := by
  refine Ev_of (by decide +kernel) (Nat.le_of_ble_eq_true rfl) (L := [(33, 0), (0, i)]) rfl ?_
  have hR := hS.1
  have hn12 := MR.hn hR
  have hP7 := MR.hP hR
  have hD5 := MR.hD hR
  refine J_aload_n dX7_missing_0 rfl ?_
  refine J_iconst dX7_missing_1 ?_
  refine J_callVi (cl := mX7_isAsked) [(0, ((Bool.toNat (true) : Nat) : Int))] [] dX7_missing_2 mlX7_218 cvX7_isAsked rfl rfl rfl rfl rfl (by decide) (Nat.le_of_ble_eq_true rfl) rfl (ev_X7_isAsked P D n F O M hR (true)) (fun z2 Ma hq2 => ?_)
  obtain ⟨rfl, a1, a2⟩ := hq2
  refine J_ifb_ne (tgt := 10) dX7_missing_5 rfl (fun h5 => ?_) (fun h5 => ?_)
  ·
    refine J_aload_n dX7_missing_10 rfl ?_
    refine J_callVv (cl := mX7_laysMissing) [] [] dX7_missing_11 mlX7_222 cvX7_laysMissing rfl rfl rfl rfl rfl (by decide) (Nat.le_of_ble_eq_true rfl) rfl (ev_X7_laysMissing P D n F O Ma (mr_ch a1 (by decide) (by decide) (by decide) (mr_upF (by decide) (mr_upF (by decide) (mr_upF (by decide) hR)))) (isF n F) (a2 h5)) (fun Mb hq11 => ?_)
    obtain ⟨c1, c2, c3⟩ := hq11
    refine J_iload_n dX7_missing_14 rfl ?_
    refine J_iconst dX7_missing_15 ?_
    refine J_aload_n dX7_missing_16 rfl ?_
    refine J_getI dX7_missing_17 flX7_209 rfl rfl (J_top (v := (((cntN (2 ^ P) (msg P (isF n F))) : Nat) : Int)) c2 ?_)
    refine J_iconst dX7_missing_20 ?_
    refine J_isub dX7_missing_21 ?_
    refine J_callSiQ (cl := mX7_in) [(0, i), (0, 0), (0, ((((cntN (2 ^ P) (msg P (isF n F))) : Nat) : Int) - 1))] [] dX7_missing_22 mlX7_84 csX7_in rfl rfl (by decide) (Nat.le_of_ble_eq_true rfl) rfl (ev_X7_in i 0 ((((cntN (2 ^ P) (msg P (isF n F))) : Nat) : Int) - 1) (by omega) (by decide) (by omega) Mb) ?_
    refine J_ifb_eq (tgt := 37) dX7_missing_25 rfl (fun h25 => ?_) (fun h25 => ?_)
    ·
      refine J_aload_n dX7_missing_37 rfl ?_
      refine J_iconst dX7_missing_38 ?_
      refine J_callViQ (cl := mX7_no) [(0, 1)] [] dX7_missing_39 mlX7_168 cvX7_no rfl rfl rfl rfl rfl (by decide) (Nat.le_of_ble_eq_true rfl) rfl (ev_X7_no 1 Mb) ?_
      refine J_ireturn dX7_missing_42 rfl ?_
      exact ⟨by unfold A_missing; rw [if_neg (by rw [(by unfold bM; rw [decide_eq_false (show ¬ ¬ nmS P n F i = -1 by have hb := of_decide_eq_false h25; have : nmS P n F i = -1 := (by rcases Int.lt_or_le i 0 with e | e; exact nthN_neg e; exact nthN_none (by omega)); omega), Bool.and_false])]; decide)], by rw [u1_f (by unfold bM; rw [decide_eq_false (show ¬ ¬ nmS P n F i = -1 by have hb := of_decide_eq_false h25; have : nmS P n F i = -1 := (by rcases Int.lt_or_le i 0 with e | e; exact nthN_neg e; exact nthN_none (by omega)); omega), Bool.and_false])]; exact ms_tr (by decide) (ms_fz c1 (by decide) (by decide) (by decide) (by decide) (ms_ch a1 (by decide) (by decide) (by decide) (ms_rfE (by rw [h5]; rfl) (by decide) hS))), cm_up (cm_tr (cm_tr cm_ref (cm_ch a1 (by decide))) (cm_fz c1 (by decide)))⟩
    ·
      refine J_aload_n dX7_missing_28 rfl ?_
      refine J_getR dX7_missing_29 flX7_37 rfl rfl ?_
      refine J_iload_n dX7_missing_32 rfl ?_
      refine J_iald dX7_missing_33 rfl (by decide) (by have hb := of_decide_eq_true h25; have := cntN_le (2 ^ P) (msg P (isF n F)); have := Nat.pow_le_pow_right (n := 2) (by decide) hP7; omega) (J_top (v := (nmS P n F i)) (by have hb := of_decide_eq_true h25; obtain ⟨j, rfl⟩ := Int.eq_ofNat_of_zero_le hb.1; exact c3 j (by omega)) ?_)
      refine J_goto (tgt := 42) dX7_missing_34 rfl ?_
      refine J_ireturn dX7_missing_42 rfl ?_
      exact ⟨by unfold A_missing; rw [if_pos (by unfold bM bT; rw [Bool.and_true] at h5; rw [h5, decide_eq_true (show ¬ nmS P n F i = -1 by have hb := of_decide_eq_true h25; obtain ⟨j, rfl⟩ := Int.eq_ofNat_of_zero_le hb.1; have := nthN_ge (n := 2 ^ P) (p := (msg P (isF n F))) (i := j) (by omega); unfold nmS; omega)]; rfl)], by rw [u1_t (by unfold bM bT; rw [Bool.and_true] at h5; rw [h5, decide_eq_true (show ¬ nmS P n F i = -1 by have hb := of_decide_eq_true h25; obtain ⟨j, rfl⟩ := Int.eq_ofNat_of_zero_le hb.1; have := nthN_ge (n := 2 ^ P) (p := (msg P (isF n F))) (i := j) (by omega); unfold nmS; omega)]; rfl)]; exact ms_fz c1 (by decide) (by decide) (by decide) (by decide) (ms_ch a1 (by decide) (by decide) (by decide) (ms_rfE (by rw [h5]; rfl) (by decide) hS)), cm_tr (cm_tr cm_ref (cm_ch a1 (by decide))) (cm_fz c1 (by decide))⟩
  ·
    refine J_iconst dX7_missing_8 ?_
    refine J_ireturn dX7_missing_9 rfl ?_
    exact ⟨by unfold A_missing; rw [if_neg (by rw [(by unfold bM bT; rw [Bool.and_true] at h5; rw [h5]; rfl)]; decide)], by rw [u1_f (by unfold bM bT; rw [Bool.and_true] at h5; rw [h5]; rfl)]; exact ms_ch a1 (by decide) (by decide) (by decide) (ms_rfE (by rw [h5]; rfl) (by decide) hS), cm_tr cm_ref (cm_ch a1 (by decide))⟩
set_option maxRecDepth 100000 in
set_option maxHeartbeats 4000000 in
theorem ev_X7_dual (P D n : Nat) (F O : Nat → Nat) (tl : Nat) (tb : Nat → Nat) (fa tr wh : Int) (M : jM) (hS : MS P D n F O tl tb fa tr wh M) (i : Int) (hi : -2147483648 ≤ i ∧ i < 2147483648) : Ev 4 mX7_dual [(33, 0), (0, i)] M (fun z M' => z = A_dual P n F i ∧ MS P D n F O tl tb fa (u1 (bM P n F i)) 0 M' ∧ CM M M') := by
  refine Ev_of (by decide +kernel) (Nat.le_of_ble_eq_true rfl) (L := [(33, 0), (0, i)]) rfl ?_
  have hR := hS.1
  have hn12 := MR.hn hR
  have hP7 := MR.hP hR
  have hD5 := MR.hD hR
  refine J_aload_n dX7_dual_0 rfl ?_
  refine J_iconst dX7_dual_1 ?_
  refine J_callVi (cl := mX7_isAsked) [(0, ((Bool.toNat (true) : Nat) : Int))] [] dX7_dual_2 mlX7_218 cvX7_isAsked rfl rfl rfl rfl rfl (by decide) (Nat.le_of_ble_eq_true rfl) rfl (ev_X7_isAsked P D n F O M hR (true)) (fun z2 Ma hq2 => ?_)
  obtain ⟨rfl, a1, a2⟩ := hq2
  refine J_ifb_ne (tgt := 10) dX7_dual_5 rfl (fun h5 => ?_) (fun h5 => ?_)
  ·
    refine J_aload_n dX7_dual_10 rfl ?_
    refine J_callVv (cl := mX7_laysMissing) [] [] dX7_dual_11 mlX7_222 cvX7_laysMissing rfl rfl rfl rfl rfl (by decide) (Nat.le_of_ble_eq_true rfl) rfl (ev_X7_laysMissing P D n F O Ma (mr_ch a1 (by decide) (by decide) (by decide) (mr_upF (by decide) (mr_upF (by decide) (mr_upF (by decide) hR)))) (isF n F) (a2 h5)) (fun Mb hq11 => ?_)
    obtain ⟨c1, c2, c3⟩ := hq11
    refine J_iload_n dX7_dual_14 rfl ?_
    refine J_iconst dX7_dual_15 ?_
    refine J_aload_n dX7_dual_16 rfl ?_
    refine J_getI dX7_dual_17 flX7_209 rfl rfl (J_top (v := (((cntN (2 ^ P) (msg P (isF n F))) : Nat) : Int)) c2 ?_)
    refine J_iconst dX7_dual_20 ?_
    refine J_isub dX7_dual_21 ?_
    refine J_callSiQ (cl := mX7_in) [(0, i), (0, 0), (0, ((((cntN (2 ^ P) (msg P (isF n F))) : Nat) : Int) - 1))] [] dX7_dual_22 mlX7_84 csX7_in rfl rfl (by decide) (Nat.le_of_ble_eq_true rfl) rfl (ev_X7_in i 0 ((((cntN (2 ^ P) (msg P (isF n F))) : Nat) : Int) - 1) (by omega) (by decide) (by omega) Mb) ?_
    refine J_ifb_eq (tgt := 44) dX7_dual_25 rfl (fun h25 => ?_) (fun h25 => ?_)
    ·
      refine J_aload_n dX7_dual_44 rfl ?_
      refine J_iconst dX7_dual_45 ?_
      refine J_callViQ (cl := mX7_no) [(0, 1)] [] dX7_dual_46 mlX7_168 cvX7_no rfl rfl rfl rfl rfl (by decide) (Nat.le_of_ble_eq_true rfl) rfl (ev_X7_no 1 Mb) ?_
      refine J_ireturn dX7_dual_49 rfl ?_
      exact ⟨by unfold A_dual; rw [if_neg (by rw [(by unfold bM; rw [decide_eq_false (show ¬ ¬ nmS P n F i = -1 by have hb := of_decide_eq_false h25; have : nmS P n F i = -1 := (by rcases Int.lt_or_le i 0 with e | e; exact nthN_neg e; exact nthN_none (by omega)); omega), Bool.and_false])]; decide)], by rw [u1_f (by unfold bM; rw [decide_eq_false (show ¬ ¬ nmS P n F i = -1 by have hb := of_decide_eq_false h25; have : nmS P n F i = -1 := (by rcases Int.lt_or_le i 0 with e | e; exact nthN_neg e; exact nthN_none (by omega)); omega), Bool.and_false])]; exact ms_tr (by decide) (ms_fz c1 (by decide) (by decide) (by decide) (by decide) (ms_ch a1 (by decide) (by decide) (by decide) (ms_rfE (by rw [h5]; rfl) (by decide) hS))), cm_up (cm_tr (cm_tr cm_ref (cm_ch a1 (by decide))) (cm_fz c1 (by decide)))⟩
    ·
      refine J_aload_n dX7_dual_28 rfl ?_
      refine J_callViQ (cl := mX7_allPoints) [] [] dX7_dual_29 mlX7_212 cvX7_allPoints rfl rfl rfl rfl rfl (by decide) (Nat.le_of_ble_eq_true rfl) rfl (ev_X7_allPoints P D n F O Mb (mr_fz c1 (by decide) (by decide) (mr_ch a1 (by decide) (by decide) (by decide) (mr_upF (by decide) (mr_upF (by decide) (mr_upF (by decide) hR)))))) ?_
      refine J_aload_n dX7_dual_32 rfl ?_
      refine J_getR dX7_dual_33 flX7_37 rfl rfl ?_
      refine J_iload_n dX7_dual_36 rfl ?_
      refine J_iald dX7_dual_37 rfl (by decide) (by have hb := of_decide_eq_true h25; have := cntN_le (2 ^ P) (msg P (isF n F)); have := Nat.pow_le_pow_right (n := 2) (by decide) hP7; omega) (J_top (v := (((Int.toNat (nmS P n F i)) : Nat) : Int)) (by have hb := of_decide_eq_true h25; obtain ⟨j, rfl⟩ := Int.eq_ofNat_of_zero_le hb.1; have := nthN_ge (n := 2 ^ P) (p := (msg P (isF n F))) (i := j) (by omega); rw [show Mb 31 ((j : Nat) : Int) = nmS P n F ((j : Nat) : Int) from c3 j (by omega)]; unfold nmS; omega) ?_)
      refine J_iconst dX7_dual_38 ?_
      refine J_ixor dX7_dual_39 (J_top (v := (-(((Int.toNat (nmS P n F i)) : Nat) : Int) - 1)) (j_notN rfl (by have hb := of_decide_eq_true h25; obtain ⟨j, rfl⟩ := Int.eq_ofNat_of_zero_le hb.1; have := nthN_ge (n := 2 ^ P) (p := (msg P (isF n F))) (i := j) (by omega); have := ap31 hR; unfold nmS; omega)) ?_)
      refine J_iand dX7_dual_40 (J_top (v := (((ndf (2 ^ P - 1) (Int.toNat (nmS P n F i))) : Nat) : Int)) (j_ndfN rfl rfl (ap31 hR)) ?_)
      refine J_goto (tgt := 49) dX7_dual_41 rfl ?_
      refine J_ireturn dX7_dual_49 rfl ?_
      exact ⟨by unfold A_dual; rw [if_pos (by unfold bM bT; rw [Bool.and_true] at h5; rw [h5, decide_eq_true (show ¬ nmS P n F i = -1 by have hb := of_decide_eq_true h25; obtain ⟨j, rfl⟩ := Int.eq_ofNat_of_zero_le hb.1; have := nthN_ge (n := 2 ^ P) (p := (msg P (isF n F))) (i := j) (by omega); unfold nmS; omega)]; rfl)], by rw [u1_t (by unfold bM bT; rw [Bool.and_true] at h5; rw [h5, decide_eq_true (show ¬ nmS P n F i = -1 by have hb := of_decide_eq_true h25; obtain ⟨j, rfl⟩ := Int.eq_ofNat_of_zero_le hb.1; have := nthN_ge (n := 2 ^ P) (p := (msg P (isF n F))) (i := j) (by omega); unfold nmS; omega)]; rfl)]; exact ms_fz c1 (by decide) (by decide) (by decide) (by decide) (ms_ch a1 (by decide) (by decide) (by decide) (ms_rfE (by rw [h5]; rfl) (by decide) hS)), cm_tr (cm_tr cm_ref (cm_ch a1 (by decide))) (cm_fz c1 (by decide))⟩
  ·
    refine J_iconst dX7_dual_8 ?_
    refine J_ireturn dX7_dual_9 rfl ?_
    exact ⟨by unfold A_dual; rw [if_neg (by rw [(by unfold bM bT; rw [Bool.and_true] at h5; rw [h5]; rfl)]; decide)], by rw [u1_f (by unfold bM bT; rw [Bool.and_true] at h5; rw [h5]; rfl)]; exact ms_ch a1 (by decide) (by decide) (by decide) (ms_rfE (by rw [h5]; rfl) (by decide) hS), cm_tr cm_ref (cm_ch a1 (by decide))⟩
set_option maxRecDepth 100000 in
set_option maxHeartbeats 4000000 in
theorem ev_X7_about (P D n : Nat) (F O : Nat → Nat) (tl : Nat) (tb : Nat → Nat) (fa tr wh : Int) (M : jM) (hS : MS P D n F O tl tb fa tr wh M) (i : Int) (hi : -2147483648 ≤ i ∧ i < 2147483648) : Ev 4 mX7_about [(33, 0), (0, i)] M (fun z M' => z = A_about P D n F i ∧ MS P D n F O tl tb fa (u1 (bT n && b6 i)) 0 M' ∧ CM M M') := by
  refine Ev_of (by decide +kernel) (Nat.le_of_ble_eq_true rfl) (L := [(33, 0), (0, i)]) rfl ?_
  have hR := hS.1
  have hn12 := MR.hn hR
  have hP7 := MR.hP hR
  have hD5 := MR.hD hR
  refine J_aload_n dX7_about_0 rfl ?_
  refine J_iload_n dX7_about_1 rfl ?_
  refine J_iconst dX7_about_2 ?_
  refine J_bipush dX7_about_3 (by decide) ?_
  refine J_callSiQ (cl := mX7_in) [(0, i), (0, 0), (0, 6)] [(33, 0)] dX7_about_5 mlX7_84 csX7_in rfl rfl (by decide) (Nat.le_of_ble_eq_true rfl) rfl (ev_X7_in i 0 6 (by omega) (by decide) (by decide) M) ?_
  refine J_callVi (cl := mX7_isAsked) [(0, ((Bool.toNat (decide (0 ≤ i ∧ i ≤ 6)) : Nat) : Int))] [] dX7_about_8 mlX7_218 cvX7_isAsked rfl rfl rfl rfl rfl (by decide) (Nat.le_of_ble_eq_true rfl) rfl (ev_X7_isAsked P D n F O M hR (decide (0 ≤ i ∧ i ≤ 6))) (fun z8 Ma hq8 => ?_)
  obtain ⟨rfl, a1, a2⟩ := hq8
  refine J_ifb_ne (tgt := 16) dX7_about_11 rfl (fun h11 => ?_) (fun h11 => ?_)
  ·
    refine J_aload_n dX7_about_16 rfl ?_
    refine J_callVv (cl := mX7_laysMissing) [] [] dX7_about_17 mlX7_222 cvX7_laysMissing rfl rfl rfl rfl rfl (by decide) (Nat.le_of_ble_eq_true rfl) rfl (ev_X7_laysMissing P D n F O Ma (mr_ch a1 (by decide) (by decide) (by decide) (mr_upF (by decide) (mr_upF (by decide) (mr_upF (by decide) hR)))) (isF n F) (a2 h11)) (fun Mb hq17 => ?_)
    obtain ⟨c1, c2, c3⟩ := hq17
    refine J_iload_n dX7_about_20 rfl ?_
    rcases (by omega : i = 0 ∨ i = 1 ∨ i = 2 ∨ i = 3 ∨ i = 4 ∨ i = 5 ∨ (i < 0 ∨ 5 < i)) with h21 | h21 | h21 | h21 | h21 | h21 | h21
    · refine J_tableIn (tgt := 60) (off := 39) dX7_about_21 (by omega) (by omega) (by omega) (by rw [h21]; rfl) rfl ?_
      refine J_aload_n dX7_about_60 rfl ?_
      refine J_getI dX7_about_61 flX7_171 rfl rfl (J_top (v := ((P : Nat) : Int)) (MR.gP (mr_fz c1 (by decide) (by decide) (mr_ch a1 (by decide) (by decide) (by decide) (mr_upF (by decide) (mr_upF (by decide) (mr_upF (by decide) hR)))))) ?_)
      refine J_ireturn dX7_about_64 rfl ?_
      exact ⟨by unfold A_about bT b6; rw [if_pos h11, if_pos h21], by unfold u1 bT b6; exact ms_fz c1 (by decide) (by decide) (by decide) (by decide) (ms_ch a1 (by decide) (by decide) (by decide) (ms_ref if01 hS)), cm_tr (cm_tr cm_ref (cm_ch a1 (by decide))) (cm_fz c1 (by decide))⟩
    · refine J_tableIn (tgt := 65) (off := 44) dX7_about_21 (by omega) (by omega) (by omega) (by rw [h21]; rfl) rfl ?_
      refine J_aload_n dX7_about_65 rfl ?_
      refine J_getI dX7_about_66 flX7_173 rfl rfl (J_top (v := ((D : Nat) : Int)) (MR.gD (mr_fz c1 (by decide) (by decide) (mr_ch a1 (by decide) (by decide) (by decide) (mr_upF (by decide) (mr_upF (by decide) (mr_upF (by decide) hR)))))) ?_)
      refine J_ireturn dX7_about_69 rfl ?_
      exact ⟨by unfold A_about bT b6; rw [if_pos h11, if_neg (by omega), if_pos h21], by unfold u1 bT b6; exact ms_fz c1 (by decide) (by decide) (by decide) (by decide) (ms_ch a1 (by decide) (by decide) (by decide) (ms_ref if01 hS)), cm_tr (cm_tr cm_ref (cm_ch a1 (by decide))) (cm_fz c1 (by decide))⟩
    · refine J_tableIn (tgt := 70) (off := 49) dX7_about_21 (by omega) (by omega) (by omega) (by rw [h21]; rfl) rfl ?_
      refine J_aload_n dX7_about_70 rfl ?_
      refine J_getI dX7_about_71 flX7_176 rfl rfl (J_top (v := ((n : Nat) : Int)) (MR.gn (mr_fz c1 (by decide) (by decide) (mr_ch a1 (by decide) (by decide) (by decide) (mr_upF (by decide) (mr_upF (by decide) (mr_upF (by decide) hR)))))) ?_)
      refine J_ireturn dX7_about_74 rfl ?_
      exact ⟨by unfold A_about bT b6; rw [if_pos h11, if_neg (by omega), if_neg (by omega), if_pos h21], by unfold u1 bT b6; exact ms_fz c1 (by decide) (by decide) (by decide) (by decide) (ms_ch a1 (by decide) (by decide) (by decide) (ms_ref if01 hS)), cm_tr (cm_tr cm_ref (cm_ch a1 (by decide))) (cm_fz c1 (by decide))⟩
    · refine J_tableIn (tgt := 75) (off := 54) dX7_about_21 (by omega) (by omega) (by omega) (by rw [h21]; rfl) rfl ?_
      refine J_aload_n dX7_about_75 rfl ?_
      refine J_iconst dX7_about_76 ?_
      refine J_callViQ (cl := mX7_sumOfFaces) [(0, ((Bool.toNat (false) : Nat) : Int))] [] dX7_about_77 mlX7_225 cvX7_sumOfFaces rfl rfl rfl rfl rfl (by decide) (Nat.le_of_ble_eq_true rfl) rfl (ev_X7_sumOfFaces (isF n F) (false) Mb (ia_fz c1 (by decide) (a2 h11))) ?_
      refine J_ireturn dX7_about_80 rfl ?_
      exact ⟨by unfold A_about bT b6; rw [if_pos h11, if_neg (by omega), if_neg (by omega), if_neg (by omega), if_pos h21], by unfold u1 bT b6; exact ms_fz c1 (by decide) (by decide) (by decide) (by decide) (ms_ch a1 (by decide) (by decide) (by decide) (ms_ref if01 hS)), cm_tr (cm_tr cm_ref (cm_ch a1 (by decide))) (cm_fz c1 (by decide))⟩
    · refine J_tableIn (tgt := 81) (off := 60) dX7_about_21 (by omega) (by omega) (by omega) (by rw [h21]; rfl) rfl ?_
      refine J_aload_n dX7_about_81 rfl ?_
      refine J_iconst dX7_about_82 ?_
      refine J_callViQ (cl := mX7_pointsIn) [(0, ((Bool.toNat (false) : Nat) : Int))] [] dX7_about_83 mlX7_228 cvX7_pointsIn rfl rfl rfl rfl rfl (by decide) (Nat.le_of_ble_eq_true rfl) rfl (ev_X7_pointsIn P D n F O Mb (mr_fz c1 (by decide) (by decide) (mr_ch a1 (by decide) (by decide) (by decide) (mr_upF (by decide) (mr_upF (by decide) (mr_upF (by decide) hR))))) (false)) ?_
      refine J_ireturn dX7_about_86 rfl ?_
      exact ⟨by unfold A_about bT b6; rw [if_pos h11, if_neg (by omega), if_neg (by omega), if_neg (by omega), if_neg (by omega), if_pos h21], by unfold u1 bT b6; exact ms_fz c1 (by decide) (by decide) (by decide) (by decide) (ms_ch a1 (by decide) (by decide) (by decide) (ms_ref if01 hS)), cm_tr (cm_tr cm_ref (cm_ch a1 (by decide))) (cm_fz c1 (by decide))⟩
    · refine J_tableIn (tgt := 87) (off := 66) dX7_about_21 (by omega) (by omega) (by omega) (by rw [h21]; rfl) rfl ?_
      refine J_aload_n dX7_about_87 rfl ?_
      refine J_iconst dX7_about_88 ?_
      refine J_callViQ (cl := mX7_pointsIn) [(0, ((Bool.toNat (true) : Nat) : Int))] [] dX7_about_89 mlX7_228 cvX7_pointsIn rfl rfl rfl rfl rfl (by decide) (Nat.le_of_ble_eq_true rfl) rfl (ev_X7_pointsIn P D n F O Mb (mr_fz c1 (by decide) (by decide) (mr_ch a1 (by decide) (by decide) (by decide) (mr_upF (by decide) (mr_upF (by decide) (mr_upF (by decide) hR))))) (true)) ?_
      refine J_ireturn dX7_about_92 rfl ?_
      exact ⟨by unfold A_about bT b6; rw [if_pos h11, if_neg (by omega), if_neg (by omega), if_neg (by omega), if_neg (by omega), if_neg (by omega), if_pos h21], by unfold u1 bT b6; exact ms_fz c1 (by decide) (by decide) (by decide) (by decide) (ms_ch a1 (by decide) (by decide) (by decide) (ms_ref if01 hS)), cm_tr (cm_tr cm_ref (cm_ch a1 (by decide))) (cm_fz c1 (by decide))⟩
    · refine J_tableOut (tgt := 93) dX7_about_21 (by omega) h21 rfl ?_
      refine J_aload_n dX7_about_93 rfl ?_
      refine J_getI dX7_about_94 flX7_209 rfl rfl (J_top (v := (((cntN (2 ^ P) (msg P (isF n F))) : Nat) : Int)) c2 ?_)
      refine J_ireturn dX7_about_97 rfl ?_
      exact ⟨by unfold A_about bT b6; rw [if_pos h11, if_neg (by omega), if_neg (by omega), if_neg (by omega), if_neg (by omega), if_neg (by omega), if_neg (by rcases h21 with e | e; rw [Bool.and_eq_true] at h11; have := of_decide_eq_true h11.2; omega; omega)], by unfold u1 bT b6; exact ms_fz c1 (by decide) (by decide) (by decide) (by decide) (ms_ch a1 (by decide) (by decide) (by decide) (ms_ref if01 hS)), cm_tr (cm_tr cm_ref (cm_ch a1 (by decide))) (cm_fz c1 (by decide))⟩
  ·
    refine J_iconst dX7_about_14 ?_
    refine J_ireturn dX7_about_15 rfl ?_
    exact ⟨by unfold A_about bT b6; rw [h11]; rfl, by unfold u1 bT b6; exact ms_ch a1 (by decide) (by decide) (by decide) (ms_ref if01 hS), cm_tr cm_ref (cm_ch a1 (by decide))⟩
