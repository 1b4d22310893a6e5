theorem ms_rfE {P D n : Nat} {F O : Nat → Nat} {tl : Nat} {tb : Nat → Nat} {fa tr wh : Int} {M : jM} {w w' : Int} (e : w = w') (hw : w' ≠ 4) (h : MS P D n F O tl tb fa tr wh M) : MS P D n F O tl tb fa w' 0 (j_up (j_up (j_up M 23 0 0) 23 3 (-1)) 23 1 w) := by subst e; exact ms_ref hw h
theorem u1_t {b : Bool} (h : b = true) : u1 b = 0 := by rw [h]; rfl
theorem u1_f {b : Bool} (h : b = false) : u1 b = 1 := by rw [h]; rfl
theorem u2_t {b c : Bool} (h : (b && c) = true) : u2 b c = 0 := by rw [Bool.and_eq_true] at h; rw [h.1, h.2]; rfl
def nmS (P n : Nat) (F : Nat → Nat) (i : Int) : Int := nthN (2 ^ P) (msg P (isF n F)) i
def bM (P n : Nat) (F : Nat → Nat) (i : Int) : Bool := bT n && decide (¬ nmS P n F i = -1)
def A_missing (P n : Nat) (F : Nat → Nat) (i : Int) : Int := if bM P n F i = true then nmS P n F i else -1
def A_dual (P n : Nat) (F : Nat → Nat) (i : Int) : Int := if bM P n F i = true then ((ndf (2 ^ P - 1) (nmS P n F i).toNat : Nat) : Int) else -1
def fcs (G : Nat → Bool) (i : Nat) : Nat := cntN 128 (fun s => G s && decide ((popc s : Int) = (i : Int)))
def hT (G : Nat → Bool) (D k i : Nat) : Int := if (k - i) % 2 = 1 then -((fcs G i * wys (D - i) (k - i) : Nat) : Int) else ((fcs G i * wys (D - i) (k - i) : Nat) : Int)
def A_h (D n : Nat) (F : Nat → Nat) (k : Int) : Int := if (bT n && bK D k) = true then sumN (k.toNat + 1) (hT (isF n F) D k.toNat) else -2147483648
def A_sized (D n : Nat) (F O : Nat → Nat) (k : Int) : Int := if (bT n && bK D k) = true then (cntN n (fun j => decide ((popc (rst F O j) : Int) = k)) : Int) else -1
def bP (n : Nat) (F O : Nat → Nat) (i : Int) : Bool := bT n && decide (¬ nthN n (spB F O) i = -1)
def A_spanning (n : Nat) (F O : Nat → Nat) (i : Int) : Int := if bP n F O i = true then nthN n (spB F O) i else -1
def A_fresh (P n : Nat) (F O : Nat → Nat) (i : Int) : Int := if bI n i = true then (cntN (2 ^ P) (fun s => decide (fstN n (fun k => sbs s (F (O k))) (-2) = i)) : Int) else -1
def A_unparted (P n : Nat) (F O : Nat → Nat) : Int := if bT n = true then (cntN (2 ^ P) (fun s => decide (¬ lyg n F s = 0) && decide (¬ cntN n (fun k => sbs s (F (O k)) && sbs (rst F O k) s) = 1)) : Int) else -1
def rbT (D : Nat) (F O : Nat → Nat) (k j : Nat) : Nat := if popc (rst F O j) ≤ k then wys (D - popc (rst F O j)) (k - popc (rst F O j)) else 0
def A_rebuilt (D n : Nat) (F O : Nat → Nat) (k : Int) : Int := if (bT n && bK D k) = true then (smN n (rbT D F O k.toNat) : Int) else -1
def apW (D n : Nat) (F : Nat → Nat) (met : Nat) : Nat → Nat
  | 0 => met
  | k + 1 => apW D n F met k ||| (if met.testBit k = true then mskN n (nrB F D k) else 0)
def apT (D n : Nat) (F : Nat → Nat) (i : Nat) : Nat → Nat
  | 0 => 2 ^ i
  | t + 1 => apW D n F (apT D n F i t) n
theorem apW31 {D n : Nat} {F : Nat → Nat} {met : Nat} (hn : n ≤ 12) (h : met < 2147483648) : ∀ k, apW D n F met k < 2147483648 := by
  intro k
  induction k with
  | zero => exact h
  | succ k ih =>
    refine nb_or ih ?_
    split
    · exact mskN_31 (by omega)
    · decide
theorem apT31 {D n : Nat} {F : Nat → Nat} {i : Nat} (hn : n ≤ 12) (h : i < 31) : ∀ k, apT D n F i k < 2147483648 := by
  intro k
  induction k with
  | zero => exact nb_p2 h
  | succ k ih => exact apW31 hn ih n
def A_apart (D n : Nat) (F : Nat → Nat) (i j : Int) : Int := if (bI n i && bI n j) = true then fstN 12 (fun t => (apT D n F i.toNat t).testBit j.toNat) (-2) else -1
def b6 (i : Int) : Bool := decide (0 ≤ i ∧ i ≤ 6)
def A_about (P D n : Nat) (F : Nat → Nat) (i : Int) : Int := if (bT n && b6 i) = true then (if i = 0 then (P : Int) else if i = 1 then (D : Int) else if i = 2 then (n : Int) else if i = 3 then sumN 128 (fun s => if isF n F s = true then (if false = true ∧ popc s % 2 = 0 then -1 else 1) else 0) else if i = 4 then (ptN P n F false : Int) else if i = 5 then (ptN P n F true : Int) else (cntN (2 ^ P) (msg P (isF n F)) : Int)) else -1
theorem cnt_2P {P D n : Nat} {F O : Nat → Nat} {M : jM} (h : MR P D n F O M) (q : Nat → Bool) : cntN (2 ^ P) q < 2147483648 := by
  have := cntN_le (2 ^ P) q
  have := Nat.pow_le_pow_right (n := 2) (by decide) h.hP
  omega
theorem rbT_le {D k : Nat} {F O : Nat → Nat} (hD : D ≤ 5) (hk : k ≤ D) (j : Nat) : rbT D F O k j ≤ if (fun (_ : Nat) => true) j = true then 10 else 0 := by
  rw [if_pos rfl]
  unfold rbT
  split
  · exact wys_b _ (by omega) _ (by omega)
  · omega
set_option maxRecDepth 100000 in
set_option maxHeartbeats 4000000 in
theorem ev_X7_thrown (M : jM) : Ev 0 mX7_thrown [(33, 0)] M (fun z M' => z = M 23 0 ∧ M' = M) := by
  refine Ev_of (by decide +kernel) (Nat.le_of_ble_eq_true rfl) (L := [(33, 0)]) rfl ?_
  refine J_aload_n dX7_thrown_0 rfl ?_
  refine J_getI dX7_thrown_1 flX7_55 rfl rfl ?_
  refine J_ireturn dX7_thrown_4 rfl ?_
  exact ⟨rfl, rfl⟩
set_option maxRecDepth 100000 in
set_option maxHeartbeats 4000000 in
theorem ev_X7_missing (P D n : Nat) (F O : Nat → Nat) (tl : Nat) (tb : Nat → Nat) (fa tr wh : Int) (M : jM) (hS : MS P D n F O tl tb fa tr wh M) (i : Int) (hi : -2147483648 ≤ i ∧ i < 2147483648) : Ev 4 mX7_missing [(33, 0), (0, i)] M (fun z M' => z = A_missing P n F i ∧ MS P D n F O tl tb fa (u1 (bM P n F i)) 0 M' ∧ CM M M') := by
  refine Ev_of (by decide +kernel) (Nat.le_of_ble_eq_true rfl) (L := [(33, 0), (0, i)]) rfl ?_
  have hR := hS.1
  have hn12 := MR.hn hR
  have hP7 := MR.hP hR
  have hD5 := MR.hD hR
  refine J_aload_n dX7_missing_0 rfl ?_
  refine J_iconst dX7_missing_1 ?_
  refine J_callVi (cl := mX7_isAsked) [(0, ((Bool.toNat (true) : Nat) : Int))] [] dX7_missing_2 mlX7_218 cvX7_isAsked rfl rfl rfl rfl rfl (by decide) (Nat.le_of_ble_eq_true rfl) rfl (ev_X7_isAsked P D n F O M hR (true)) (fun z2 Ma hq2 => ?_)
  obtain ⟨rfl, a1, a2⟩ := hq2
  refine J_ifb_ne (tgt := 10) dX7_missing_5 rfl (fun h5 => ?_) (fun h5 => ?_)
  ·
    refine J_aload_n dX7_missing_10 rfl ?_
    refine J_callVv (cl := mX7_laysMissing) [] [] dX7_missing_11 mlX7_222 cvX7_laysMissing rfl rfl rfl rfl rfl (by decide) (Nat.le_of_ble_eq_true rfl) rfl (ev_X7_laysMissing P D n F O Ma (mr_ch a1 (by decide) (by decide) (by decide) (mr_upF (by decide) (mr_upF (by decide) (mr_upF (by decide) hR)))) (isF n F) (a2 h5)) (fun Mb hq11 => ?_)
    obtain ⟨c1, c2, c3⟩ := hq11
    refine J_iload_n dX7_missing_14 rfl ?_
    refine J_iconst dX7_missing_15 ?_
    refine J_aload_n dX7_missing_16 rfl ?_
    refine J_getI dX7_missing_17 flX7_209 rfl rfl (J_top (v := (((cntN (2 ^ P) (msg P (isF n F))) : Nat) : Int)) c2 ?_)
    refine J_iconst dX7_missing_20 ?_
    refine J_isub dX7_missing_21 ?_
    refine J_callSiQ (cl := mX7_in) [(0, i), (0, 0), (0, ((((cntN (2 ^ P) (msg P (isF n F))) : Nat) : Int) - 1))] [] dX7_missing_22 mlX7_84 csX7_in rfl rfl (by decide) (Nat.le_of_ble_eq_true rfl) rfl (ev_X7_in i 0 ((((cntN (2 ^ P) (msg P (isF n F))) : Nat) : Int) - 1) (by omega) (by decide) (by have := cnt_2P hR (msg P (isF n F)); omega) Mb) ?_
    refine J_ifb_eq (tgt := 37) dX7_missing_25 rfl (fun h25 => ?_) (fun h25 => ?_)
    ·
      refine J_aload_n dX7_missing_37 rfl ?_
      refine J_iconst dX7_missing_38 ?_
      refine J_callViQ (cl := mX7_no) [(0, 1)] [] dX7_missing_39 mlX7_168 cvX7_no rfl rfl rfl rfl rfl (by decide) (Nat.le_of_ble_eq_true rfl) rfl (ev_X7_no 1 Mb) ?_
      refine J_ireturn dX7_missing_42 rfl ?_
      have hm : bM P n F i = false := by
        have hb := of_decide_eq_false h25
        have e0 : nmS P n F i = -1 := by
          unfold nmS
          rcases Int.lt_or_le i 0 with e | e
          · exact nthN_neg e
          · exact nthN_none (by omega)
        unfold bM
        rw [e0]
        simp
      exact ⟨by unfold A_missing; rw [hm]; rfl, by rw [u1_f hm]; exact ms_tr (by decide) (ms_fz c1 (by decide) (by decide) (by decide) (by decide) (ms_ch a1 (by decide) (by decide) (by decide) (ms_ref if01 hS))), cm_up (cm_tr (cm_tr cm_ref (cm_ch a1 (by decide))) (cm_fz c1 (by decide)))⟩
    ·
      refine J_aload_n dX7_missing_28 rfl ?_
      refine J_getR dX7_missing_29 flX7_37 rfl rfl ?_
      refine J_iload_n dX7_missing_32 rfl ?_
      refine J_iald dX7_missing_33 rfl (by decide) (by have hb := of_decide_eq_true h25; have := cntN_le (2 ^ P) (msg P (isF n F)); have := Nat.pow_le_pow_right (n := 2) (by decide) hP7; omega) (J_top (v := (nmS P n F i)) (by have hb := of_decide_eq_true h25; obtain ⟨j, rfl⟩ := Int.eq_ofNat_of_zero_le hb.1; exact c3 j (by omega)) ?_)
      refine J_goto (tgt := 42) dX7_missing_34 rfl ?_
      refine J_ireturn dX7_missing_42 rfl ?_
      have hm : bM P n F i = true := by
        have hb := of_decide_eq_true h25
        obtain ⟨j, rfl⟩ := Int.eq_ofNat_of_zero_le hb.1
        have := nthN_ge (n := 2 ^ P) (p := (msg P (isF n F))) (i := j) (by omega)
        unfold bM bT nmS
        rw [Bool.and_true] at h5
        rw [h5, decide_eq_true (by omega)]
        rfl
      exact ⟨by unfold A_missing; rw [if_pos hm], by rw [u1_t hm]; exact ms_fz c1 (by decide) (by decide) (by decide) (by decide) (ms_ch a1 (by decide) (by decide) (by decide) (ms_rfE (by rw [h5]; rfl) (by decide) hS)), cm_tr (cm_tr cm_ref (cm_ch a1 (by decide))) (cm_fz c1 (by decide))⟩
  ·
    refine J_iconst dX7_missing_8 ?_
    refine J_ireturn dX7_missing_9 rfl ?_
    have hm : bM P n F i = false := by
      rw [Bool.and_true] at h5
      unfold bM bT
      rw [h5]
      rfl
    exact ⟨by unfold A_missing; rw [hm]; rfl, by rw [u1_f hm]; exact ms_ch a1 (by decide) (by decide) (by decide) (ms_rfE (by rw [h5]; rfl) (by decide) hS), cm_tr cm_ref (cm_ch a1 (by decide))⟩
set_option maxRecDepth 100000 in
set_option maxHeartbeats 4000000 in
theorem ev_X7_dual (P D n : Nat) (F O : Nat → Nat) (tl : Nat) (tb : Nat → Nat) (fa tr wh : Int) (M : jM) (hS : MS P D n F O tl tb fa tr wh M) (i : Int) (hi : -2147483648 ≤ i ∧ i < 2147483648) : Ev 4 mX7_dual [(33, 0), (0, i)] M (fun z M' => z = A_dual P n F i ∧ MS P D n F O tl tb fa (u1 (bM P n F i)) 0 M' ∧ CM M M') := by
  refine Ev_of (by decide +kernel) (Nat.le_of_ble_eq_true rfl) (L := [(33, 0), (0, i)]) rfl ?_
  have hR := hS.1
  have hn12 := MR.hn hR
  have hP7 := MR.hP hR
  have hD5 := MR.hD hR
  refine J_aload_n dX7_dual_0 rfl ?_
  refine J_iconst dX7_dual_1 ?_
  refine J_callVi (cl := mX7_isAsked) [(0, ((Bool.toNat (true) : Nat) : Int))] [] dX7_dual_2 mlX7_218 cvX7_isAsked rfl rfl rfl rfl rfl (by decide) (Nat.le_of_ble_eq_true rfl) rfl (ev_X7_isAsked P D n F O M hR (true)) (fun z2 Ma hq2 => ?_)
  obtain ⟨rfl, a1, a2⟩ := hq2
  refine J_ifb_ne (tgt := 10) dX7_dual_5 rfl (fun h5 => ?_) (fun h5 => ?_)
  ·
    refine J_aload_n dX7_dual_10 rfl ?_
    refine J_callVv (cl := mX7_laysMissing) [] [] dX7_dual_11 mlX7_222 cvX7_laysMissing rfl rfl rfl rfl rfl (by decide) (Nat.le_of_ble_eq_true rfl) rfl (ev_X7_laysMissing P D n F O Ma (mr_ch a1 (by decide) (by decide) (by decide) (mr_upF (by decide) (mr_upF (by decide) (mr_upF (by decide) hR)))) (isF n F) (a2 h5)) (fun Mb hq11 => ?_)
    obtain ⟨c1, c2, c3⟩ := hq11
    refine J_iload_n dX7_dual_14 rfl ?_
    refine J_iconst dX7_dual_15 ?_
    refine J_aload_n dX7_dual_16 rfl ?_
    refine J_getI dX7_dual_17 flX7_209 rfl rfl (J_top (v := (((cntN (2 ^ P) (msg P (isF n F))) : Nat) : Int)) c2 ?_)
    refine J_iconst dX7_dual_20 ?_
    refine J_isub dX7_dual_21 ?_
    refine J_callSiQ (cl := mX7_in) [(0, i), (0, 0), (0, ((((cntN (2 ^ P) (msg P (isF n F))) : Nat) : Int) - 1))] [] dX7_dual_22 mlX7_84 csX7_in rfl rfl (by decide) (Nat.le_of_ble_eq_true rfl) rfl (ev_X7_in i 0 ((((cntN (2 ^ P) (msg P (isF n F))) : Nat) : Int) - 1) (by omega) (by decide) (by have := cnt_2P hR (msg P (isF n F)); omega) Mb) ?_
    refine J_ifb_eq (tgt := 44) dX7_dual_25 rfl (fun h25 => ?_) (fun h25 => ?_)
    ·
      refine J_aload_n dX7_dual_44 rfl ?_
      refine J_iconst dX7_dual_45 ?_
      refine J_callViQ (cl := mX7_no) [(0, 1)] [] dX7_dual_46 mlX7_168 cvX7_no rfl rfl rfl rfl rfl (by decide) (Nat.le_of_ble_eq_true rfl) rfl (ev_X7_no 1 Mb) ?_
      refine J_ireturn dX7_dual_49 rfl ?_
      have hm : bM P n F i = false := by
        have hb := of_decide_eq_false h25
        have e0 : nmS P n F i = -1 := by
          unfold nmS
          rcases Int.lt_or_le i 0 with e | e
          · exact nthN_neg e
          · exact nthN_none (by omega)
        unfold bM
        rw [e0]
        simp
      exact ⟨by unfold A_dual; rw [hm]; rfl, by rw [u1_f hm]; exact ms_tr (by decide) (ms_fz c1 (by decide) (by decide) (by decide) (by decide) (ms_ch a1 (by decide) (by decide) (by decide) (ms_ref if01 hS))), cm_up (cm_tr (cm_tr cm_ref (cm_ch a1 (by decide))) (cm_fz c1 (by decide)))⟩
    ·
      refine J_aload_n dX7_dual_28 rfl ?_
      refine J_callViQ (cl := mX7_allPoints) [] [] dX7_dual_29 mlX7_212 cvX7_allPoints rfl rfl rfl rfl rfl (by decide) (Nat.le_of_ble_eq_true rfl) rfl (ev_X7_allPoints P D n F O Mb (mr_fz c1 (by decide) (by decide) (mr_ch a1 (by decide) (by decide) (by decide) (mr_upF (by decide) (mr_upF (by decide) (mr_upF (by decide) hR)))))) ?_
      refine J_aload_n dX7_dual_32 rfl ?_
      refine J_getR dX7_dual_33 flX7_37 rfl rfl ?_
      refine J_iload_n dX7_dual_36 rfl ?_
      refine J_iald dX7_dual_37 rfl (by decide) (by have hb := of_decide_eq_true h25; have := cntN_le (2 ^ P) (msg P (isF n F)); have := Nat.pow_le_pow_right (n := 2) (by decide) hP7; omega) (J_top (v := (((Int.toNat (nmS P n F i)) : Nat) : Int)) (by have hb := of_decide_eq_true h25; obtain ⟨j, rfl⟩ := Int.eq_ofNat_of_zero_le hb.1; have := nthN_ge (n := 2 ^ P) (p := (msg P (isF n F))) (i := j) (by omega); rw [show Mb 31 ((j : Nat) : Int) = nmS P n F ((j : Nat) : Int) from c3 j (by omega)]; unfold nmS; omega) ?_)
      refine J_iconst dX7_dual_38 ?_
      refine J_ixor dX7_dual_39 (J_top (v := (-(((Int.toNat (nmS P n F i)) : Nat) : Int) - 1)) (j_notN rfl (by have hb := of_decide_eq_true h25; obtain ⟨j, rfl⟩ := Int.eq_ofNat_of_zero_le hb.1; have := nthN_ge (n := 2 ^ P) (p := (msg P (isF n F))) (i := j) (by omega); have := ap31 hR; unfold nmS; omega)) ?_)
      refine J_iand dX7_dual_40 (J_top (v := (((ndf (2 ^ P - 1) (Int.toNat (nmS P n F i))) : Nat) : Int)) (j_ndfN rfl rfl (ap31 hR)) ?_)
      refine J_goto (tgt := 49) dX7_dual_41 rfl ?_
      refine J_ireturn dX7_dual_49 rfl ?_
      have hm : bM P n F i = true := by
        have hb := of_decide_eq_true h25
        obtain ⟨j, rfl⟩ := Int.eq_ofNat_of_zero_le hb.1
        have := nthN_ge (n := 2 ^ P) (p := (msg P (isF n F))) (i := j) (by omega)
        unfold bM bT nmS
        rw [Bool.and_true] at h5
        rw [h5, decide_eq_true (by omega)]
        rfl
      exact ⟨by unfold A_dual; rw [if_pos hm], by rw [u1_t hm]; exact ms_fz c1 (by decide) (by decide) (by decide) (by decide) (ms_ch a1 (by decide) (by decide) (by decide) (ms_rfE (by rw [h5]; rfl) (by decide) hS)), cm_tr (cm_tr cm_ref (cm_ch a1 (by decide))) (cm_fz c1 (by decide))⟩
  ·
    refine J_iconst dX7_dual_8 ?_
    refine J_ireturn dX7_dual_9 rfl ?_
    have hm : bM P n F i = false := by
      rw [Bool.and_true] at h5
      unfold bM bT
      rw [h5]
      rfl
    exact ⟨by unfold A_dual; rw [hm]; rfl, by rw [u1_f hm]; exact ms_ch a1 (by decide) (by decide) (by decide) (ms_rfE (by rw [h5]; rfl) (by decide) hS), cm_tr cm_ref (cm_ch a1 (by decide))⟩
set_option maxRecDepth 100000 in
set_option maxHeartbeats 4000000 in
theorem ev_X7_about (P D n : Nat) (F O : Nat → Nat) (tl : Nat) (tb : Nat → Nat) (fa tr wh : Int) (M : jM) (hS : MS P D n F O tl tb fa tr wh M) (i : Int) (hi : -2147483648 ≤ i ∧ i < 2147483648) : Ev 4 mX7_about [(33, 0), (0, i)] M (fun z M' => z = A_about P D n F i ∧ MS P D n F O tl tb fa (u1 (bT n && b6 i)) 0 M' ∧ CM M M') := by
  refine Ev_of (by decide +kernel) (Nat.le_of_ble_eq_true rfl) (L := [(33, 0), (0, i)]) rfl ?_
  have hR := hS.1
  have hn12 := MR.hn hR
  have hP7 := MR.hP hR
  have hD5 := MR.hD hR
  refine J_aload_n dX7_about_0 rfl ?_
  refine J_iload_n dX7_about_1 rfl ?_
  refine J_iconst dX7_about_2 ?_
  refine J_bipush dX7_about_3 (by decide) ?_
  refine J_callSiQ (cl := mX7_in) [(0, i), (0, 0), (0, 6)] [(33, 0)] dX7_about_5 mlX7_84 csX7_in rfl rfl (by decide) (Nat.le_of_ble_eq_true rfl) rfl (ev_X7_in i 0 6 (by omega) (by decide) (by decide) M) ?_
  refine J_callVi (cl := mX7_isAsked) [(0, ((Bool.toNat (decide (0 ≤ i ∧ i ≤ 6)) : Nat) : Int))] [] dX7_about_8 mlX7_218 cvX7_isAsked rfl rfl rfl rfl rfl (by decide) (Nat.le_of_ble_eq_true rfl) rfl (ev_X7_isAsked P D n F O M hR (decide (0 ≤ i ∧ i ≤ 6))) (fun z8 Ma hq8 => ?_)
  obtain ⟨rfl, a1, a2⟩ := hq8
  refine J_ifb_ne (tgt := 16) dX7_about_11 rfl (fun h11 => ?_) (fun h11 => ?_)
  ·
    refine J_aload_n dX7_about_16 rfl ?_
    refine J_callVv (cl := mX7_laysMissing) [] [] dX7_about_17 mlX7_222 cvX7_laysMissing rfl rfl rfl rfl rfl (by decide) (Nat.le_of_ble_eq_true rfl) rfl (ev_X7_laysMissing P D n F O Ma (mr_ch a1 (by decide) (by decide) (by decide) (mr_upF (by decide) (mr_upF (by decide) (mr_upF (by decide) hR)))) (isF n F) (a2 h11)) (fun Mb hq17 => ?_)
    obtain ⟨c1, c2, c3⟩ := hq17
    refine J_iload_n dX7_about_20 rfl ?_
    rcases (by omega : i = 0 ∨ i = 1 ∨ i = 2 ∨ i = 3 ∨ i = 4 ∨ i = 5 ∨ (i < 0 ∨ 5 < i)) with h21 | h21 | h21 | h21 | h21 | h21 | h21
    · refine J_tableIn (tgt := 60) (off := 39) dX7_about_21 (by omega) (by omega) (by omega) (by rw [h21]; rfl) rfl ?_
      refine J_aload_n dX7_about_60 rfl ?_
      refine J_getI dX7_about_61 flX7_171 rfl rfl (J_top (v := ((P : Nat) : Int)) (MR.gP (mr_fz c1 (by decide) (by decide) (mr_ch a1 (by decide) (by decide) (by decide) (mr_upF (by decide) (mr_upF (by decide) (mr_upF (by decide) hR)))))) ?_)
      refine J_ireturn dX7_about_64 rfl ?_
      exact ⟨by unfold A_about bT b6; rw [if_pos h11, if_pos h21], by unfold u1 bT b6; exact ms_fz c1 (by decide) (by decide) (by decide) (by decide) (ms_ch a1 (by decide) (by decide) (by decide) (ms_ref if01 hS)), cm_tr (cm_tr cm_ref (cm_ch a1 (by decide))) (cm_fz c1 (by decide))⟩
    · refine J_tableIn (tgt := 65) (off := 44) dX7_about_21 (by omega) (by omega) (by omega) (by rw [h21]; rfl) rfl ?_
      refine J_aload_n dX7_about_65 rfl ?_
      refine J_getI dX7_about_66 flX7_173 rfl rfl (J_top (v := ((D : Nat) : Int)) (MR.gD (mr_fz c1 (by decide) (by decide) (mr_ch a1 (by decide) (by decide) (by decide) (mr_upF (by decide) (mr_upF (by decide) (mr_upF (by decide) hR)))))) ?_)
      refine J_ireturn dX7_about_69 rfl ?_
      exact ⟨by unfold A_about bT b6; rw [if_pos h11, if_neg (by omega), if_pos h21], by unfold u1 bT b6; exact ms_fz c1 (by decide) (by decide) (by decide) (by decide) (ms_ch a1 (by decide) (by decide) (by decide) (ms_ref if01 hS)), cm_tr (cm_tr cm_ref (cm_ch a1 (by decide))) (cm_fz c1 (by decide))⟩
    · refine J_tableIn (tgt := 70) (off := 49) dX7_about_21 (by omega) (by omega) (by omega) (by rw [h21]; rfl) rfl ?_
      refine J_aload_n dX7_about_70 rfl ?_
      refine J_getI dX7_about_71 flX7_176 rfl rfl (J_top (v := ((n : Nat) : Int)) (MR.gn (mr_fz c1 (by decide) (by decide) (mr_ch a1 (by decide) (by decide) (by decide) (mr_upF (by decide) (mr_upF (by decide) (mr_upF (by decide) hR)))))) ?_)
      refine J_ireturn dX7_about_74 rfl ?_
      exact ⟨by unfold A_about bT b6; rw [if_pos h11, if_neg (by omega), if_neg (by omega), if_pos h21], by unfold u1 bT b6; exact ms_fz c1 (by decide) (by decide) (by decide) (by decide) (ms_ch a1 (by decide) (by decide) (by decide) (ms_ref if01 hS)), cm_tr (cm_tr cm_ref (cm_ch a1 (by decide))) (cm_fz c1 (by decide))⟩
    · refine J_tableIn (tgt := 75) (off := 54) dX7_about_21 (by omega) (by omega) (by omega) (by rw [h21]; rfl) rfl ?_
      refine J_aload_n dX7_about_75 rfl ?_
      refine J_iconst dX7_about_76 ?_
      refine J_callViQ (cl := mX7_sumOfFaces) [(0, ((Bool.toNat (false) : Nat) : Int))] [] dX7_about_77 mlX7_225 cvX7_sumOfFaces rfl rfl rfl rfl rfl (by decide) (Nat.le_of_ble_eq_true rfl) rfl (ev_X7_sumOfFaces (isF n F) (false) Mb (ia_fz c1 (by decide) (a2 h11))) ?_
      refine J_ireturn dX7_about_80 rfl ?_
      exact ⟨by unfold A_about bT b6; rw [if_pos h11, if_neg (by omega), if_neg (by omega), if_neg (by omega), if_pos h21], by unfold u1 bT b6; exact ms_fz c1 (by decide) (by decide) (by decide) (by decide) (ms_ch a1 (by decide) (by decide) (by decide) (ms_ref if01 hS)), cm_tr (cm_tr cm_ref (cm_ch a1 (by decide))) (cm_fz c1 (by decide))⟩
    · refine J_tableIn (tgt := 81) (off := 60) dX7_about_21 (by omega) (by omega) (by omega) (by rw [h21]; rfl) rfl ?_
      refine J_aload_n dX7_about_81 rfl ?_
      refine J_iconst dX7_about_82 ?_
      refine J_callViQ (cl := mX7_pointsIn) [(0, ((Bool.toNat (false) : Nat) : Int))] [] dX7_about_83 mlX7_228 cvX7_pointsIn rfl rfl rfl rfl rfl (by decide) (Nat.le_of_ble_eq_true rfl) rfl (ev_X7_pointsIn P D n F O Mb (mr_fz c1 (by decide) (by decide) (mr_ch a1 (by decide) (by decide) (by decide) (mr_upF (by decide) (mr_upF (by decide) (mr_upF (by decide) hR))))) (false)) ?_
      refine J_ireturn dX7_about_86 rfl ?_
      exact ⟨by unfold A_about bT b6; rw [if_pos h11, if_neg (by omega), if_neg (by omega), if_neg (by omega), if_neg (by omega), if_pos h21], by unfold u1 bT b6; exact ms_fz c1 (by decide) (by decide) (by decide) (by decide) (ms_ch a1 (by decide) (by decide) (by decide) (ms_ref if01 hS)), cm_tr (cm_tr cm_ref (cm_ch a1 (by decide))) (cm_fz c1 (by decide))⟩
    · refine J_tableIn (tgt := 87) (off := 66) dX7_about_21 (by omega) (by omega) (by omega) (by rw [h21]; rfl) rfl ?_
      refine J_aload_n dX7_about_87 rfl ?_
      refine J_iconst dX7_about_88 ?_
      refine J_callViQ (cl := mX7_pointsIn) [(0, ((Bool.toNat (true) : Nat) : Int))] [] dX7_about_89 mlX7_228 cvX7_pointsIn rfl rfl rfl rfl rfl (by decide) (Nat.le_of_ble_eq_true rfl) rfl (ev_X7_pointsIn P D n F O Mb (mr_fz c1 (by decide) (by decide) (mr_ch a1 (by decide) (by decide) (by decide) (mr_upF (by decide) (mr_upF (by decide) (mr_upF (by decide) hR))))) (true)) ?_
      refine J_ireturn dX7_about_92 rfl ?_
      exact ⟨by unfold A_about bT b6; rw [if_pos h11, if_neg (by omega), if_neg (by omega), if_neg (by omega), if_neg (by omega), if_neg (by omega), if_pos h21], by unfold u1 bT b6; exact ms_fz c1 (by decide) (by decide) (by decide) (by decide) (ms_ch a1 (by decide) (by decide) (by decide) (ms_ref if01 hS)), cm_tr (cm_tr cm_ref (cm_ch a1 (by decide))) (cm_fz c1 (by decide))⟩
    · refine J_tableOut (tgt := 93) dX7_about_21 (by omega) h21 rfl ?_
      refine J_aload_n dX7_about_93 rfl ?_
      refine J_getI dX7_about_94 flX7_209 rfl rfl (J_top (v := (((cntN (2 ^ P) (msg P (isF n F))) : Nat) : Int)) c2 ?_)
      refine J_ireturn dX7_about_97 rfl ?_
      exact ⟨by unfold A_about bT b6; rw [if_pos h11, if_neg (by omega), if_neg (by omega), if_neg (by omega), if_neg (by omega), if_neg (by omega), if_neg (by rcases h21 with e | e; rw [Bool.and_eq_true] at h11; have := of_decide_eq_true h11.2; omega; omega)], by unfold u1 bT b6; exact ms_fz c1 (by decide) (by decide) (by decide) (by decide) (ms_ch a1 (by decide) (by decide) (by decide) (ms_ref if01 hS)), cm_tr (cm_tr cm_ref (cm_ch a1 (by decide))) (cm_fz c1 (by decide))⟩
  ·
    refine J_iconst dX7_about_14 ?_
    refine J_ireturn dX7_about_15 rfl ?_
    exact ⟨by unfold A_about bT b6; rw [h11]; rfl, by unfold u1 bT b6; exact ms_ch a1 (by decide) (by decide) (by decide) (ms_ref if01 hS), cm_tr cm_ref (cm_ch a1 (by decide))⟩
set_option maxRecDepth 100000 in
set_option maxHeartbeats 4000000 in
theorem ev_X7_h_L15 (P D n : Nat) (F O : Nat → Nat) (tl : Nat) (tb : Nat → Nat) (fa tr wh : Int) (M : jM) (hS : MS P D n F O tl tb fa tr wh M) (k : Int) (hk : -2147483648 ≤ k ∧ k < 2147483648) (Ma : jM) (a1 : Ch [28] (j_up (j_up (j_up M 23 0 0) 23 3 (-1)) 23 1 (if decide (0 < n) = true then (if decide (0 ≤ k ∧ k ≤ ((D : Nat) : Int)) = true then 0 else 2) else 1)) Ma) (a2 : (decide (0 < n) && decide (0 ≤ k ∧ k ≤ ((D : Nat) : Int))) = true → IA Ma (isF n F)) (h5 : (decide (0 < n) && decide (0 ≤ k ∧ k ≤ ((D : Nat) : Int))) = true) : ∀ (fu : Nat) (c : Int) (i : Nat) (f1 : c = sumN i (hT (isF n F) D (Int.toNat k))) (f2 : i ≤ Int.toNat k + 1) (hfu : Int.toNat k + 1 - i < fu), J none 4 mX7_h 15 [(33, 0), (0, (((Int.toNat k) : Nat) : Int)), (0, c), (0, ((i : Nat) : Int)), (9, 0)] [] Ma (j_ret mX7_h (fun z M' => z = A_h D n F k ∧ MS P D n F O tl tb fa (u2 (bT n) (bK D k)) 0 M' ∧ CM M M')) := by
  intro fu
  induction fu with
  | zero => intro c i f1 f2 hfu; exact absurd hfu (Nat.not_lt_zero _)
  | succ fu ih =>
    intro c i f1 f2 hfu
    have hR := hS.1
    have hn12 := MR.hn hR
    have hP7 := MR.hP hR
    have hD5 := MR.hD hR
    have hkk : Int.toNat k ≤ D := by rw [Bool.and_eq_true] at h5; have := of_decide_eq_true h5.2; omega
    refine J_iload_n dX7_h_15 rfl ?_
    refine J_iload_n dX7_h_16 rfl ?_
    refine J_icmp_gt (tgt := 66) dX7_h_17 rfl (j_R (by omega)) (j_R (by rw [Bool.and_eq_true] at h5; have := of_decide_eq_true h5.2; omega)) (fun h17 => ?_) (fun h17 => ?_)
    ·
      refine J_iload_n dX7_h_66 rfl ?_
      refine J_ireturn dX7_h_67 rfl ?_
      exact ⟨by unfold A_h bT bK; rw [if_pos h5, show Int.toNat k + 1 = i by omega, f1], by unfold u2 bT bK; exact ms_ch a1 (by decide) (by decide) (by decide) (ms_ref if02 hS), cm_tr cm_ref (cm_ch a1 (by decide))⟩
    ·
      refine J_aload_n dX7_h_20 rfl ?_
      refine J_iload_n dX7_h_21 rfl ?_
      refine J_callViQ (cl := mX7_facesOf) [(0, ((i : Nat) : Int))] [] dX7_h_22 mlX7_189 cvX7_facesOf rfl rfl rfl rfl rfl (by decide) (Nat.le_of_ble_eq_true rfl) rfl (ev_X7_facesOf (isF n F) ((i : Nat) : Int) (j_R (by omega)) Ma (a2 h5)) ?_
      refine J_aload_n dX7_h_25 rfl ?_
      refine J_getI dX7_h_26 flX7_173 rfl rfl (J_top (v := ((D : Nat) : Int)) (MR.gD (mr_ch a1 (by decide) (by decide) (by decide) (mr_upF (by decide) (mr_upF (by decide) (mr_upF (by decide) hR))))) ?_)
      refine J_iload_n dX7_h_29 rfl ?_
      refine J_isub dX7_h_30 (J_top (v := (((D - i) : Nat) : Int)) (by omega) ?_)
      refine J_iload_n dX7_h_31 rfl ?_
      refine J_iload_n dX7_h_32 rfl ?_
      refine J_isub dX7_h_33 (J_top (v := (((Int.toNat k - i) : Nat) : Int)) (by omega) ?_)
      refine J_callSiQ (cl := mX7_ways) [(0, (((D - i) : Nat) : Int)), (0, (((Int.toNat k - i) : Nat) : Int))] [(0, (((cntN 128 (fun s => (isF n F) s && decide ((popc s : Int) = ((i : Nat) : Int)))) : Nat) : Int))] dX7_h_34 mlX7_246 csX7_ways rfl rfl (by decide) (Nat.le_of_ble_eq_true rfl) rfl (ev_X7_ways (D - i) (Int.toNat k - i) (by omega) (by omega) Ma) ?_
      refine J_imul dX7_h_37 (J_top (v := ((((cntN 128 (fun s => (isF n F) s && decide ((popc s : Int) = ((i : Nat) : Int)))) * (wys (D - i) (Int.toNat k - i))) : Nat) : Int)) (Int.natCast_mul _ _).symm ?_)
      refine J_istore (L' := [(33, 0), (0, (((Int.toNat k) : Nat) : Int)), (0, c), (0, ((i : Nat) : Int)), (0, ((((cntN 128 (fun s => (isF n F) s && decide ((popc s : Int) = ((i : Nat) : Int)))) * (wys (D - i) (Int.toNat k - i))) : Nat) : Int))]) dX7_h_38 (by decide) rfl rfl ?_
      refine J_iload_n dX7_h_40 rfl ?_
      refine J_iload_n dX7_h_41 rfl ?_
      refine J_iload_n dX7_h_42 rfl ?_
      refine J_isub dX7_h_43 (J_top (v := (((Int.toNat k - i) : Nat) : Int)) (by omega) ?_)
      refine J_iconst dX7_h_44 ?_
      refine J_irem dX7_h_45 (by decide) (by omega) (J_top (v := ((((Int.toNat k - i) % 2) : Nat) : Int)) (j_remN rfl rfl (by omega) (by decide)) ?_)
      refine J_iconst dX7_h_46 ?_
      refine J_icmp_ne (tgt := 56) dX7_h_47 rfl (j_R (by omega)) (by decide) (fun h47 => ?_) (fun h47 => ?_)
      ·
        refine J_iload dX7_h_56 rfl ?_
        refine J_iadd dX7_h_58 ?_
        refine J_istore_n (L' := [(33, 0), (0, (((Int.toNat k) : Nat) : Int)), (0, (c + ((((cntN 128 (fun s => (isF n F) s && decide ((popc s : Int) = ((i : Nat) : Int)))) * (wys (D - i) (Int.toNat k - i))) : Nat) : Int))), (0, ((i : Nat) : Int)), (0, ((((cntN 128 (fun s => (isF n F) s && decide ((popc s : Int) = ((i : Nat) : Int)))) * (wys (D - i) (Int.toNat k - i))) : Nat) : Int))]) dX7_h_59 (by decide) rfl rfl ?_
        refine J_iinc (v := (((i + 1) : Nat) : Int)) (L' := [(33, 0), (0, (((Int.toNat k) : Nat) : Int)), (0, (c + ((((cntN 128 (fun s => (isF n F) s && decide ((popc s : Int) = ((i : Nat) : Int)))) * (wys (D - i) (Int.toNat k - i))) : Nat) : Int))), (0, (((i + 1) : Nat) : Int)), (0, ((((cntN 128 (fun s => (isF n F) s && decide ((popc s : Int) = ((i : Nat) : Int)))) * (wys (D - i) (Int.toNat k - i))) : Nat) : Int))]) dX7_h_60 rfl (by omega) (by decide) rfl rfl ?_
        refine J_goto (tgt := 15) dX7_h_63 rfl ?_
        refine J_unset 4 (L' := [(33, 0), (0, (((Int.toNat k) : Nat) : Int)), (0, (c + ((((cntN 128 (fun s => (isF n F) s && decide ((popc s : Int) = ((i : Nat) : Int)))) * (wys (D - i) (Int.toNat k - i))) : Nat) : Int))), (0, (((i + 1) : Nat) : Int)), (9, 0)]) rfl ?_
        exact ih _ _ (by rw [f1]; simp only [sumN]; unfold hT; rw [if_neg (by omega)]; rfl) (by omega) (by omega)
      ·
        refine J_iload dX7_h_50 rfl ?_
        refine J_ineg dX7_h_52 ?_
        refine J_goto (tgt := 58) dX7_h_53 rfl ?_
        refine J_iadd dX7_h_58 ?_
        refine J_istore_n (L' := [(33, 0), (0, (((Int.toNat k) : Nat) : Int)), (0, (c + (-((((cntN 128 (fun s => (isF n F) s && decide ((popc s : Int) = ((i : Nat) : Int)))) * (wys (D - i) (Int.toNat k - i))) : Nat) : Int)))), (0, ((i : Nat) : Int)), (0, ((((cntN 128 (fun s => (isF n F) s && decide ((popc s : Int) = ((i : Nat) : Int)))) * (wys (D - i) (Int.toNat k - i))) : Nat) : Int))]) dX7_h_59 (by decide) rfl rfl ?_
        refine J_iinc (v := (((i + 1) : Nat) : Int)) (L' := [(33, 0), (0, (((Int.toNat k) : Nat) : Int)), (0, (c + (-((((cntN 128 (fun s => (isF n F) s && decide ((popc s : Int) = ((i : Nat) : Int)))) * (wys (D - i) (Int.toNat k - i))) : Nat) : Int)))), (0, (((i + 1) : Nat) : Int)), (0, ((((cntN 128 (fun s => (isF n F) s && decide ((popc s : Int) = ((i : Nat) : Int)))) * (wys (D - i) (Int.toNat k - i))) : Nat) : Int))]) dX7_h_60 rfl (by omega) (by decide) rfl rfl ?_
        refine J_goto (tgt := 15) dX7_h_63 rfl ?_
        refine J_unset 4 (L' := [(33, 0), (0, (((Int.toNat k) : Nat) : Int)), (0, (c + (-((((cntN 128 (fun s => (isF n F) s && decide ((popc s : Int) = ((i : Nat) : Int)))) * (wys (D - i) (Int.toNat k - i))) : Nat) : Int)))), (0, (((i + 1) : Nat) : Int)), (9, 0)]) rfl ?_
        exact ih _ _ (by rw [f1]; simp only [sumN]; unfold hT; rw [if_pos (by omega)]; rfl) (by omega) (by omega)
set_option maxRecDepth 100000 in
set_option maxHeartbeats 4000000 in
theorem ev_X7_h (P D n : Nat) (F O : Nat → Nat) (tl : Nat) (tb : Nat → Nat) (fa tr wh : Int) (M : jM) (hS : MS P D n F O tl tb fa tr wh M) (k : Int) (hk : -2147483648 ≤ k ∧ k < 2147483648) : Ev 4 mX7_h [(33, 0), (0, k)] M (fun z M' => z = A_h D n F k ∧ MS P D n F O tl tb fa (u2 (bT n) (bK D k)) 0 M' ∧ CM M M') := by
  refine Ev_of (by decide +kernel) (Nat.le_of_ble_eq_true rfl) (L := [(33, 0), (0, k), (9, 0), (9, 0), (9, 0)]) rfl ?_
  have hR := hS.1
  have hn12 := MR.hn hR
  have hP7 := MR.hP hR
  have hD5 := MR.hD hR
  refine J_aload_n dX7_h_0 rfl ?_
  refine J_iload_n dX7_h_1 rfl ?_
  refine J_callVi (cl := mX7_isSized) [(0, k)] [] dX7_h_2 mlX7_240 cvX7_isSized rfl rfl rfl rfl rfl (by decide) (Nat.le_of_ble_eq_true rfl) rfl (ev_X7_isSized P D n F O M hR k (by omega)) (fun z2 Ma hq2 => ?_)
  obtain ⟨rfl, a1, a2⟩ := hq2
  refine J_ifb_ne (tgt := 11) dX7_h_5 rfl (fun h5 => ?_) (fun h5 => ?_)
  ·
    refine J_eq (L' := [(33, 0), (0, (((Int.toNat k) : Nat) : Int)), (9, 0), (9, 0), (9, 0)]) (by rw [Int.toNat_of_nonneg (by rw [Bool.and_eq_true] at h5; have := of_decide_eq_true h5.2; omega)]) rfl rfl ?_
    refine J_iconst dX7_h_11 ?_
    refine J_istore_n (L' := [(33, 0), (0, (((Int.toNat k) : Nat) : Int)), (0, 0), (9, 0), (9, 0)]) dX7_h_12 (by decide) rfl rfl ?_
    refine J_iconst dX7_h_13 ?_
    refine J_istore_n (L' := [(33, 0), (0, (((Int.toNat k) : Nat) : Int)), (0, 0), (0, 0), (9, 0)]) dX7_h_14 (by decide) rfl rfl ?_
    refine J_eq (L' := [(33, 0), (0, (((Int.toNat k) : Nat) : Int)), (0, 0), (0, ((0 : Nat) : Int)), (9, 0)]) rfl rfl rfl ?_
    exact ev_X7_h_L15 P D n F O tl tb fa tr wh M hS k hk Ma a1 a2 h5 _ _ _ (by rfl) (by omega) (Nat.lt_succ_self _)
  ·
    refine J_ldc (n := -2147483648) dX7_h_8 kcX7_245 ?_
    refine J_ireturn dX7_h_10 rfl ?_
    exact ⟨by unfold A_h bT bK; rw [h5]; rfl, by unfold u2 bT bK; exact ms_ch a1 (by decide) (by decide) (by decide) (ms_ref if02 hS), cm_tr cm_ref (cm_ch a1 (by decide))⟩
set_option maxRecDepth 100000 in
set_option maxHeartbeats 4000000 in
theorem ev_X7_sized_L14 (P D n : Nat) (F O : Nat → Nat) (tl : Nat) (tb : Nat → Nat) (fa tr wh : Int) (M : jM) (hS : MS P D n F O tl tb fa tr wh M) (k : Int) (hk : -2147483648 ≤ k ∧ k < 2147483648) (Ma : jM) (a1 : Ch [28] (j_up (j_up (j_up M 23 0 0) 23 3 (-1)) 23 1 (if decide (0 < n) = true then (if decide (0 ≤ k ∧ k ≤ ((D : Nat) : Int)) = true then 0 else 2) else 1)) Ma) (a2 : (decide (0 < n) && decide (0 ≤ k ∧ k ≤ ((D : Nat) : Int))) = true → IA Ma (isF n F)) (h5 : (decide (0 < n) && decide (0 ≤ k ∧ k ≤ ((D : Nat) : Int))) = true) : ∀ (fu : Nat) (j : Nat) (f2 : j ≤ n) (hfu : n - j < fu), J none 4 mX7_sized 14 [(33, 0), (0, k), (0, (((cntN j (fun j => decide ((popc (rst F O j) : Int) = k))) : Nat) : Int)), (0, ((j : Nat) : Int))] [] Ma (j_ret mX7_sized (fun z M' => z = A_sized D n F O k ∧ MS P D n F O tl tb fa (u2 (bT n) (bK D k)) 0 M' ∧ CM M M')) := by
  intro fu
  induction fu with
  | zero => intro j f2 hfu; exact absurd hfu (Nat.not_lt_zero _)
  | succ fu ih =>
    intro j f2 hfu
    have hR := hS.1
    have hn12 := MR.hn hR
    have hP7 := MR.hP hR
    have hD5 := MR.hD hR
    have hkk : Int.toNat k ≤ D := by rw [Bool.and_eq_true] at h5; have := of_decide_eq_true h5.2; omega
    refine J_iload_n dX7_sized_14 rfl ?_
    refine J_aload_n dX7_sized_15 rfl ?_
    refine J_getI dX7_sized_16 flX7_176 rfl rfl (J_top (v := ((n : Nat) : Int)) (MR.gn (mr_ch a1 (by decide) (by decide) (by decide) (mr_upF (by decide) (mr_upF (by decide) (mr_upF (by decide) hR))))) ?_)
    refine J_icmp_ge (tgt := 48) dX7_sized_19 rfl (j_R (by omega)) (j_R (by omega)) (fun h19 => ?_) (fun h19 => ?_)
    ·
      refine J_iload_n dX7_sized_48 rfl ?_
      refine J_ireturn dX7_sized_49 rfl ?_
      exact ⟨by unfold A_sized bT bK; rw [if_pos h5, show j = n by omega], by unfold u2 bT bK; exact ms_ch a1 (by decide) (by decide) (by decide) (ms_ref if02 hS), cm_tr cm_ref (cm_ch a1 (by decide))⟩
    ·
      refine J_iload_n dX7_sized_22 rfl ?_
      refine J_aload_n dX7_sized_23 rfl ?_
      refine J_iload_n dX7_sized_24 rfl ?_
      refine J_callViQ (cl := mX7_restrictionAt) [(0, ((j : Nat) : Int))] [(0, (((cntN j (fun j => decide ((popc (rst F O j) : Int) = k))) : Nat) : Int))] dX7_sized_25 mlX7_269 cvX7_restrictionAt rfl rfl rfl rfl rfl (by decide) (Nat.le_of_ble_eq_true rfl) rfl (ev_X7_restrictionAt P D n F O Ma (mr_ch a1 (by decide) (by decide) (by decide) (mr_upF (by decide) (mr_upF (by decide) (mr_upF (by decide) hR)))) j (by omega)) ?_
      refine J_callSiQ (cl := mX7_many) [(0, (((rst F O j) : Nat) : Int))] [(0, (((cntN j (fun j => decide ((popc (rst F O j) : Int) = k))) : Nat) : Int))] dX7_sized_28 mlX7_136 csX7_many rfl rfl (by decide) (Nat.le_of_ble_eq_true rfl) rfl (ev_X7_many (rst F O j) (rst31 _ _ _) Ma) ?_
      refine J_iload_n dX7_sized_31 rfl ?_
      refine J_icmp_ne (tgt := 39) dX7_sized_32 rfl (j_R (popc_lt (rst31 _ _ _))) (by omega) (fun h32 => ?_) (fun h32 => ?_)
      ·
        refine J_iconst dX7_sized_39 ?_
        refine J_iadd dX7_sized_40 (J_top (v := (((cntN j (fun j => decide ((popc (rst F O j) : Int) = k))) : Nat) : Int)) (by omega) ?_)
        refine J_istore_n (L' := [(33, 0), (0, k), (0, (((cntN j (fun j => decide ((popc (rst F O j) : Int) = k))) : Nat) : Int)), (0, ((j : Nat) : Int))]) dX7_sized_41 (by decide) rfl rfl ?_
        refine J_eq (L' := [(33, 0), (0, k), (0, (((cntN (j + 1) (fun j => decide ((popc (rst F O j) : Int) = k))) : Nat) : Int)), (0, ((j : Nat) : Int))]) (by rw [cntN_f (k := j) (by simp; omega)]) rfl rfl ?_
        refine J_iinc (v := (((j + 1) : Nat) : Int)) (L' := [(33, 0), (0, k), (0, (((cntN (j + 1) (fun j => decide ((popc (rst F O j) : Int) = k))) : Nat) : Int)), (0, (((j + 1) : Nat) : Int))]) dX7_sized_42 rfl (by omega) (by decide) rfl rfl ?_
        refine J_goto (tgt := 14) dX7_sized_45 rfl ?_
        exact ih _ (by omega) (by omega)
      ·
        refine J_iconst dX7_sized_35 ?_
        refine J_goto (tgt := 40) dX7_sized_36 rfl ?_
        refine J_iadd dX7_sized_40 (J_top (v := ((((cntN j (fun j => decide ((popc (rst F O j) : Int) = k))) + 1) : Nat) : Int)) (by omega) ?_)
        refine J_istore_n (L' := [(33, 0), (0, k), (0, ((((cntN j (fun j => decide ((popc (rst F O j) : Int) = k))) + 1) : Nat) : Int)), (0, ((j : Nat) : Int))]) dX7_sized_41 (by decide) rfl rfl ?_
        refine J_eq (L' := [(33, 0), (0, k), (0, (((cntN (j + 1) (fun j => decide ((popc (rst F O j) : Int) = k))) : Nat) : Int)), (0, ((j : Nat) : Int))]) (by rw [cntN_t (k := j) (by simp; omega)]) rfl rfl ?_
        refine J_iinc (v := (((j + 1) : Nat) : Int)) (L' := [(33, 0), (0, k), (0, (((cntN (j + 1) (fun j => decide ((popc (rst F O j) : Int) = k))) : Nat) : Int)), (0, (((j + 1) : Nat) : Int))]) dX7_sized_42 rfl (by omega) (by decide) rfl rfl ?_
        refine J_goto (tgt := 14) dX7_sized_45 rfl ?_
        exact ih _ (by omega) (by omega)
set_option maxRecDepth 100000 in
set_option maxHeartbeats 4000000 in
theorem ev_X7_sized (P D n : Nat) (F O : Nat → Nat) (tl : Nat) (tb : Nat → Nat) (fa tr wh : Int) (M : jM) (hS : MS P D n F O tl tb fa tr wh M) (k : Int) (hk : -2147483648 ≤ k ∧ k < 2147483648) : Ev 4 mX7_sized [(33, 0), (0, k)] M (fun z M' => z = A_sized D n F O k ∧ MS P D n F O tl tb fa (u2 (bT n) (bK D k)) 0 M' ∧ CM M M') := by
  refine Ev_of (by decide +kernel) (Nat.le_of_ble_eq_true rfl) (L := [(33, 0), (0, k), (9, 0), (9, 0)]) rfl ?_
  have hR := hS.1
  have hn12 := MR.hn hR
  have hP7 := MR.hP hR
  have hD5 := MR.hD hR
  refine J_aload_n dX7_sized_0 rfl ?_
  refine J_iload_n dX7_sized_1 rfl ?_
  refine J_callVi (cl := mX7_isSized) [(0, k)] [] dX7_sized_2 mlX7_240 cvX7_isSized rfl rfl rfl rfl rfl (by decide) (Nat.le_of_ble_eq_true rfl) rfl (ev_X7_isSized P D n F O M hR k (by omega)) (fun z2 Ma hq2 => ?_)
  obtain ⟨rfl, a1, a2⟩ := hq2
  refine J_ifb_ne (tgt := 10) dX7_sized_5 rfl (fun h5 => ?_) (fun h5 => ?_)
  ·
    refine J_iconst dX7_sized_10 ?_
    refine J_istore_n (L' := [(33, 0), (0, k), (0, 0), (9, 0)]) dX7_sized_11 (by decide) rfl rfl ?_
    refine J_iconst dX7_sized_12 ?_
    refine J_istore_n (L' := [(33, 0), (0, k), (0, 0), (0, 0)]) dX7_sized_13 (by decide) rfl rfl ?_
    refine J_eq (L' := [(33, 0), (0, k), (0, ((0 : Nat) : Int)), (0, ((0 : Nat) : Int))]) rfl rfl rfl ?_
    exact ev_X7_sized_L14 P D n F O tl tb fa tr wh M hS k hk Ma a1 a2 h5 _ _ (by omega) (Nat.lt_succ_self _)
  ·
    refine J_iconst dX7_sized_8 ?_
    refine J_ireturn dX7_sized_9 rfl ?_
    exact ⟨by unfold A_sized bT bK; rw [h5]; rfl, by unfold u2 bT bK; exact ms_ch a1 (by decide) (by decide) (by decide) (ms_ref if02 hS), cm_tr cm_ref (cm_ch a1 (by decide))⟩
set_option maxRecDepth 100000 in
set_option maxHeartbeats 4000000 in
theorem ev_X7_rebuilt_L14 (P D n : Nat) (F O : Nat → Nat) (tl : Nat) (tb : Nat → Nat) (fa tr wh : Int) (M : jM) (hS : MS P D n F O tl tb fa tr wh M) (k : Int) (hk : -2147483648 ≤ k ∧ k < 2147483648) (Ma : jM) (a1 : Ch [28] (j_up (j_up (j_up M 23 0 0) 23 3 (-1)) 23 1 (if decide (0 < n) = true then (if decide (0 ≤ k ∧ k ≤ ((D : Nat) : Int)) = true then 0 else 2) else 1)) Ma) (a2 : (decide (0 < n) && decide (0 ≤ k ∧ k ≤ ((D : Nat) : Int))) = true → IA Ma (isF n F)) (h5 : (decide (0 < n) && decide (0 ≤ k ∧ k ≤ ((D : Nat) : Int))) = true) : ∀ (fu : Nat) (j : Nat) (f2 : j ≤ n) (hfu : n - j < fu), J none 4 mX7_rebuilt 14 [(33, 0), (0, (((Int.toNat k) : Nat) : Int)), (0, (((smN j (rbT D F O (Int.toNat k))) : Nat) : Int)), (0, ((j : Nat) : Int)), (9, 0)] [] Ma (j_ret mX7_rebuilt (fun z M' => z = A_rebuilt D n F O k ∧ MS P D n F O tl tb fa (u2 (bT n) (bK D k)) 0 M' ∧ CM M M')) := by
  intro fu
  induction fu with
  | zero => intro j f2 hfu; exact absurd hfu (Nat.not_lt_zero _)
  | succ fu ih =>
    intro j f2 hfu
    have hR := hS.1
    have hn12 := MR.hn hR
    have hP7 := MR.hP hR
    have hD5 := MR.hD hR
    have hkk : Int.toNat k ≤ D := by rw [Bool.and_eq_true] at h5; have := of_decide_eq_true h5.2; omega
    refine J_iload_n dX7_rebuilt_14 rfl ?_
    refine J_aload_n dX7_rebuilt_15 rfl ?_
    refine J_getI dX7_rebuilt_16 flX7_176 rfl rfl (J_top (v := ((n : Nat) : Int)) (MR.gn (mr_ch a1 (by decide) (by decide) (by decide) (mr_upF (by decide) (mr_upF (by decide) (mr_upF (by decide) hR))))) ?_)
    refine J_icmp_ge (tgt := 65) dX7_rebuilt_19 rfl (j_R (by omega)) (j_R (by omega)) (fun h19 => ?_) (fun h19 => ?_)
    ·
      refine J_iload_n dX7_rebuilt_65 rfl ?_
      refine J_ireturn dX7_rebuilt_66 rfl ?_
      exact ⟨by unfold A_rebuilt bT bK; rw [if_pos h5, show j = n by omega], by unfold u2 bT bK; exact ms_ch a1 (by decide) (by decide) (by decide) (ms_ref if02 hS), cm_tr cm_ref (cm_ch a1 (by decide))⟩
    ·
      refine J_aload_n dX7_rebuilt_22 rfl ?_
      refine J_iload_n dX7_rebuilt_23 rfl ?_
      refine J_callViQ (cl := mX7_restrictionAt) [(0, ((j : Nat) : Int))] [] dX7_rebuilt_24 mlX7_269 cvX7_restrictionAt rfl rfl rfl rfl rfl (by decide) (Nat.le_of_ble_eq_true rfl) rfl (ev_X7_restrictionAt P D n F O Ma (mr_ch a1 (by decide) (by decide) (by decide) (mr_upF (by decide) (mr_upF (by decide) (mr_upF (by decide) hR)))) j (by omega)) ?_
      refine J_callSiQ (cl := mX7_many) [(0, (((rst F O j) : Nat) : Int))] [] dX7_rebuilt_27 mlX7_136 csX7_many rfl rfl (by decide) (Nat.le_of_ble_eq_true rfl) rfl (ev_X7_many (rst F O j) (rst31 _ _ _) Ma) ?_
      refine J_istore (L' := [(33, 0), (0, (((Int.toNat k) : Nat) : Int)), (0, (((smN j (rbT D F O (Int.toNat k))) : Nat) : Int)), (0, ((j : Nat) : Int)), (0, (((popc (rst F O j)) : Nat) : Int))]) dX7_rebuilt_30 (by decide) rfl rfl ?_
      refine J_iload_n dX7_rebuilt_32 rfl ?_
      refine J_iload dX7_rebuilt_33 rfl ?_
      refine J_iload_n dX7_rebuilt_35 rfl ?_
      refine J_icmp_gt (tgt := 56) dX7_rebuilt_36 rfl (j_R (popc_lt (rst31 _ _ _))) (j_R (by rw [Bool.and_eq_true] at h5; have := of_decide_eq_true h5.2; omega)) (fun h36 => ?_) (fun h36 => ?_)
      ·
        refine J_iconst dX7_rebuilt_56 ?_
        refine J_iadd dX7_rebuilt_57 (J_top (v := (((smN j (rbT D F O (Int.toNat k))) : Nat) : Int)) (by omega) ?_)
        refine J_istore_n (L' := [(33, 0), (0, (((Int.toNat k) : Nat) : Int)), (0, (((smN j (rbT D F O (Int.toNat k))) : Nat) : Int)), (0, ((j : Nat) : Int)), (0, (((popc (rst F O j)) : Nat) : Int))]) dX7_rebuilt_58 (by decide) rfl rfl ?_
        refine J_eq (L' := [(33, 0), (0, (((Int.toNat k) : Nat) : Int)), (0, (((smN (j + 1) (rbT D F O (Int.toNat k))) : Nat) : Int)), (0, ((j : Nat) : Int)), (0, (((popc (rst F O j)) : Nat) : Int))]) (by simp only [smN]; unfold rbT; rw [if_neg (by omega)]; try rfl) rfl rfl ?_
        refine J_iinc (v := (((j + 1) : Nat) : Int)) (L' := [(33, 0), (0, (((Int.toNat k) : Nat) : Int)), (0, (((smN (j + 1) (rbT D F O (Int.toNat k))) : Nat) : Int)), (0, (((j + 1) : Nat) : Int)), (0, (((popc (rst F O j)) : Nat) : Int))]) dX7_rebuilt_59 rfl (by omega) (by decide) rfl rfl ?_
        refine J_goto (tgt := 14) dX7_rebuilt_62 rfl ?_
        refine J_unset 4 (L' := [(33, 0), (0, (((Int.toNat k) : Nat) : Int)), (0, (((smN (j + 1) (rbT D F O (Int.toNat k))) : Nat) : Int)), (0, (((j + 1) : Nat) : Int)), (9, 0)]) rfl ?_
        exact ih _ (by omega) (by omega)
      ·
        refine J_aload_n dX7_rebuilt_39 rfl ?_
        refine J_getI dX7_rebuilt_40 flX7_173 rfl rfl (J_top (v := ((D : Nat) : Int)) (MR.gD (mr_ch a1 (by decide) (by decide) (by decide) (mr_upF (by decide) (mr_upF (by decide) (mr_upF (by decide) hR))))) ?_)
        refine J_iload dX7_rebuilt_43 rfl ?_
        refine J_isub dX7_rebuilt_45 (J_top (v := (((D - popc (rst F O j)) : Nat) : Int)) (by omega) ?_)
        refine J_iload_n dX7_rebuilt_46 rfl ?_
        refine J_iload dX7_rebuilt_47 rfl ?_
        refine J_isub dX7_rebuilt_49 (J_top (v := (((Int.toNat k - popc (rst F O j)) : Nat) : Int)) (by omega) ?_)
        refine J_callSiQ (cl := mX7_ways) [(0, (((D - popc (rst F O j)) : Nat) : Int)), (0, (((Int.toNat k - popc (rst F O j)) : Nat) : Int))] [(0, (((smN j (rbT D F O (Int.toNat k))) : Nat) : Int))] dX7_rebuilt_50 mlX7_246 csX7_ways rfl rfl (by decide) (Nat.le_of_ble_eq_true rfl) rfl (ev_X7_ways (D - popc (rst F O j)) (Int.toNat k - popc (rst F O j)) (by omega) (by omega) Ma) ?_
        refine J_goto (tgt := 57) dX7_rebuilt_53 rfl ?_
        refine J_iadd dX7_rebuilt_57 (J_top (v := ((((smN j (rbT D F O (Int.toNat k))) + (wys (D - popc (rst F O j)) (Int.toNat k - popc (rst F O j)))) : Nat) : Int)) (by omega) ?_)
        refine J_istore_n (L' := [(33, 0), (0, (((Int.toNat k) : Nat) : Int)), (0, ((((smN j (rbT D F O (Int.toNat k))) + (wys (D - popc (rst F O j)) (Int.toNat k - popc (rst F O j)))) : Nat) : Int)), (0, ((j : Nat) : Int)), (0, (((popc (rst F O j)) : Nat) : Int))]) dX7_rebuilt_58 (by decide) rfl rfl ?_
        refine J_eq (L' := [(33, 0), (0, (((Int.toNat k) : Nat) : Int)), (0, (((smN (j + 1) (rbT D F O (Int.toNat k))) : Nat) : Int)), (0, ((j : Nat) : Int)), (0, (((popc (rst F O j)) : Nat) : Int))]) (by simp only [smN]; unfold rbT; rw [if_pos (by omega)]; try rfl) rfl rfl ?_
        refine J_iinc (v := (((j + 1) : Nat) : Int)) (L' := [(33, 0), (0, (((Int.toNat k) : Nat) : Int)), (0, (((smN (j + 1) (rbT D F O (Int.toNat k))) : Nat) : Int)), (0, (((j + 1) : Nat) : Int)), (0, (((popc (rst F O j)) : Nat) : Int))]) dX7_rebuilt_59 rfl (by omega) (by decide) rfl rfl ?_
        refine J_goto (tgt := 14) dX7_rebuilt_62 rfl ?_
        refine J_unset 4 (L' := [(33, 0), (0, (((Int.toNat k) : Nat) : Int)), (0, (((smN (j + 1) (rbT D F O (Int.toNat k))) : Nat) : Int)), (0, (((j + 1) : Nat) : Int)), (9, 0)]) rfl ?_
        exact ih _ (by omega) (by omega)
set_option maxRecDepth 100000 in
set_option maxHeartbeats 4000000 in
theorem ev_X7_rebuilt (P D n : Nat) (F O : Nat → Nat) (tl : Nat) (tb : Nat → Nat) (fa tr wh : Int) (M : jM) (hS : MS P D n F O tl tb fa tr wh M) (k : Int) (hk : -2147483648 ≤ k ∧ k < 2147483648) : Ev 4 mX7_rebuilt [(33, 0), (0, k)] M (fun z M' => z = A_rebuilt D n F O k ∧ MS P D n F O tl tb fa (u2 (bT n) (bK D k)) 0 M' ∧ CM M M') := by
  refine Ev_of (by decide +kernel) (Nat.le_of_ble_eq_true rfl) (L := [(33, 0), (0, k), (9, 0), (9, 0), (9, 0)]) rfl ?_
  have hR := hS.1
  have hn12 := MR.hn hR
  have hP7 := MR.hP hR
  have hD5 := MR.hD hR
  refine J_aload_n dX7_rebuilt_0 rfl ?_
  refine J_iload_n dX7_rebuilt_1 rfl ?_
  refine J_callVi (cl := mX7_isSized) [(0, k)] [] dX7_rebuilt_2 mlX7_240 cvX7_isSized rfl rfl rfl rfl rfl (by decide) (Nat.le_of_ble_eq_true rfl) rfl (ev_X7_isSized P D n F O M hR k (by omega)) (fun z2 Ma hq2 => ?_)
  obtain ⟨rfl, a1, a2⟩ := hq2
  refine J_ifb_ne (tgt := 10) dX7_rebuilt_5 rfl (fun h5 => ?_) (fun h5 => ?_)
  ·
    refine J_eq (L' := [(33, 0), (0, (((Int.toNat k) : Nat) : Int)), (9, 0), (9, 0), (9, 0)]) (by rw [Int.toNat_of_nonneg (by rw [Bool.and_eq_true] at h5; have := of_decide_eq_true h5.2; omega)]) rfl rfl ?_
    refine J_iconst dX7_rebuilt_10 ?_
    refine J_istore_n (L' := [(33, 0), (0, (((Int.toNat k) : Nat) : Int)), (0, 0), (9, 0), (9, 0)]) dX7_rebuilt_11 (by decide) rfl rfl ?_
    refine J_iconst dX7_rebuilt_12 ?_
    refine J_istore_n (L' := [(33, 0), (0, (((Int.toNat k) : Nat) : Int)), (0, 0), (0, 0), (9, 0)]) dX7_rebuilt_13 (by decide) rfl rfl ?_
    refine J_eq (L' := [(33, 0), (0, (((Int.toNat k) : Nat) : Int)), (0, ((0 : Nat) : Int)), (0, ((0 : Nat) : Int)), (9, 0)]) rfl rfl rfl ?_
    exact ev_X7_rebuilt_L14 P D n F O tl tb fa tr wh M hS k hk Ma a1 a2 h5 _ _ (by omega) (Nat.lt_succ_self _)
  ·
    refine J_iconst dX7_rebuilt_8 ?_
    refine J_ireturn dX7_rebuilt_9 rfl ?_
    exact ⟨by unfold A_rebuilt bT bK; rw [h5]; rfl, by unfold u2 bT bK; exact ms_ch a1 (by decide) (by decide) (by decide) (ms_ref if02 hS), cm_tr cm_ref (cm_ch a1 (by decide))⟩
set_option maxRecDepth 100000 in
set_option maxHeartbeats 4000000 in
theorem ev_X7_spanning (P D n : Nat) (F O : Nat → Nat) (tl : Nat) (tb : Nat → Nat) (fa tr wh : Int) (M : jM) (hS : MS P D n F O tl tb fa tr wh M) (i : Int) (hi : -2147483648 ≤ i ∧ i < 2147483648) : Ev 4 mX7_spanning [(33, 0), (0, i)] M (fun z M' => z = A_spanning n F O i ∧ MS P D n F O tl tb fa (u1 (bP n F O i)) 0 M' ∧ CM M M') := by
  refine Ev_of (by decide +kernel) (Nat.le_of_ble_eq_true rfl) (L := [(33, 0), (0, i), (9, 0)]) rfl ?_
  have hR := hS.1
  have hn12 := MR.hn hR
  have hP7 := MR.hP hR
  have hD5 := MR.hD hR
  refine J_aload_n dX7_spanning_0 rfl ?_
  refine J_aload_n dX7_spanning_1 rfl ?_
  refine J_getI dX7_spanning_2 flX7_179 rfl rfl (J_top (v := ((Bool.toNat (decide (0 < n)) : Nat) : Int)) (MR.gt hR) ?_)
  refine J_callSiQ (cl := mX7_unless) [(0, ((Bool.toNat (decide (0 < n)) : Nat) : Int))] [(33, 0)] dX7_spanning_5 mlX7_199 csX7_unless rfl rfl (by decide) (Nat.le_of_ble_eq_true rfl) rfl (ev_X7_unless (decide (0 < n)) M) ?_
  refine J_callViQ (cl := mX7_isRefused) [(0, (if (decide (0 < n)) = true then 0 else 1))] [] dX7_spanning_8 mlX7_159 cvX7_isRefused rfl rfl rfl rfl rfl (by decide) (Nat.le_of_ble_eq_true rfl) rfl (ev_X7_isRefused (if (decide (0 < n)) = true then 0 else 1) (ifR _ (by decide) (by decide)) M) (J_top (v := ((Bool.toNat (!(decide (0 < n))) : Nat) : Int)) (rf_un _) ?_)
  refine J_ifn_eq (b := (decide (0 < n))) (tgt := 16) dX7_spanning_11 rfl (fun h11 => ?_) (fun h11 => ?_)
  ·
    refine J_aload_n dX7_spanning_16 rfl ?_
    refine J_iload_n dX7_spanning_17 rfl ?_
    refine J_callViQ (cl := mX7_spanningAt) [(0, i)] [] dX7_spanning_18 mlX7_278 cvX7_spanningAt rfl rfl rfl rfl rfl (by decide) (Nat.le_of_ble_eq_true rfl) rfl (ev_X7_spanningAt P D n F O (j_up (j_up (j_up M 23 0 0) 23 3 (-1)) 23 1 (if (decide (0 < n)) = true then 0 else 1)) (mr_upF (by decide) (mr_upF (by decide) (mr_upF (by decide) hR))) i (by omega)) ?_
    refine J_istore_n (L' := [(33, 0), (0, i), (0, (nthN n (spB F O) i))]) dX7_spanning_21 (by decide) rfl rfl ?_
    refine J_iload_n dX7_spanning_22 rfl ?_
    refine J_iconst dX7_spanning_23 ?_
    refine J_icmp_ne (tgt := 35) dX7_spanning_24 rfl (nthR hR _ _) (by decide) (fun h24 => ?_) (fun h24 => ?_)
    ·
      refine J_iload_n dX7_spanning_35 rfl ?_
      refine J_ireturn dX7_spanning_36 rfl ?_
      have hm : bP n F O i = true := by unfold bP bT; rw [h11, decide_eq_true h24]; rfl
      exact ⟨by unfold A_spanning; rw [if_pos hm], by rw [u1_t hm]; exact ms_rfE (by rw [h11]; rfl) (by decide) hS, cm_ref⟩
    ·
      refine J_aload_n dX7_spanning_27 rfl ?_
      refine J_iconst dX7_spanning_28 ?_
      refine J_callViQ (cl := mX7_no) [(0, 1)] [] dX7_spanning_29 mlX7_168 cvX7_no rfl rfl rfl rfl rfl (by decide) (Nat.le_of_ble_eq_true rfl) rfl (ev_X7_no 1 (j_up (j_up (j_up M 23 0 0) 23 3 (-1)) 23 1 (if (decide (0 < n)) = true then 0 else 1))) ?_
      refine J_goto (tgt := 36) dX7_spanning_32 rfl ?_
      refine J_ireturn dX7_spanning_36 rfl ?_
      have hm : bP n F O i = false := by unfold bP; rw [h24]; simp
      exact ⟨by unfold A_spanning; rw [hm]; rfl, by rw [u1_f hm]; exact ms_tr (by decide) (ms_ref if01 hS), cm_up cm_ref⟩
  ·
    refine J_iconst dX7_spanning_14 ?_
    refine J_ireturn dX7_spanning_15 rfl ?_
    have hm : bP n F O i = false := by unfold bP bT; rw [h11]; rfl
    exact ⟨by unfold A_spanning; rw [hm]; rfl, by rw [u1_f hm]; exact ms_rfE (by rw [h11]; rfl) (by decide) hS, cm_ref⟩
set_option maxRecDepth 100000 in
set_option maxHeartbeats 4000000 in
theorem ev_X7_fresh_L21 (P D n : Nat) (F O : Nat → Nat) (tl : Nat) (tb : Nat → Nat) (fa tr wh : Int) (M : jM) (hS : MS P D n F O tl tb fa tr wh M) (i : Int) (hi : -2147483648 ≤ i ∧ i < 2147483648) (M1 : jM) (hM1 : M1 = (j_up (j_up (j_up M 23 0 0) 23 3 (-1)) 23 1 (if decide (0 ≤ i ∧ i < (n : Int)) = true then 0 else 1))) (h12 : decide (0 ≤ i ∧ i < (n : Int)) = true) : ∀ (fu : Nat) (s : Nat) (f2 : s ≤ 2 ^ P) (hfu : 2 ^ P - s < fu), J none 2 mX7_fresh 21 [(33, 0), (0, i), (0, (((cntN s (fun s => decide (fstN n (fun k => sbs s (F (O k))) (-2) = i))) : Nat) : Int)), (0, ((s : Nat) : Int))] [] M1 (j_ret mX7_fresh (fun z M' => z = A_fresh P n F O i ∧ MS P D n F O tl tb fa (u1 (bI n i)) 0 M' ∧ CM M M')) := by
  intro fu
  induction fu with
  | zero => intro s f2 hfu; exact absurd hfu (Nat.not_lt_zero _)
  | succ fu ih =>
    intro s f2 hfu
    have hR := hS.1
    have hn12 := MR.hn hR
    have hP7 := MR.hP hR
    have hD5 := MR.hD hR
    have hR1 : MR P D n F O M1 := by rw [hM1]; exact mr_upF (by decide) (mr_upF (by decide) (mr_upF (by decide) hR))
    have h2P : 2 ^ P ≤ 128 := Nat.pow_le_pow_right (n := 2) (by decide) hP7
    have h2p := Nat.two_pow_pos P
    refine J_iload_n dX7_fresh_21 rfl ?_
    refine J_aload_n dX7_fresh_22 rfl ?_
    refine J_callViQ (cl := mX7_allPoints) [] [(0, ((s : Nat) : Int))] dX7_fresh_23 mlX7_212 cvX7_allPoints rfl rfl rfl rfl rfl (by decide) (Nat.le_of_ble_eq_true rfl) rfl (ev_X7_allPoints P D n F O M1 hR1) ?_
    refine J_icmp_gt (tgt := 52) dX7_fresh_26 rfl (j_R (by omega)) (j_R (ap31 hR1)) (fun h26 => ?_) (fun h26 => ?_)
    ·
      refine J_iload_n dX7_fresh_52 rfl ?_
      refine J_ireturn dX7_fresh_53 rfl ?_
      subst hM1
      exact ⟨by unfold A_fresh bI; rw [if_pos h12, show s = 2 ^ P by omega], by unfold u1 bI; exact ms_ref if01 hS, cm_ref⟩
    ·
      refine J_iload_n dX7_fresh_29 rfl ?_
      refine J_aload_n dX7_fresh_30 rfl ?_
      refine J_iload_n dX7_fresh_31 rfl ?_
      refine J_callViQ (cl := mX7_cellOf) [(0, ((s : Nat) : Int))] [(0, (((cntN s (fun s => decide (fstN n (fun k => sbs s (F (O k))) (-2) = i))) : Nat) : Int))] dX7_fresh_32 mlX7_286 cvX7_cellOf rfl rfl rfl rfl rfl (by decide) (Nat.le_of_ble_eq_true rfl) rfl (ev_X7_cellOf P D n F O M1 hR1 s (by omega)) ?_
      refine J_iload_n dX7_fresh_35 rfl ?_
      refine J_icmp_ne (tgt := 43) dX7_fresh_36 rfl (fstR hR1 _ _) (by omega) (fun h36 => ?_) (fun h36 => ?_)
      ·
        refine J_iconst dX7_fresh_43 ?_
        refine J_iadd dX7_fresh_44 (J_top (v := (((cntN s (fun s => decide (fstN n (fun k => sbs s (F (O k))) (-2) = i))) : Nat) : Int)) (by omega) ?_)
        refine J_istore_n (L' := [(33, 0), (0, i), (0, (((cntN s (fun s => decide (fstN n (fun k => sbs s (F (O k))) (-2) = i))) : Nat) : Int)), (0, ((s : Nat) : Int))]) dX7_fresh_45 (by decide) rfl rfl ?_
        refine J_eq (L' := [(33, 0), (0, i), (0, (((cntN (s + 1) (fun s => decide (fstN n (fun k => sbs s (F (O k))) (-2) = i))) : Nat) : Int)), (0, ((s : Nat) : Int))]) (by rw [cntN_f (k := s) (by simp; omega)]) rfl rfl ?_
        refine J_iinc (v := (((s + 1) : Nat) : Int)) (L' := [(33, 0), (0, i), (0, (((cntN (s + 1) (fun s => decide (fstN n (fun k => sbs s (F (O k))) (-2) = i))) : Nat) : Int)), (0, (((s + 1) : Nat) : Int))]) dX7_fresh_46 rfl (by omega) (by decide) rfl rfl ?_
        refine J_goto (tgt := 21) dX7_fresh_49 rfl ?_
        exact ih _ (by omega) (by omega)
      ·
        refine J_iconst dX7_fresh_39 ?_
        refine J_goto (tgt := 44) dX7_fresh_40 rfl ?_
        refine J_iadd dX7_fresh_44 (J_top (v := ((((cntN s (fun s => decide (fstN n (fun k => sbs s (F (O k))) (-2) = i))) + 1) : Nat) : Int)) (by omega) ?_)
        refine J_istore_n (L' := [(33, 0), (0, i), (0, ((((cntN s (fun s => decide (fstN n (fun k => sbs s (F (O k))) (-2) = i))) + 1) : Nat) : Int)), (0, ((s : Nat) : Int))]) dX7_fresh_45 (by decide) rfl rfl ?_
        refine J_eq (L' := [(33, 0), (0, i), (0, (((cntN (s + 1) (fun s => decide (fstN n (fun k => sbs s (F (O k))) (-2) = i))) : Nat) : Int)), (0, ((s : Nat) : Int))]) (by rw [cntN_t (k := s) (by simp; omega)]) rfl rfl ?_
        refine J_iinc (v := (((s + 1) : Nat) : Int)) (L' := [(33, 0), (0, i), (0, (((cntN (s + 1) (fun s => decide (fstN n (fun k => sbs s (F (O k))) (-2) = i))) : Nat) : Int)), (0, (((s + 1) : Nat) : Int))]) dX7_fresh_46 rfl (by omega) (by decide) rfl rfl ?_
        refine J_goto (tgt := 21) dX7_fresh_49 rfl ?_
        exact ih _ (by omega) (by omega)
set_option maxRecDepth 100000 in
set_option maxHeartbeats 4000000 in
theorem ev_X7_fresh (P D n : Nat) (F O : Nat → Nat) (tl : Nat) (tb : Nat → Nat) (fa tr wh : Int) (M : jM) (hS : MS P D n F O tl tb fa tr wh M) (i : Int) (hi : -2147483648 ≤ i ∧ i < 2147483648) : Ev 2 mX7_fresh [(33, 0), (0, i)] M (fun z M' => z = A_fresh P n F O i ∧ MS P D n F O tl tb fa (u1 (bI n i)) 0 M' ∧ CM M M') := by
  refine Ev_of (by decide +kernel) (Nat.le_of_ble_eq_true rfl) (L := [(33, 0), (0, i), (9, 0), (9, 0)]) rfl ?_
  have hR := hS.1
  have hn12 := MR.hn hR
  have hP7 := MR.hP hR
  have hD5 := MR.hD hR
  refine J_aload_n dX7_fresh_0 rfl ?_
  refine J_aload_n dX7_fresh_1 rfl ?_
  refine J_iload_n dX7_fresh_2 rfl ?_
  refine J_callViQ (cl := mX7_isFacet) [(0, i)] [(33, 0)] dX7_fresh_3 mlX7_231 cvX7_isFacet rfl rfl rfl rfl rfl (by decide) (Nat.le_of_ble_eq_true rfl) rfl (ev_X7_isFacet P D n F O M hR i (by omega)) ?_
  refine J_callSiQ (cl := mX7_unless) [(0, ((Bool.toNat (decide (0 ≤ i ∧ i < (n : Int))) : Nat) : Int))] [(33, 0)] dX7_fresh_6 mlX7_199 csX7_unless rfl rfl (by decide) (Nat.le_of_ble_eq_true rfl) rfl (ev_X7_unless (decide (0 ≤ i ∧ i < (n : Int))) M) ?_
  refine J_callViQ (cl := mX7_isRefused) [(0, (if (decide (0 ≤ i ∧ i < (n : Int))) = true then 0 else 1))] [] dX7_fresh_9 mlX7_159 cvX7_isRefused rfl rfl rfl rfl rfl (by decide) (Nat.le_of_ble_eq_true rfl) rfl (ev_X7_isRefused (if (decide (0 ≤ i ∧ i < (n : Int))) = true then 0 else 1) (ifR _ (by decide) (by decide)) M) (J_top (v := ((Bool.toNat (!(decide (0 ≤ i ∧ i < (n : Int)))) : Nat) : Int)) (rf_un _) ?_)
  refine J_ifn_eq (b := (decide (0 ≤ i ∧ i < (n : Int)))) (tgt := 17) dX7_fresh_12 rfl (fun h12 => ?_) (fun h12 => ?_)
  ·
    refine J_iconst dX7_fresh_17 ?_
    refine J_istore_n (L' := [(33, 0), (0, i), (0, 0), (9, 0)]) dX7_fresh_18 (by decide) rfl rfl ?_
    refine J_iconst dX7_fresh_19 ?_
    refine J_istore_n (L' := [(33, 0), (0, i), (0, 0), (0, 0)]) dX7_fresh_20 (by decide) rfl rfl ?_
    refine J_eq (L' := [(33, 0), (0, i), (0, ((0 : Nat) : Int)), (0, ((0 : Nat) : Int))]) rfl rfl rfl ?_
    exact ev_X7_fresh_L21 P D n F O tl tb fa tr wh M hS i hi _ rfl h12 _ _ (by exact Nat.zero_le _) (Nat.lt_succ_self _)
  ·
    refine J_iconst dX7_fresh_15 ?_
    refine J_ireturn dX7_fresh_16 rfl ?_
    exact ⟨by unfold A_fresh bI; rw [h12]; rfl, by unfold u1 bI; exact ms_ref if01 hS, cm_ref⟩
set_option maxRecDepth 100000 in
set_option maxHeartbeats 4000000 in
theorem ev_X7_unparted_L20 (P D n : Nat) (F O : Nat → Nat) (tl : Nat) (tb : Nat → Nat) (fa tr wh : Int) (M : jM) (hS : MS P D n F O tl tb fa tr wh M) (M1 : jM) (hM1 : M1 = (j_up (j_up (j_up M 23 0 0) 23 3 (-1)) 23 1 (if decide (0 < n) = true then 0 else 1))) (h11 : decide (0 < n) = true) : ∀ (fu : Nat) (s : Nat) (f2 : s ≤ 2 ^ P) (hfu : 2 ^ P - s < fu), J none 3 mX7_unparted 20 [(33, 0), (0, (((cntN s (fun s => decide (¬ lyg n F s = 0) && decide (¬ cntN n (fun k => sbs s (F (O k)) && sbs (rst F O k) s) = 1))) : Nat) : Int)), (0, ((s : Nat) : Int))] [] M1 (j_ret mX7_unparted (fun z M' => z = A_unparted P n F O ∧ MS P D n F O tl tb fa (u1 (bT n)) 0 M' ∧ CM M M')) := by
  intro fu
  induction fu with
  | zero => intro s f2 hfu; exact absurd hfu (Nat.not_lt_zero _)
  | succ fu ih =>
    intro s f2 hfu
    have hR := hS.1
    have hn12 := MR.hn hR
    have hP7 := MR.hP hR
    have hD5 := MR.hD hR
    have hR1 : MR P D n F O M1 := by rw [hM1]; exact mr_upF (by decide) (mr_upF (by decide) (mr_upF (by decide) hR))
    have h2P : 2 ^ P ≤ 128 := Nat.pow_le_pow_right (n := 2) (by decide) hP7
    have h2p := Nat.two_pow_pos P
    refine J_iload_n dX7_unparted_20 rfl ?_
    refine J_aload_n dX7_unparted_21 rfl ?_
    refine J_callViQ (cl := mX7_allPoints) [] [(0, ((s : Nat) : Int))] dX7_unparted_22 mlX7_212 cvX7_allPoints rfl rfl rfl rfl rfl (by decide) (Nat.le_of_ble_eq_true rfl) rfl (ev_X7_allPoints P D n F O M1 hR1) ?_
    refine J_icmp_gt (tgt := 59) dX7_unparted_25 rfl (j_R (by omega)) (j_R (ap31 hR1)) (fun h25 => ?_) (fun h25 => ?_)
    ·
      refine J_iload_n dX7_unparted_59 rfl ?_
      refine J_ireturn dX7_unparted_60 rfl ?_
      subst hM1
      exact ⟨by unfold A_unparted bT; rw [if_pos h11, show s = 2 ^ P by omega], by unfold u1 bT; exact ms_ref if01 hS, cm_ref⟩
    ·
      refine J_iload_n dX7_unparted_28 rfl ?_
      refine J_aload_n dX7_unparted_29 rfl ?_
      refine J_iload_n dX7_unparted_30 rfl ?_
      refine J_callViQ (cl := mX7_withinOf) [(0, ((s : Nat) : Int))] [(0, (((cntN s (fun s => decide (¬ lyg n F s = 0) && decide (¬ cntN n (fun k => sbs s (F (O k)) && sbs (rst F O k) s) = 1))) : Nat) : Int))] dX7_unparted_31 mlX7_237 cvX7_withinOf rfl rfl rfl rfl rfl (by decide) (Nat.le_of_ble_eq_true rfl) rfl (ev_X7_withinOf P D n F O M1 hR1 s (by omega)) ?_
      refine J_if_eq (tgt := 50) dX7_unparted_34 rfl (j_R (ly31 hR1 _)) (fun h34 => ?_) (fun h34 => ?_)
      ·
        refine J_iconst dX7_unparted_50 ?_
        refine J_iadd dX7_unparted_51 (J_top (v := (((cntN s (fun s => decide (¬ lyg n F s = 0) && decide (¬ cntN n (fun k => sbs s (F (O k)) && sbs (rst F O k) s) = 1))) : Nat) : Int)) (by omega) ?_)
        refine J_istore_n (L' := [(33, 0), (0, (((cntN s (fun s => decide (¬ lyg n F s = 0) && decide (¬ cntN n (fun k => sbs s (F (O k)) && sbs (rst F O k) s) = 1))) : Nat) : Int)), (0, ((s : Nat) : Int))]) dX7_unparted_52 (by decide) rfl rfl ?_
        refine J_eq (L' := [(33, 0), (0, (((cntN (s + 1) (fun s => decide (¬ lyg n F s = 0) && decide (¬ cntN n (fun k => sbs s (F (O k)) && sbs (rst F O k) s) = 1))) : Nat) : Int)), (0, ((s : Nat) : Int))]) (by rw [cntN_f (k := s) (by rw [Bool.and_eq_false_iff]; left; exact decide_eq_false (by omega))]) rfl rfl ?_
        refine J_iinc (v := (((s + 1) : Nat) : Int)) (L' := [(33, 0), (0, (((cntN (s + 1) (fun s => decide (¬ lyg n F s = 0) && decide (¬ cntN n (fun k => sbs s (F (O k)) && sbs (rst F O k) s) = 1))) : Nat) : Int)), (0, (((s + 1) : Nat) : Int))]) dX7_unparted_53 rfl (by omega) (by decide) rfl rfl ?_
        refine J_goto (tgt := 20) dX7_unparted_56 rfl ?_
        exact ih _ (by omega) (by omega)
      ·
        refine J_aload_n dX7_unparted_37 rfl ?_
        refine J_iload_n dX7_unparted_38 rfl ?_
        refine J_callViQ (cl := mX7_betweenOf) [(0, ((s : Nat) : Int))] [(0, (((cntN s (fun s => decide (¬ lyg n F s = 0) && decide (¬ cntN n (fun k => sbs s (F (O k)) && sbs (rst F O k) s) = 1))) : Nat) : Int))] dX7_unparted_39 mlX7_289 cvX7_betweenOf rfl rfl rfl rfl rfl (by decide) (Nat.le_of_ble_eq_true rfl) rfl (ev_X7_betweenOf P D n F O M1 hR1 s (by omega)) ?_
        refine J_iconst dX7_unparted_42 ?_
        refine J_icmp_eq (tgt := 50) dX7_unparted_43 rfl (j_R (cnt31 hR1 _)) (by decide) (fun h43 => ?_) (fun h43 => ?_)
        ·
          refine J_iconst dX7_unparted_50 ?_
          refine J_iadd dX7_unparted_51 (J_top (v := (((cntN s (fun s => decide (¬ lyg n F s = 0) && decide (¬ cntN n (fun k => sbs s (F (O k)) && sbs (rst F O k) s) = 1))) : Nat) : Int)) (by omega) ?_)
          refine J_istore_n (L' := [(33, 0), (0, (((cntN s (fun s => decide (¬ lyg n F s = 0) && decide (¬ cntN n (fun k => sbs s (F (O k)) && sbs (rst F O k) s) = 1))) : Nat) : Int)), (0, ((s : Nat) : Int))]) dX7_unparted_52 (by decide) rfl rfl ?_
          refine J_eq (L' := [(33, 0), (0, (((cntN (s + 1) (fun s => decide (¬ lyg n F s = 0) && decide (¬ cntN n (fun k => sbs s (F (O k)) && sbs (rst F O k) s) = 1))) : Nat) : Int)), (0, ((s : Nat) : Int))]) (by rw [cntN_f (k := s) (by rw [Bool.and_eq_false_iff]; right; exact decide_eq_false (by omega))]) rfl rfl ?_
          refine J_iinc (v := (((s + 1) : Nat) : Int)) (L' := [(33, 0), (0, (((cntN (s + 1) (fun s => decide (¬ lyg n F s = 0) && decide (¬ cntN n (fun k => sbs s (F (O k)) && sbs (rst F O k) s) = 1))) : Nat) : Int)), (0, (((s + 1) : Nat) : Int))]) dX7_unparted_53 rfl (by omega) (by decide) rfl rfl ?_
          refine J_goto (tgt := 20) dX7_unparted_56 rfl ?_
          exact ih _ (by omega) (by omega)
        ·
          refine J_iconst dX7_unparted_46 ?_
          refine J_goto (tgt := 51) dX7_unparted_47 rfl ?_
          refine J_iadd dX7_unparted_51 (J_top (v := ((((cntN s (fun s => decide (¬ lyg n F s = 0) && decide (¬ cntN n (fun k => sbs s (F (O k)) && sbs (rst F O k) s) = 1))) + 1) : Nat) : Int)) (by omega) ?_)
          refine J_istore_n (L' := [(33, 0), (0, ((((cntN s (fun s => decide (¬ lyg n F s = 0) && decide (¬ cntN n (fun k => sbs s (F (O k)) && sbs (rst F O k) s) = 1))) + 1) : Nat) : Int)), (0, ((s : Nat) : Int))]) dX7_unparted_52 (by decide) rfl rfl ?_
          refine J_eq (L' := [(33, 0), (0, (((cntN (s + 1) (fun s => decide (¬ lyg n F s = 0) && decide (¬ cntN n (fun k => sbs s (F (O k)) && sbs (rst F O k) s) = 1))) : Nat) : Int)), (0, ((s : Nat) : Int))]) (by rw [cntN_t (k := s) (by rw [decide_eq_true (by omega), decide_eq_true (by omega)]; rfl)]) rfl rfl ?_
          refine J_iinc (v := (((s + 1) : Nat) : Int)) (L' := [(33, 0), (0, (((cntN (s + 1) (fun s => decide (¬ lyg n F s = 0) && decide (¬ cntN n (fun k => sbs s (F (O k)) && sbs (rst F O k) s) = 1))) : Nat) : Int)), (0, (((s + 1) : Nat) : Int))]) dX7_unparted_53 rfl (by omega) (by decide) rfl rfl ?_
          refine J_goto (tgt := 20) dX7_unparted_56 rfl ?_
          exact ih _ (by omega) (by omega)
set_option maxRecDepth 100000 in
set_option maxHeartbeats 4000000 in
theorem ev_X7_unparted (P D n : Nat) (F O : Nat → Nat) (tl : Nat) (tb : Nat → Nat) (fa tr wh : Int) (M : jM) (hS : MS P D n F O tl tb fa tr wh M) : Ev 3 mX7_unparted [(33, 0)] M (fun z M' => z = A_unparted P n F O ∧ MS P D n F O tl tb fa (u1 (bT n)) 0 M' ∧ CM M M') := by
  refine Ev_of (by decide +kernel) (Nat.le_of_ble_eq_true rfl) (L := [(33, 0), (9, 0), (9, 0)]) rfl ?_
  have hR := hS.1
  have hn12 := MR.hn hR
  have hP7 := MR.hP hR
  have hD5 := MR.hD hR
  refine J_aload_n dX7_unparted_0 rfl ?_
  refine J_aload_n dX7_unparted_1 rfl ?_
  refine J_getI dX7_unparted_2 flX7_179 rfl rfl (J_top (v := ((Bool.toNat (decide (0 < n)) : Nat) : Int)) (MR.gt hR) ?_)
  refine J_callSiQ (cl := mX7_unless) [(0, ((Bool.toNat (decide (0 < n)) : Nat) : Int))] [(33, 0)] dX7_unparted_5 mlX7_199 csX7_unless rfl rfl (by decide) (Nat.le_of_ble_eq_true rfl) rfl (ev_X7_unless (decide (0 < n)) M) ?_
  refine J_callViQ (cl := mX7_isRefused) [(0, (if (decide (0 < n)) = true then 0 else 1))] [] dX7_unparted_8 mlX7_159 cvX7_isRefused rfl rfl rfl rfl rfl (by decide) (Nat.le_of_ble_eq_true rfl) rfl (ev_X7_isRefused (if (decide (0 < n)) = true then 0 else 1) (ifR _ (by decide) (by decide)) M) (J_top (v := ((Bool.toNat (!(decide (0 < n))) : Nat) : Int)) (rf_un _) ?_)
  refine J_ifn_eq (b := (decide (0 < n))) (tgt := 16) dX7_unparted_11 rfl (fun h11 => ?_) (fun h11 => ?_)
  ·
    refine J_iconst dX7_unparted_16 ?_
    refine J_istore_n (L' := [(33, 0), (0, 0), (9, 0)]) dX7_unparted_17 (by decide) rfl rfl ?_
    refine J_iconst dX7_unparted_18 ?_
    refine J_istore_n (L' := [(33, 0), (0, 0), (0, 0)]) dX7_unparted_19 (by decide) rfl rfl ?_
    refine J_eq (L' := [(33, 0), (0, ((0 : Nat) : Int)), (0, ((0 : Nat) : Int))]) rfl rfl rfl ?_
    exact ev_X7_unparted_L20 P D n F O tl tb fa tr wh M hS _ rfl h11 _ _ (by exact Nat.zero_le _) (Nat.lt_succ_self _)
  ·
    refine J_iconst dX7_unparted_14 ?_
    refine J_ireturn dX7_unparted_15 rfl ?_
    exact ⟨by unfold A_unparted bT; rw [h11]; rfl, by unfold u1 bT; exact ms_ref if01 hS, cm_ref⟩
set_option maxRecDepth 100000 in
set_option maxHeartbeats 4000000 in
theorem ev_X7_apart_L64 (P D n : Nat) (F O : Nat → Nat) (tl : Nat) (tb : Nat → Nat) (fa tr wh : Int) (M : jM) (hS : MS P D n F O tl tb fa tr wh M) (i : Int) (hi : -2147483648 ≤ i ∧ i < 2147483648) (j : Int) (hj : -2147483648 ≤ j ∧ j < 2147483648) (M1 : jM) (hM1 : M1 = (j_up (j_up (j_up M 23 0 0) 23 3 (-1)) 23 1 (if true = true then 0 else 1))) (h6 : decide (0 ≤ i ∧ i < (n : Int)) = true) (h14 : decide (0 ≤ j ∧ j < (n : Int)) = true) (t : Nat) (K0 : J none 3 mX7_apart 103 [(33, 0), (0, (((Int.toNat i) : Nat) : Int)), (0, (((Int.toNat j) : Nat) : Int)), (0, (((apT D n F (Int.toNat i) t) : Nat) : Int)), (0, ((t : Nat) : Int)), (0, (((apW D n F (apT D n F (Int.toNat i) t) n) : Nat) : Int)), (9, 0)] [] M1 (j_ret mX7_apart (fun z M' => z = A_apart D n F i j ∧ MS P D n F O tl tb fa (u1 (bI n i && bI n j)) 0 M' ∧ CM M M'))) : ∀ (fu : Nat) (k : Nat) (g1 : k ≤ n) (hfu : n - k < fu), J none 3 mX7_apart 64 [(33, 0), (0, (((Int.toNat i) : Nat) : Int)), (0, (((Int.toNat j) : Nat) : Int)), (0, (((apT D n F (Int.toNat i) t) : Nat) : Int)), (0, ((t : Nat) : Int)), (0, (((apW D n F (apT D n F (Int.toNat i) t) k) : Nat) : Int)), (0, ((k : Nat) : Int))] [] M1 (j_ret mX7_apart (fun z M' => z = A_apart D n F i j ∧ MS P D n F O tl tb fa (u1 (bI n i && bI n j)) 0 M' ∧ CM M M')) := by
  intro fu
  induction fu with
  | zero => intro k g1 hfu; exact absurd hfu (Nat.not_lt_zero _)
  | succ fu ih =>
    intro k g1 hfu
    have hR := hS.1
    have hn12 := MR.hn hR
    have hP7 := MR.hP hR
    have hD5 := MR.hD hR
    have hR1 : MR P D n F O M1 := by rw [hM1]; exact mr_upF (by decide) (mr_upF (by decide) (mr_upF (by decide) hR))
    have hi2 : Int.toNat i < n := by have := of_decide_eq_true h6; omega
    have hj2 : Int.toNat j < n := by have := of_decide_eq_true h14; omega
    refine J_iload dX7_apart_64 rfl ?_
    refine J_aload_n dX7_apart_66 rfl ?_
    refine J_getI dX7_apart_67 flX7_176 rfl rfl (J_top (v := ((n : Nat) : Int)) (MR.gn hR1) ?_)
    refine J_icmp_ge (tgt := 103) dX7_apart_70 rfl (j_R (by omega)) (j_R (by omega)) (fun h70 => ?_) (fun h70 => ?_)
    ·
      refine J_eq (L' := [(33, 0), (0, (((Int.toNat i) : Nat) : Int)), (0, (((Int.toNat j) : Nat) : Int)), (0, (((apT D n F (Int.toNat i) t) : Nat) : Int)), (0, ((t : Nat) : Int)), (0, (((apW D n F (apT D n F (Int.toNat i) t) n) : Nat) : Int)), (0, ((k : Nat) : Int))]) (by rw [show k = n by omega]) rfl rfl ?_
      refine J_unset 6 (L' := [(33, 0), (0, (((Int.toNat i) : Nat) : Int)), (0, (((Int.toNat j) : Nat) : Int)), (0, (((apT D n F (Int.toNat i) t) : Nat) : Int)), (0, ((t : Nat) : Int)), (0, (((apW D n F (apT D n F (Int.toNat i) t) n) : Nat) : Int)), (9, 0)]) rfl ?_
      exact K0  
    ·
      refine J_iload dX7_apart_73 rfl ?_
      refine J_iload_n dX7_apart_75 rfl ?_
      refine J_iload dX7_apart_76 rfl ?_
      refine J_callSiQ (cl := mX7_has) [(0, (((apT D n F (Int.toNat i) t) : Nat) : Int)), (0, ((k : Nat) : Int))] [(0, (((apW D n F (apT D n F (Int.toNat i) t) k) : Nat) : Int))] dX7_apart_78 mlX7_132 csX7_has rfl rfl (by decide) (Nat.le_of_ble_eq_true rfl) rfl (ev_X7_has (apT D n F (Int.toNat i) t) k (apT31 hn12 (by omega) t) (by omega) M1) ?_
      refine J_ifb_eq (tgt := 93) dX7_apart_81 rfl (fun h81 => ?_) (fun h81 => ?_)
      ·
        refine J_iconst dX7_apart_93 ?_
        refine J_ior dX7_apart_94 (J_top (v := (((apW D n F (apT D n F (Int.toNat i) t) k) : Nat) : Int)) (j_or0 rfl (apW31 hn12 (apT31 hn12 (by omega) t) k)) ?_)
        refine J_istore (L' := [(33, 0), (0, (((Int.toNat i) : Nat) : Int)), (0, (((Int.toNat j) : Nat) : Int)), (0, (((apT D n F (Int.toNat i) t) : Nat) : Int)), (0, ((t : Nat) : Int)), (0, (((apW D n F (apT D n F (Int.toNat i) t) k) : Nat) : Int)), (0, ((k : Nat) : Int))]) dX7_apart_95 (by decide) rfl rfl ?_
        refine J_eq (L' := [(33, 0), (0, (((Int.toNat i) : Nat) : Int)), (0, (((Int.toNat j) : Nat) : Int)), (0, (((apT D n F (Int.toNat i) t) : Nat) : Int)), (0, ((t : Nat) : Int)), (0, (((apW D n F (apT D n F (Int.toNat i) t) (k + 1)) : Nat) : Int)), (0, ((k : Nat) : Int))]) (by simp only [apW]; rw [h81, if_neg (by decide), Nat.or_zero]) rfl rfl ?_
        refine J_iinc (v := (((k + 1) : Nat) : Int)) (L' := [(33, 0), (0, (((Int.toNat i) : Nat) : Int)), (0, (((Int.toNat j) : Nat) : Int)), (0, (((apT D n F (Int.toNat i) t) : Nat) : Int)), (0, ((t : Nat) : Int)), (0, (((apW D n F (apT D n F (Int.toNat i) t) (k + 1)) : Nat) : Int)), (0, (((k + 1) : Nat) : Int))]) dX7_apart_97 rfl (by omega) (by decide) rfl rfl ?_
        refine J_goto (tgt := 64) dX7_apart_100 rfl ?_
        exact ih _ (by omega) (by omega)
      ·
        refine J_aload_n dX7_apart_84 rfl ?_
        refine J_iload dX7_apart_85 rfl ?_
        refine J_callViQ (cl := mX7_nearTo) [(0, ((k : Nat) : Int))] [(0, (((apW D n F (apT D n F (Int.toNat i) t) k) : Nat) : Int))] dX7_apart_87 mlX7_256 cvX7_nearTo rfl rfl rfl rfl rfl (by decide) (Nat.le_of_ble_eq_true rfl) rfl (ev_X7_nearTo P D n F O M1 hR1 k (by omega)) ?_
        refine J_goto (tgt := 94) dX7_apart_90 rfl ?_
        refine J_ior dX7_apart_94 (J_top (v := ((((apW D n F (apT D n F (Int.toNat i) t) k) ||| (mskN n (nrB F D k))) : Nat) : Int)) (j_orN rfl rfl (apW31 hn12 (apT31 hn12 (by omega) t) k) (mskN_31 (by omega))) ?_)
        refine J_istore (L' := [(33, 0), (0, (((Int.toNat i) : Nat) : Int)), (0, (((Int.toNat j) : Nat) : Int)), (0, (((apT D n F (Int.toNat i) t) : Nat) : Int)), (0, ((t : Nat) : Int)), (0, ((((apW D n F (apT D n F (Int.toNat i) t) k) ||| (mskN n (nrB F D k))) : Nat) : Int)), (0, ((k : Nat) : Int))]) dX7_apart_95 (by decide) rfl rfl ?_
        refine J_eq (L' := [(33, 0), (0, (((Int.toNat i) : Nat) : Int)), (0, (((Int.toNat j) : Nat) : Int)), (0, (((apT D n F (Int.toNat i) t) : Nat) : Int)), (0, ((t : Nat) : Int)), (0, (((apW D n F (apT D n F (Int.toNat i) t) (k + 1)) : Nat) : Int)), (0, ((k : Nat) : Int))]) (by simp only [apW]; rw [if_pos h81]) rfl rfl ?_
        refine J_iinc (v := (((k + 1) : Nat) : Int)) (L' := [(33, 0), (0, (((Int.toNat i) : Nat) : Int)), (0, (((Int.toNat j) : Nat) : Int)), (0, (((apT D n F (Int.toNat i) t) : Nat) : Int)), (0, ((t : Nat) : Int)), (0, (((apW D n F (apT D n F (Int.toNat i) t) (k + 1)) : Nat) : Int)), (0, (((k + 1) : Nat) : Int))]) dX7_apart_97 rfl (by omega) (by decide) rfl rfl ?_
        refine J_goto (tgt := 64) dX7_apart_100 rfl ?_
        exact ih _ (by omega) (by omega)
set_option maxRecDepth 100000 in
set_option maxHeartbeats 4000000 in
theorem ev_X7_apart_L40 (P D n : Nat) (F O : Nat → Nat) (tl : Nat) (tb : Nat → Nat) (fa tr wh : Int) (M : jM) (hS : MS P D n F O tl tb fa tr wh M) (i : Int) (hi : -2147483648 ≤ i ∧ i < 2147483648) (j : Int) (hj : -2147483648 ≤ j ∧ j < 2147483648) (M1 : jM) (hM1 : M1 = (j_up (j_up (j_up M 23 0 0) 23 3 (-1)) 23 1 (if true = true then 0 else 1))) (h6 : decide (0 ≤ i ∧ i < (n : Int)) = true) (h14 : decide (0 ≤ j ∧ j < (n : Int)) = true) : ∀ (fu : Nat) (t : Nat) (f1 : anyN t (fun t => (apT D n F (Int.toNat i) t).testBit (Int.toNat j)) = false) (f2 : t ≤ 12) (hfu : 12 - t < fu), J none 3 mX7_apart 40 [(33, 0), (0, (((Int.toNat i) : Nat) : Int)), (0, (((Int.toNat j) : Nat) : Int)), (0, (((apT D n F (Int.toNat i) t) : Nat) : Int)), (0, ((t : Nat) : Int)), (9, 0), (9, 0)] [] M1 (j_ret mX7_apart (fun z M' => z = A_apart D n F i j ∧ MS P D n F O tl tb fa (u1 (bI n i && bI n j)) 0 M' ∧ CM M M')) := by
  intro fu
  induction fu with
  | zero => intro t f1 f2 hfu; exact absurd hfu (Nat.not_lt_zero _)
  | succ fu ih =>
    intro t f1 f2 hfu
    have hR := hS.1
    have hn12 := MR.hn hR
    have hP7 := MR.hP hR
    have hD5 := MR.hD hR
    have hR1 : MR P D n F O M1 := by rw [hM1]; exact mr_upF (by decide) (mr_upF (by decide) (mr_upF (by decide) hR))
    have hi2 : Int.toNat i < n := by have := of_decide_eq_true h6; omega
    have hj2 : Int.toNat j < n := by have := of_decide_eq_true h14; omega
    refine J_iload dX7_apart_40 rfl ?_
    refine J_bipush dX7_apart_42 (by decide) ?_
    refine J_icmp_ge (tgt := 112) dX7_apart_44 rfl (j_R (by omega)) (by decide) (fun h44 => ?_) (fun h44 => ?_)
    ·
      refine J_bipush dX7_apart_112 (by decide) ?_
      refine J_ireturn dX7_apart_114 rfl ?_
      subst hM1
      refine ⟨by unfold A_apart bI; rw [if_pos (by rw [h6, h14]; rfl), fstN_none (by rw [show 12 = t by omega]; exact f1)], ?_, cm_ref⟩
      unfold bI; rw [h6, h14]; exact ms_ref (by decide) hS
    ·
      refine J_iload_n dX7_apart_47 rfl ?_
      refine J_iload_n dX7_apart_48 rfl ?_
      refine J_callSiQ (cl := mX7_has) [(0, (((apT D n F (Int.toNat i) t) : Nat) : Int)), (0, (((Int.toNat j) : Nat) : Int))] [] dX7_apart_49 mlX7_132 csX7_has rfl rfl (by decide) (Nat.le_of_ble_eq_true rfl) rfl (ev_X7_has (apT D n F (Int.toNat i) t) (Int.toNat j) (apT31 hn12 (by omega) t) (by omega) M1) ?_
      refine J_ifb_eq (tgt := 58) dX7_apart_52 rfl (fun h52 => ?_) (fun h52 => ?_)
      ·
        refine J_iload_n dX7_apart_58 rfl ?_
        refine J_istore (L' := [(33, 0), (0, (((Int.toNat i) : Nat) : Int)), (0, (((Int.toNat j) : Nat) : Int)), (0, (((apT D n F (Int.toNat i) t) : Nat) : Int)), (0, ((t : Nat) : Int)), (0, (((apT D n F (Int.toNat i) t) : Nat) : Int)), (9, 0)]) dX7_apart_59 (by decide) rfl rfl ?_
        refine J_iconst dX7_apart_61 ?_
        refine J_istore (L' := [(33, 0), (0, (((Int.toNat i) : Nat) : Int)), (0, (((Int.toNat j) : Nat) : Int)), (0, (((apT D n F (Int.toNat i) t) : Nat) : Int)), (0, ((t : Nat) : Int)), (0, (((apT D n F (Int.toNat i) t) : Nat) : Int)), (0, 0)]) dX7_apart_62 (by decide) rfl rfl ?_
        refine J_eq (L' := [(33, 0), (0, (((Int.toNat i) : Nat) : Int)), (0, (((Int.toNat j) : Nat) : Int)), (0, (((apT D n F (Int.toNat i) t) : Nat) : Int)), (0, ((t : Nat) : Int)), (0, (((apT D n F (Int.toNat i) t) : Nat) : Int)), (0, ((0 : Nat) : Int))]) rfl rfl rfl ?_
        refine ev_X7_apart_L64 P D n F O tl tb fa tr wh M hS i hi j hj M1 hM1 h6 h14 t ?_ _ _ (by omega) (Nat.lt_succ_self _)
        ·
          refine J_iload dX7_apart_103 rfl ?_
          refine J_istore_n (L' := [(33, 0), (0, (((Int.toNat i) : Nat) : Int)), (0, (((Int.toNat j) : Nat) : Int)), (0, (((apW D n F (apT D n F (Int.toNat i) t) n) : Nat) : Int)), (0, ((t : Nat) : Int)), (0, (((apW D n F (apT D n F (Int.toNat i) t) n) : Nat) : Int)), (9, 0)]) dX7_apart_105 (by decide) rfl rfl ?_
          refine J_eq (L' := [(33, 0), (0, (((Int.toNat i) : Nat) : Int)), (0, (((Int.toNat j) : Nat) : Int)), (0, (((apT D n F (Int.toNat i) (t + 1)) : Nat) : Int)), (0, ((t : Nat) : Int)), (0, (((apW D n F (apT D n F (Int.toNat i) t) n) : Nat) : Int)), (9, 0)]) rfl rfl rfl ?_
          refine J_iinc (v := (((t + 1) : Nat) : Int)) (L' := [(33, 0), (0, (((Int.toNat i) : Nat) : Int)), (0, (((Int.toNat j) : Nat) : Int)), (0, (((apT D n F (Int.toNat i) (t + 1)) : Nat) : Int)), (0, (((t + 1) : Nat) : Int)), (0, (((apW D n F (apT D n F (Int.toNat i) t) n) : Nat) : Int)), (9, 0)]) dX7_apart_106 rfl (by omega) (by decide) rfl rfl ?_
          refine J_goto (tgt := 40) dX7_apart_109 rfl ?_
          refine J_unset 5 (L' := [(33, 0), (0, (((Int.toNat i) : Nat) : Int)), (0, (((Int.toNat j) : Nat) : Int)), (0, (((apT D n F (Int.toNat i) (t + 1)) : Nat) : Int)), (0, (((t + 1) : Nat) : Int)), (9, 0), (9, 0)]) rfl ?_
          exact ih _ (by rw [anyN_f (by exact h52), f1]) (by omega) (by omega)
      ·
        refine J_iload dX7_apart_55 rfl ?_
        refine J_ireturn dX7_apart_57 rfl ?_
        subst hM1
        refine ⟨by unfold A_apart bI; rw [if_pos (by rw [h6, h14]; rfl), fstN_hit f1 h52 (by omega)], ?_, cm_ref⟩
        unfold bI; rw [h6, h14]; exact ms_ref (by decide) hS
set_option maxRecDepth 100000 in
set_option maxHeartbeats 4000000 in
theorem ev_X7_apart (P D n : Nat) (F O : Nat → Nat) (tl : Nat) (tb : Nat → Nat) (fa tr wh : Int) (M : jM) (hS : MS P D n F O tl tb fa tr wh M) (i : Int) (hi : -2147483648 ≤ i ∧ i < 2147483648) (j : Int) (hj : -2147483648 ≤ j ∧ j < 2147483648) : Ev 3 mX7_apart [(33, 0), (0, i), (0, j)] M (fun z M' => z = A_apart D n F i j ∧ MS P D n F O tl tb fa (u1 (bI n i && bI n j)) 0 M' ∧ CM M M') := by
  refine Ev_of (by decide +kernel) (Nat.le_of_ble_eq_true rfl) (L := [(33, 0), (0, i), (0, j), (9, 0), (9, 0), (9, 0), (9, 0)]) rfl ?_
  have hR := hS.1
  have hn12 := MR.hn hR
  have hP7 := MR.hP hR
  have hD5 := MR.hD hR
  refine J_aload_n dX7_apart_0 rfl ?_
  refine J_aload_n dX7_apart_1 rfl ?_
  refine J_iload_n dX7_apart_2 rfl ?_
  refine J_callViQ (cl := mX7_isFacet) [(0, i)] [(33, 0)] dX7_apart_3 mlX7_231 cvX7_isFacet rfl rfl rfl rfl rfl (by decide) (Nat.le_of_ble_eq_true rfl) rfl (ev_X7_isFacet P D n F O M hR i (by omega)) ?_
  refine J_ifb_eq (tgt := 21) dX7_apart_6 rfl (fun h6 => ?_) (fun h6 => ?_)
  ·
    refine J_iconst dX7_apart_21 ?_
    refine J_callSiQ (cl := mX7_unless) [(0, ((Bool.toNat (false) : Nat) : Int))] [(33, 0)] dX7_apart_22 mlX7_199 csX7_unless rfl rfl (by decide) (Nat.le_of_ble_eq_true rfl) rfl (ev_X7_unless (false) M) ?_
    refine J_callViQ (cl := mX7_isRefused) [(0, (if (false) = true then 0 else 1))] [] dX7_apart_25 mlX7_159 cvX7_isRefused rfl rfl rfl rfl rfl (by decide) (Nat.le_of_ble_eq_true rfl) rfl (ev_X7_isRefused (if (false) = true then 0 else 1) (ifR _ (by decide) (by decide)) M) (J_top (v := ((Bool.toNat (!(false)) : Nat) : Int)) (rf_un _) ?_)
    refine J_ifn_eq (b := (false)) (tgt := 33) dX7_apart_28 rfl (fun h28 => ?_) (fun h28 => ?_)
    · exact absurd h28 (by decide)
    ·
      refine J_iconst dX7_apart_31 ?_
      refine J_ireturn dX7_apart_32 rfl ?_
      refine ⟨by unfold A_apart bI; rw [h6]; rfl, ?_, cm_ref⟩
      rw [u1_f (by unfold bI; rw [h6, Bool.false_and])]; exact ms_rfE rfl (by decide) hS
  ·
    refine J_aload_n dX7_apart_9 rfl ?_
    refine J_iload_n dX7_apart_10 rfl ?_
    refine J_callViQ (cl := mX7_isFacet) [(0, j)] [(33, 0)] dX7_apart_11 mlX7_231 cvX7_isFacet rfl rfl rfl rfl rfl (by decide) (Nat.le_of_ble_eq_true rfl) rfl (ev_X7_isFacet P D n F O M hR j (by omega)) ?_
    refine J_ifb_eq (tgt := 21) dX7_apart_14 rfl (fun h14 => ?_) (fun h14 => ?_)
    ·
      refine J_iconst dX7_apart_21 ?_
      refine J_callSiQ (cl := mX7_unless) [(0, ((Bool.toNat (false) : Nat) : Int))] [(33, 0)] dX7_apart_22 mlX7_199 csX7_unless rfl rfl (by decide) (Nat.le_of_ble_eq_true rfl) rfl (ev_X7_unless (false) M) ?_
      refine J_callViQ (cl := mX7_isRefused) [(0, (if (false) = true then 0 else 1))] [] dX7_apart_25 mlX7_159 cvX7_isRefused rfl rfl rfl rfl rfl (by decide) (Nat.le_of_ble_eq_true rfl) rfl (ev_X7_isRefused (if (false) = true then 0 else 1) (ifR _ (by decide) (by decide)) M) (J_top (v := ((Bool.toNat (!(false)) : Nat) : Int)) (rf_un _) ?_)
      refine J_ifn_eq (b := (false)) (tgt := 33) dX7_apart_28 rfl (fun h28 => ?_) (fun h28 => ?_)
      · exact absurd h28 (by decide)
      ·
        refine J_iconst dX7_apart_31 ?_
        refine J_ireturn dX7_apart_32 rfl ?_
        refine ⟨by unfold A_apart bI; rw [h14, Bool.and_false]; rfl, ?_, cm_ref⟩
        rw [u1_f (by unfold bI; rw [h14, Bool.and_false])]; exact ms_rfE rfl (by decide) hS
    ·
      refine J_iconst dX7_apart_17 ?_
      refine J_goto (tgt := 22) dX7_apart_18 rfl ?_
      refine J_callSiQ (cl := mX7_unless) [(0, ((Bool.toNat (true) : Nat) : Int))] [(33, 0)] dX7_apart_22 mlX7_199 csX7_unless rfl rfl (by decide) (Nat.le_of_ble_eq_true rfl) rfl (ev_X7_unless (true) M) ?_
      refine J_callViQ (cl := mX7_isRefused) [(0, (if (true) = true then 0 else 1))] [] dX7_apart_25 mlX7_159 cvX7_isRefused rfl rfl rfl rfl rfl (by decide) (Nat.le_of_ble_eq_true rfl) rfl (ev_X7_isRefused (if (true) = true then 0 else 1) (ifR _ (by decide) (by decide)) M) (J_top (v := ((Bool.toNat (!(true)) : Nat) : Int)) (rf_un _) ?_)
      refine J_ifn_eq (b := (true)) (tgt := 33) dX7_apart_28 rfl (fun h28 => ?_) (fun h28 => ?_)
      ·
        have hi2 : Int.toNat i < n := by have := of_decide_eq_true h6; omega
        have hj2 : Int.toNat j < n := by have := of_decide_eq_true h14; omega
        refine J_eq (L' := [(33, 0), (0, (((Int.toNat i) : Nat) : Int)), (0, j), (9, 0), (9, 0), (9, 0), (9, 0)]) (by rw [Int.toNat_of_nonneg (by have := of_decide_eq_true h6; omega)]) rfl rfl ?_
        refine J_iconst dX7_apart_33 ?_
        refine J_iload_n dX7_apart_34 rfl ?_
        refine J_ishl dX7_apart_35 (J_top (v := (((2 ^ (Int.toNat i)) : Nat) : Int)) (j_shl1 rfl rfl (by omega)) ?_)
        refine J_eq (L' := [(33, 0), (0, (((Int.toNat i) : Nat) : Int)), (0, (((Int.toNat j) : Nat) : Int)), (9, 0), (9, 0), (9, 0), (9, 0)]) (by rw [Int.toNat_of_nonneg (a := j) (by have := of_decide_eq_true h14; omega)]) rfl rfl ?_
        refine J_istore_n (L' := [(33, 0), (0, (((Int.toNat i) : Nat) : Int)), (0, (((Int.toNat j) : Nat) : Int)), (0, (((2 ^ (Int.toNat i)) : Nat) : Int)), (9, 0), (9, 0), (9, 0)]) dX7_apart_36 (by decide) rfl rfl ?_
        refine J_iconst dX7_apart_37 ?_
        refine J_istore (L' := [(33, 0), (0, (((Int.toNat i) : Nat) : Int)), (0, (((Int.toNat j) : Nat) : Int)), (0, (((2 ^ (Int.toNat i)) : Nat) : Int)), (0, 0), (9, 0), (9, 0)]) dX7_apart_38 (by decide) rfl rfl ?_
        refine J_eq (L' := [(33, 0), (0, (((Int.toNat i) : Nat) : Int)), (0, (((Int.toNat j) : Nat) : Int)), (0, (((2 ^ (Int.toNat i)) : Nat) : Int)), (0, ((0 : Nat) : Int)), (9, 0), (9, 0)]) rfl rfl rfl ?_
        exact ev_X7_apart_L40 P D n F O tl tb fa tr wh M hS i hi j hj _ rfl h6 h14 _ _ (by rfl) (by omega) (Nat.lt_succ_self _)
      · exact absurd h28 (by decide)
