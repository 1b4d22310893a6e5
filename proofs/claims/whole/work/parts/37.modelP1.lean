/-- the reference's whole state -/
def MS (P D n : Nat) (F O : Nat → Nat) (tl : Nat) (tb : Nat → Nat) (fa tr wh : Int) (M : jM) : Prop := MR P D n F O M ∧ M 23 1 = tr ∧ M 23 2 = fa ∧ (tr = 4 → M 23 3 = wh) ∧ M 23 5 = (tl : Int) ∧ tl ≤ 200 ∧ ∀ i : Nat, i < tl → M 24 (i : Int) = (tb i : Int) ∧ tb i < 256
def CM (M M' : jM) : Prop := ∀ k : Nat, k < 23 ∨ k = 37 → M' k = M k
theorem cm_rf {M : jM} : CM M M := fun _ _ => rfl
theorem cm_tr {M M1 M2 : jM} (h1 : CM M M1) (h2 : CM M1 M2) : CM M M2 := fun k hk => (h2 k hk).trans (h1 k hk)
theorem cm_ch {ks : List Nat} {M M' : jM} (h : Ch ks M M') (hk : ks.all (fun k => decide (23 ≤ k) && !(k == 37)) = true) : CM M M' := by
  intro k hk'
  refine h k (fun q => ?_)
  have := List.all_eq_true.mp hk k q
  simp only [Bool.and_eq_true, decide_eq_true_eq, Bool.not_eq_true', beq_eq_false_iff_ne] at this
  omega
theorem cm_fz {zs : List Int} {ks : List Nat} {M M' : jM} (h : Fz zs ks M M') (hk : ks.all (fun k => decide (23 ≤ k) && !(k == 37)) = true) : CM M M' := cm_ch h.1 (by rw [List.all_cons, hk]; rfl)
theorem cm_up {M M1 : jM} {z v : Int} (h : CM M M1) : CM M (j_up M1 23 z v) := fun k hk => by rw [j_up_ne (by omega)]; exact h k hk
theorem cm_ref {M : jM} {w : Int} : CM M (j_up (j_up (j_up M 23 0 0) 23 3 (-1)) 23 1 w) := cm_up (cm_up (cm_up cm_rf))
section MSS
variable {P D n : Nat} {F O : Nat → Nat} {tl : Nat} {tb : Nat → Nat} {fa tr wh : Int} {M M' : jM}
theorem ms_ref {w : Int} (hw : w ≠ 4) (h : MS P D n F O tl tb fa tr wh M) : MS P D n F O tl tb fa w 0 (j_up (j_up (j_up M 23 0 0) 23 3 (-1)) 23 1 w) := by
  obtain ⟨h1, h2, h3, h4, h5, h6, h7⟩ := h
  exact ⟨mr_upF (by decide) (mr_upF (by decide) (mr_upF (by decide) h1)), j_up_eq, ru_nz (by decide) (ru_nz (by decide) (ru_nz (by decide) h3)), fun q => absurd q hw, ru_nz (by decide) (ru_nz (by decide) (ru_nz (by decide) h5)), h6, fun i hi => ⟨ru_ne (by decide) (ru_ne (by decide) (ru_ne (by decide) (h7 i hi).1)), (h7 i hi).2⟩⟩
theorem ms_fz {zs : List Int} {ks : List Nat} (hf : Fz zs ks M M') (hz : (1 : Int) ∉ zs ∧ (2 : Int) ∉ zs ∧ (3 : Int) ∉ zs ∧ (5 : Int) ∉ zs) (hz2 : (6 : Int) ∉ zs ∧ (7 : Int) ∉ zs ∧ (8 : Int) ∉ zs ∧ (11 : Int) ∉ zs) (hk : 24 ∉ ks) (hk2 : 25 ∉ ks ∧ 26 ∉ ks) (h : MS P D n F O tl tb fa tr wh M) : MS P D n F O tl tb fa tr wh M' := by
  obtain ⟨h1, h2, h3, h4, h5, h6, h7⟩ := h
  refine ⟨mr_fz hf hz2 hk2 h1, by rw [hf.2 1 hz.1]; exact h2, by rw [hf.2 2 hz.2.1]; exact h3, fun q => by rw [hf.2 3 hz.2.2.1]; exact h4 q, by rw [hf.2 5 hz.2.2.2]; exact h5, h6, fun i hi => ?_⟩
  rw [hf.1 24 (by simp [hk])]
  exact h7 i hi
theorem ms_ch {ks : List Nat} (hc : Ch ks M M') (h23 : 23 ∉ ks) (hk : 24 ∉ ks) (hk2 : 25 ∉ ks ∧ 26 ∉ ks) (h : MS P D n F O tl tb fa tr wh M) : MS P D n F O tl tb fa tr wh M' := ms_fz (zs := []) (Fz_ch hc h23) (by decide) (by decide) hk hk2 h
theorem ms_up0 {v : Int} (h : MS P D n F O tl tb fa tr wh M) : MS P D n F O tl tb fa tr wh (j_up M 23 0 v) := ms_fz (zs := [0]) (ks := []) (Fz_upz (by decide) Fz_rf) (by decide) (by decide) (by decide) (by decide) h
theorem ms_tr {w : Int} (hw : w ≠ 4) (h : MS P D n F O tl tb fa tr wh M) : MS P D n F O tl tb fa w 0 (j_up M 23 1 w) := by
  obtain ⟨h1, h2, h3, h4, h5, h6, h7⟩ := h
  exact ⟨mr_upF (by decide) h1, j_up_eq, ru_nz (by decide) h3, fun q => absurd q hw, ru_nz (by decide) h5, h6, fun i hi => ⟨ru_ne (by decide) (h7 i hi).1, (h7 i hi).2⟩⟩
end MSS
theorem if01 {b : Bool} : (if b = true then (0 : Int) else 1) ≠ 4 := by split <;> decide
theorem if02 {b c : Bool} : (if b = true then (if c = true then (0 : Int) else 2) else 1) ≠ 4 := by
  cases b <;> cases c <;> decide
/-! what is answered, and the trouble that is told -/
def u1 (b : Bool) : Int := if b = true then 0 else 1
def u2 (b c : Bool) : Int := if b = true then (if c = true then 0 else 2) else 1
def bT (n : Nat) : Bool := decide (0 < n)
def bI (n : Nat) (i : Int) : Bool := decide (0 ≤ i ∧ i < (n : Int))
def bS (P : Nat) (i : Int) : Bool := decide (0 ≤ i ∧ i ≤ ((2 ^ P - 1 : Nat) : Int))
def bK (D : Nat) (k : Int) : Bool := decide (0 ≤ k ∧ k ≤ (D : Int))
def A_facet (n : Nat) (F : Nat → Nat) (i : Int) : Int := if bI n i = true then (F i.toNat : Int) else -1
def A_within (P n : Nat) (F : Nat → Nat) (i : Int) : Int := if (bT n && bS P i) = true then (lyg n F i.toNat : Int) else -1
def A_near (D n : Nat) (F : Nat → Nat) (i : Int) : Int := if bI n i = true then (mskN n (nrB F D i.toNat) : Int) else -1
def A_ordered (n : Nat) (O : Nat → Nat) (i : Int) : Int := if bI n i = true then (O i.toNat : Int) else -1
def A_joins (n : Nat) (F O : Nat → Nat) (i : Int) : Int := if bI n i = true then ((jnA F O i.toNat).toNat : Int) else -1
def A_restricted (n : Nat) (F O : Nat → Nat) (i : Int) : Int := if bI n i = true then (rst F O i.toNat : Int) else -1
def A_good (n : Nat) (F O : Nat → Nat) : Int := if bT n = true then gdN n F O else -1
def A_cell (P n : Nat) (F O : Nat → Nat) (i : Int) : Int := if (bT n && bS P i) = true then fstN n (fun k => sbs i.toNat (F (O k))) (-2) else -1
def A_between (P n : Nat) (F O : Nat → Nat) (i : Int) : Int := if (bT n && bS P i) = true then (cntN n (fun k => sbs i.toNat (F (O k)) && sbs (rst F O k) i.toNat) : Int) else -1
def A_faces (D n : Nat) (F : Nat → Nat) (k : Int) : Int := if (bT n && bK D k) = true then (cntN 128 (fun s => isF n F s && decide ((popc s : Int) = k)) : Int) else -1
def A_rank (D n : Nat) (F : Nat → Nat) (k : Int) : Int := if (bT n && bK D k) = true then (rkN (isF n F) k.toNat : Int) else -1
def A_round (D n : Nat) (F : Nat → Nat) (k : Int) : Int := if (bT n && bK D k) = true then rdN (isF n F) k.toNat else -1
def A_euler (n : Nat) (F : Nat → Nat) : Int := if bT n = true then sumN 128 (fun s => if isF n F s = true then (if true = true ∧ popc s % 2 = 0 then -1 else 1) else 0) else -2147483648
set_option maxRecDepth 100000 in
set_option maxHeartbeats 4000000 in
theorem ev_X7_fault (P D n : Nat) (F O : Nat → Nat) (tl : Nat) (tb : Nat → Nat) (fa tr wh : Int) (M : jM) (hS : MS P D n F O tl tb fa tr wh M) : Ev 0 mX7_fault [(33, 0)] M (fun z M' => z = fa ∧ MS P D n F O tl tb fa tr wh M' ∧ CM M M') := by
  refine Ev_of (by decide +kernel) (Nat.le_of_ble_eq_true rfl) (L := [(33, 0)]) rfl ?_
  refine J_aload_n dX7_fault_0 rfl ?_
  refine J_iconst dX7_fault_1 ?_
  refine J_putI dX7_fault_2 flX7_55 rfl rfl (Or.inl rfl) ?_
  refine J_aload_n dX7_fault_5 rfl ?_
  refine J_getI dX7_fault_6 flX7_162 rfl rfl (J_top (v := fa) (ru_nz (by decide) hS.2.2.1) ?_)
  refine J_ireturn dX7_fault_9 rfl ?_
  exact ⟨rfl, ms_up0 hS, cm_up cm_rf⟩
set_option maxRecDepth 100000 in
set_option maxHeartbeats 4000000 in
theorem ev_X7_size (P D n : Nat) (F O : Nat → Nat) (tl : Nat) (tb : Nat → Nat) (fa tr wh : Int) (M : jM) (hS : MS P D n F O tl tb fa tr wh M) : Ev 0 mX7_size [(33, 0)] M (fun z M' => z = (tl : Int) ∧ MS P D n F O tl tb fa tr wh M' ∧ CM M M') := by
  refine Ev_of (by decide +kernel) (Nat.le_of_ble_eq_true rfl) (L := [(33, 0)]) rfl ?_
  refine J_aload_n dX7_size_0 rfl ?_
  refine J_iconst dX7_size_1 ?_
  refine J_putI dX7_size_2 flX7_55 rfl rfl (Or.inl rfl) ?_
  refine J_aload_n dX7_size_5 rfl ?_
  refine J_getI dX7_size_6 flX7_61 rfl rfl (J_top (v := ((tl : Nat) : Int)) (ru_nz (by decide) hS.2.2.2.2.1) ?_)
  refine J_ireturn dX7_size_9 rfl ?_
  exact ⟨rfl, ms_up0 hS, cm_up cm_rf⟩
set_option maxRecDepth 100000 in
set_option maxHeartbeats 4000000 in
theorem ev_X7_trouble (P D n : Nat) (F O : Nat → Nat) (tl : Nat) (tb : Nat → Nat) (fa tr wh : Int) (M : jM) (hS : MS P D n F O tl tb fa tr wh M) : Ev 0 mX7_trouble [(33, 0)] M (fun z M' => z = tr ∧ MS P D n F O tl tb fa tr wh M' ∧ CM M M') := by
  refine Ev_of (by decide +kernel) (Nat.le_of_ble_eq_true rfl) (L := [(33, 0)]) rfl ?_
  refine J_aload_n dX7_trouble_0 rfl ?_
  refine J_iconst dX7_trouble_1 ?_
  refine J_putI dX7_trouble_2 flX7_55 rfl rfl (Or.inl rfl) ?_
  refine J_aload_n dX7_trouble_5 rfl ?_
  refine J_getI dX7_trouble_6 flX7_58 rfl rfl (J_top (v := tr) (ru_nz (by decide) hS.2.1) ?_)
  refine J_ireturn dX7_trouble_9 rfl ?_
  exact ⟨rfl, ms_up0 hS, cm_up cm_rf⟩
set_option maxRecDepth 100000 in
set_option maxHeartbeats 4000000 in
theorem ev_X7_where (P D n : Nat) (F O : Nat → Nat) (tl : Nat) (tb : Nat → Nat) (fa tr wh : Int) (M : jM) (hS : MS P D n F O tl tb fa tr wh M) (htr : -2147483648 ≤ tr ∧ tr < 2147483648) : Ev 0 mX7_where [(33, 0)] M (fun z M' => z = (if tr = 4 then wh else -1) ∧ MS P D n F O tl tb fa tr wh M' ∧ CM M M') := by
  refine Ev_of (by decide +kernel) (Nat.le_of_ble_eq_true rfl) (L := [(33, 0)]) rfl ?_
  refine J_aload_n dX7_where_0 rfl ?_
  refine J_iconst dX7_where_1 ?_
  refine J_putI dX7_where_2 flX7_55 rfl rfl (Or.inl rfl) ?_
  refine J_aload_n dX7_where_5 rfl ?_
  refine J_getI dX7_where_6 flX7_58 rfl rfl (J_top (v := tr) (ru_nz (by decide) hS.2.1) ?_)
  refine J_iconst dX7_where_9 ?_
  refine J_icmp_ne (tgt := 20) dX7_where_10 rfl (by omega) (by decide) (fun h10 => ?_) (fun h10 => ?_)
  ·
    refine J_iconst dX7_where_20 ?_
    refine J_ireturn dX7_where_21 rfl ?_
    exact ⟨by rw [if_neg (by omega)], ms_up0 hS, cm_up cm_rf⟩
  ·
    refine J_aload_n dX7_where_13 rfl ?_
    refine J_getI dX7_where_14 flX7_9 rfl rfl (J_top (v := wh) (ru_nz (by decide) (hS.2.2.2.1 (by omega))) ?_)
    refine J_goto (tgt := 21) dX7_where_17 rfl ?_
    refine J_ireturn dX7_where_21 rfl ?_
    exact ⟨by rw [if_pos (by omega)], ms_up0 hS, cm_up cm_rf⟩
set_option maxRecDepth 100000 in
set_option maxHeartbeats 4000000 in
theorem ev_X7_facet (P D n : Nat) (F O : Nat → Nat) (tl : Nat) (tb : Nat → Nat) (fa tr wh : Int) (M : jM) (hS : MS P D n F O tl tb fa tr wh M) (i : Int) (hi : -2147483648 ≤ i ∧ i < 2147483648) : Ev 2 mX7_facet [(33, 0), (0, i)] M (fun z M' => z = A_facet n F i ∧ MS P D n F O tl tb fa (u1 (bI n i)) 0 M' ∧ CM M M') := by
  refine Ev_of (by decide +kernel) (Nat.le_of_ble_eq_true rfl) (L := [(33, 0), (0, i)]) rfl ?_
  have hR := hS.1
  have hn12 := MR.hn hR
  have hP7 := MR.hP hR
  have hD5 := MR.hD hR
  refine J_aload_n dX7_facet_0 rfl ?_
  refine J_aload_n dX7_facet_1 rfl ?_
  refine J_iload_n dX7_facet_2 rfl ?_
  refine J_callViQ (cl := mX7_isFacet) [(0, i)] [(33, 0)] dX7_facet_3 mlX7_231 cvX7_isFacet rfl rfl rfl rfl rfl (by decide) (Nat.le_of_ble_eq_true rfl) rfl (ev_X7_isFacet P D n F O M hR i (by omega)) ?_
  refine J_callSiQ (cl := mX7_unless) [(0, ((Bool.toNat (decide (0 ≤ i ∧ i < (n : Int))) : Nat) : Int))] [(33, 0)] dX7_facet_6 mlX7_199 csX7_unless rfl rfl (by decide) (Nat.le_of_ble_eq_true rfl) rfl (ev_X7_unless (decide (0 ≤ i ∧ i < (n : Int))) M) ?_
  refine J_callViQ (cl := mX7_isRefused) [(0, (if (decide (0 ≤ i ∧ i < (n : Int))) = true then 0 else 1))] [] dX7_facet_9 mlX7_159 cvX7_isRefused rfl rfl rfl rfl rfl (by decide) (Nat.le_of_ble_eq_true rfl) rfl (ev_X7_isRefused (if (decide (0 ≤ i ∧ i < (n : Int))) = true then 0 else 1) (ifR _ (by decide) (by decide)) M) (J_top (v := ((Bool.toNat (!(decide (0 ≤ i ∧ i < (n : Int)))) : Nat) : Int)) (rf_un _) ?_)
  refine J_ifn_eq (b := (decide (0 ≤ i ∧ i < (n : Int)))) (tgt := 19) dX7_facet_12 rfl (fun h12 => ?_) (fun h12 => ?_)
  ·
    refine J_aload_n dX7_facet_19 rfl ?_
    refine J_getR dX7_facet_20 flX7_17 rfl rfl ?_
    refine J_iload_n dX7_facet_23 rfl (J_top (v := (((Int.toNat i) : Nat) : Int)) (by have := of_decide_eq_true h12; omega) ?_)
    refine J_iald dX7_facet_24 rfl (by decide) (MR.ix hR (by have := of_decide_eq_true h12; omega)) (J_top (v := (((F (Int.toNat i)) : Nat) : Int)) (MR.gF (mr_upF (by decide) (mr_upF (by decide) (mr_upF (by decide) hR))) (by have := of_decide_eq_true h12; omega)) ?_)
    refine J_ireturn dX7_facet_25 rfl ?_
    exact ⟨by unfold A_facet bI; rw [h12]; rfl, by unfold u1 bI; exact ms_ref if01 hS, cm_ref⟩
  ·
    refine J_iconst dX7_facet_15 ?_
    refine J_goto (tgt := 25) dX7_facet_16 rfl ?_
    refine J_ireturn dX7_facet_25 rfl ?_
    exact ⟨by unfold A_facet bI; rw [h12]; rfl, by unfold u1 bI; exact ms_ref if01 hS, cm_ref⟩
set_option maxRecDepth 100000 in
set_option maxHeartbeats 4000000 in
theorem ev_X7_ordered (P D n : Nat) (F O : Nat → Nat) (tl : Nat) (tb : Nat → Nat) (fa tr wh : Int) (M : jM) (hS : MS P D n F O tl tb fa tr wh M) (i : Int) (hi : -2147483648 ≤ i ∧ i < 2147483648) : Ev 2 mX7_ordered [(33, 0), (0, i)] M (fun z M' => z = A_ordered n O i ∧ MS P D n F O tl tb fa (u1 (bI n i)) 0 M' ∧ CM M M') := by
  refine Ev_of (by decide +kernel) (Nat.le_of_ble_eq_true rfl) (L := [(33, 0), (0, i)]) rfl ?_
  have hR := hS.1
  have hn12 := MR.hn hR
  have hP7 := MR.hP hR
  have hD5 := MR.hD hR
  refine J_aload_n dX7_ordered_0 rfl ?_
  refine J_aload_n dX7_ordered_1 rfl ?_
  refine J_iload_n dX7_ordered_2 rfl ?_
  refine J_callViQ (cl := mX7_isFacet) [(0, i)] [(33, 0)] dX7_ordered_3 mlX7_231 cvX7_isFacet rfl rfl rfl rfl rfl (by decide) (Nat.le_of_ble_eq_true rfl) rfl (ev_X7_isFacet P D n F O M hR i (by omega)) ?_
  refine J_callSiQ (cl := mX7_unless) [(0, ((Bool.toNat (decide (0 ≤ i ∧ i < (n : Int))) : Nat) : Int))] [(33, 0)] dX7_ordered_6 mlX7_199 csX7_unless rfl rfl (by decide) (Nat.le_of_ble_eq_true rfl) rfl (ev_X7_unless (decide (0 ≤ i ∧ i < (n : Int))) M) ?_
  refine J_callViQ (cl := mX7_isRefused) [(0, (if (decide (0 ≤ i ∧ i < (n : Int))) = true then 0 else 1))] [] dX7_ordered_9 mlX7_159 cvX7_isRefused rfl rfl rfl rfl rfl (by decide) (Nat.le_of_ble_eq_true rfl) rfl (ev_X7_isRefused (if (decide (0 ≤ i ∧ i < (n : Int))) = true then 0 else 1) (ifR _ (by decide) (by decide)) M) (J_top (v := ((Bool.toNat (!(decide (0 ≤ i ∧ i < (n : Int)))) : Nat) : Int)) (rf_un _) ?_)
  refine J_ifn_eq (b := (decide (0 ≤ i ∧ i < (n : Int)))) (tgt := 19) dX7_ordered_12 rfl (fun h12 => ?_) (fun h12 => ?_)
  ·
    refine J_aload_n dX7_ordered_19 rfl ?_
    refine J_getR dX7_ordered_20 flX7_20 rfl rfl ?_
    refine J_iload_n dX7_ordered_23 rfl (J_top (v := (((Int.toNat i) : Nat) : Int)) (by have := of_decide_eq_true h12; omega) ?_)
    refine J_iald dX7_ordered_24 rfl (by decide) (MR.ix hR (by have := of_decide_eq_true h12; omega)) (J_top (v := (((O (Int.toNat i)) : Nat) : Int)) (MR.gO (mr_upF (by decide) (mr_upF (by decide) (mr_upF (by decide) hR))) (by have := of_decide_eq_true h12; omega)) ?_)
    refine J_ireturn dX7_ordered_25 rfl ?_
    exact ⟨by unfold A_ordered bI; rw [h12]; rfl, by unfold u1 bI; exact ms_ref if01 hS, cm_ref⟩
  ·
    refine J_iconst dX7_ordered_15 ?_
    refine J_goto (tgt := 25) dX7_ordered_16 rfl ?_
    refine J_ireturn dX7_ordered_25 rfl ?_
    exact ⟨by unfold A_ordered bI; rw [h12]; rfl, by unfold u1 bI; exact ms_ref if01 hS, cm_ref⟩
set_option maxRecDepth 100000 in
set_option maxHeartbeats 4000000 in
theorem ev_X7_near (P D n : Nat) (F O : Nat → Nat) (tl : Nat) (tb : Nat → Nat) (fa tr wh : Int) (M : jM) (hS : MS P D n F O tl tb fa tr wh M) (i : Int) (hi : -2147483648 ≤ i ∧ i < 2147483648) : Ev 3 mX7_near [(33, 0), (0, i)] M (fun z M' => z = A_near D n F i ∧ MS P D n F O tl tb fa (u1 (bI n i)) 0 M' ∧ CM M M') := by
  refine Ev_of (by decide +kernel) (Nat.le_of_ble_eq_true rfl) (L := [(33, 0), (0, i)]) rfl ?_
  have hR := hS.1
  have hn12 := MR.hn hR
  have hP7 := MR.hP hR
  have hD5 := MR.hD hR
  refine J_aload_n dX7_near_0 rfl ?_
  refine J_aload_n dX7_near_1 rfl ?_
  refine J_iload_n dX7_near_2 rfl ?_
  refine J_callViQ (cl := mX7_isFacet) [(0, i)] [(33, 0)] dX7_near_3 mlX7_231 cvX7_isFacet rfl rfl rfl rfl rfl (by decide) (Nat.le_of_ble_eq_true rfl) rfl (ev_X7_isFacet P D n F O M hR i (by omega)) ?_
  refine J_callSiQ (cl := mX7_unless) [(0, ((Bool.toNat (decide (0 ≤ i ∧ i < (n : Int))) : Nat) : Int))] [(33, 0)] dX7_near_6 mlX7_199 csX7_unless rfl rfl (by decide) (Nat.le_of_ble_eq_true rfl) rfl (ev_X7_unless (decide (0 ≤ i ∧ i < (n : Int))) M) ?_
  refine J_callViQ (cl := mX7_isRefused) [(0, (if (decide (0 ≤ i ∧ i < (n : Int))) = true then 0 else 1))] [] dX7_near_9 mlX7_159 cvX7_isRefused rfl rfl rfl rfl rfl (by decide) (Nat.le_of_ble_eq_true rfl) rfl (ev_X7_isRefused (if (decide (0 ≤ i ∧ i < (n : Int))) = true then 0 else 1) (ifR _ (by decide) (by decide)) M) (J_top (v := ((Bool.toNat (!(decide (0 ≤ i ∧ i < (n : Int)))) : Nat) : Int)) (rf_un _) ?_)
  refine J_ifn_eq (b := (decide (0 ≤ i ∧ i < (n : Int)))) (tgt := 19) dX7_near_12 rfl (fun h12 => ?_) (fun h12 => ?_)
  ·
    refine J_aload_n dX7_near_19 rfl ?_
    refine J_iload_n dX7_near_20 rfl (J_top (v := (((Int.toNat i) : Nat) : Int)) (by have := of_decide_eq_true h12; omega) ?_)
    refine J_callViQ (cl := mX7_nearTo) [(0, (((Int.toNat i) : Nat) : Int))] [] dX7_near_21 mlX7_256 cvX7_nearTo rfl rfl rfl rfl rfl (by decide) (Nat.le_of_ble_eq_true rfl) rfl (ev_X7_nearTo P D n F O (j_up (j_up (j_up M 23 0 0) 23 3 (-1)) 23 1 (if (decide (0 ≤ i ∧ i < (n : Int))) = true then 0 else 1)) (mr_upF (by decide) (mr_upF (by decide) (mr_upF (by decide) hR))) (Int.toNat i) (by have := of_decide_eq_true h12; omega)) ?_
    refine J_ireturn dX7_near_24 rfl ?_
    exact ⟨by unfold A_near bI; rw [h12]; rfl, by unfold u1 bI; exact ms_ref if01 hS, cm_ref⟩
  ·
    refine J_iconst dX7_near_15 ?_
    refine J_goto (tgt := 24) dX7_near_16 rfl ?_
    refine J_ireturn dX7_near_24 rfl ?_
    exact ⟨by unfold A_near bI; rw [h12]; rfl, by unfold u1 bI; exact ms_ref if01 hS, cm_ref⟩
set_option maxRecDepth 100000 in
set_option maxHeartbeats 4000000 in
theorem ev_X7_joins (P D n : Nat) (F O : Nat → Nat) (tl : Nat) (tb : Nat → Nat) (fa tr wh : Int) (M : jM) (hS : MS P D n F O tl tb fa tr wh M) (i : Int) (hi : -2147483648 ≤ i ∧ i < 2147483648) : Ev 3 mX7_joins [(33, 0), (0, i)] M (fun z M' => z = A_joins n F O i ∧ MS P D n F O tl tb fa (u1 (bI n i)) 0 M' ∧ CM M M') := by
  refine Ev_of (by decide +kernel) (Nat.le_of_ble_eq_true rfl) (L := [(33, 0), (0, i)]) rfl ?_
  have hR := hS.1
  have hn12 := MR.hn hR
  have hP7 := MR.hP hR
  have hD5 := MR.hD hR
  refine J_aload_n dX7_joins_0 rfl ?_
  refine J_aload_n dX7_joins_1 rfl ?_
  refine J_iload_n dX7_joins_2 rfl ?_
  refine J_callViQ (cl := mX7_isFacet) [(0, i)] [(33, 0)] dX7_joins_3 mlX7_231 cvX7_isFacet rfl rfl rfl rfl rfl (by decide) (Nat.le_of_ble_eq_true rfl) rfl (ev_X7_isFacet P D n F O M hR i (by omega)) ?_
  refine J_callSiQ (cl := mX7_unless) [(0, ((Bool.toNat (decide (0 ≤ i ∧ i < (n : Int))) : Nat) : Int))] [(33, 0)] dX7_joins_6 mlX7_199 csX7_unless rfl rfl (by decide) (Nat.le_of_ble_eq_true rfl) rfl (ev_X7_unless (decide (0 ≤ i ∧ i < (n : Int))) M) ?_
  refine J_callViQ (cl := mX7_isRefused) [(0, (if (decide (0 ≤ i ∧ i < (n : Int))) = true then 0 else 1))] [] dX7_joins_9 mlX7_159 cvX7_isRefused rfl rfl rfl rfl rfl (by decide) (Nat.le_of_ble_eq_true rfl) rfl (ev_X7_isRefused (if (decide (0 ≤ i ∧ i < (n : Int))) = true then 0 else 1) (ifR _ (by decide) (by decide)) M) (J_top (v := ((Bool.toNat (!(decide (0 ≤ i ∧ i < (n : Int)))) : Nat) : Int)) (rf_un _) ?_)
  refine J_ifn_eq (b := (decide (0 ≤ i ∧ i < (n : Int)))) (tgt := 17) dX7_joins_12 rfl (fun h12 => ?_) (fun h12 => ?_)
  ·
    refine J_aload_n dX7_joins_17 rfl ?_
    refine J_iload_n dX7_joins_18 rfl (J_top (v := (((Int.toNat i) : Nat) : Int)) (by have := of_decide_eq_true h12; omega) ?_)
    refine J_callViQ (cl := mX7_joinsAt) [(0, (((Int.toNat i) : Nat) : Int))] [] dX7_joins_19 mlX7_266 cvX7_joinsAt rfl rfl rfl rfl rfl (by decide) (Nat.le_of_ble_eq_true rfl) rfl (ev_X7_joinsAt P D n F O (j_up (j_up (j_up M 23 0 0) 23 3 (-1)) 23 1 (if (decide (0 ≤ i ∧ i < (n : Int))) = true then 0 else 1)) (mr_upF (by decide) (mr_upF (by decide) (mr_upF (by decide) hR))) (Int.toNat i) (by have := of_decide_eq_true h12; omega)) ?_
    refine J_ifb_eq (tgt := 29) dX7_joins_22 rfl (fun h22 => ?_) (fun h22 => ?_)
    ·
      refine J_iconst dX7_joins_29 ?_
      refine J_ireturn dX7_joins_30 rfl ?_
      exact ⟨by unfold A_joins bI; rw [h12, h22]; rfl, by unfold u1 bI; exact ms_ref if01 hS, cm_ref⟩
    ·
      refine J_iconst dX7_joins_25 ?_
      refine J_goto (tgt := 30) dX7_joins_26 rfl ?_
      refine J_ireturn dX7_joins_30 rfl ?_
      exact ⟨by unfold A_joins bI; rw [h12, h22]; rfl, by unfold u1 bI; exact ms_ref if01 hS, cm_ref⟩
  ·
    refine J_iconst dX7_joins_15 ?_
    refine J_ireturn dX7_joins_16 rfl ?_
    exact ⟨by unfold A_joins bI; rw [h12]; rfl, by unfold u1 bI; exact ms_ref if01 hS, cm_ref⟩
set_option maxRecDepth 100000 in
set_option maxHeartbeats 4000000 in
theorem ev_X7_restricted (P D n : Nat) (F O : Nat → Nat) (tl : Nat) (tb : Nat → Nat) (fa tr wh : Int) (M : jM) (hS : MS P D n F O tl tb fa tr wh M) (i : Int) (hi : -2147483648 ≤ i ∧ i < 2147483648) : Ev 2 mX7_restricted [(33, 0), (0, i)] M (fun z M' => z = A_restricted n F O i ∧ MS P D n F O tl tb fa (u1 (bI n i)) 0 M' ∧ CM M M') := by
  refine Ev_of (by decide +kernel) (Nat.le_of_ble_eq_true rfl) (L := [(33, 0), (0, i)]) rfl ?_
  have hR := hS.1
  have hn12 := MR.hn hR
  have hP7 := MR.hP hR
  have hD5 := MR.hD hR
  refine J_aload_n dX7_restricted_0 rfl ?_
  refine J_aload_n dX7_restricted_1 rfl ?_
  refine J_iload_n dX7_restricted_2 rfl ?_
  refine J_callViQ (cl := mX7_isFacet) [(0, i)] [(33, 0)] dX7_restricted_3 mlX7_231 cvX7_isFacet rfl rfl rfl rfl rfl (by decide) (Nat.le_of_ble_eq_true rfl) rfl (ev_X7_isFacet P D n F O M hR i (by omega)) ?_
  refine J_callSiQ (cl := mX7_unless) [(0, ((Bool.toNat (decide (0 ≤ i ∧ i < (n : Int))) : Nat) : Int))] [(33, 0)] dX7_restricted_6 mlX7_199 csX7_unless rfl rfl (by decide) (Nat.le_of_ble_eq_true rfl) rfl (ev_X7_unless (decide (0 ≤ i ∧ i < (n : Int))) M) ?_
  refine J_callViQ (cl := mX7_isRefused) [(0, (if (decide (0 ≤ i ∧ i < (n : Int))) = true then 0 else 1))] [] dX7_restricted_9 mlX7_159 cvX7_isRefused rfl rfl rfl rfl rfl (by decide) (Nat.le_of_ble_eq_true rfl) rfl (ev_X7_isRefused (if (decide (0 ≤ i ∧ i < (n : Int))) = true then 0 else 1) (ifR _ (by decide) (by decide)) M) (J_top (v := ((Bool.toNat (!(decide (0 ≤ i ∧ i < (n : Int)))) : Nat) : Int)) (rf_un _) ?_)
  refine J_ifn_eq (b := (decide (0 ≤ i ∧ i < (n : Int)))) (tgt := 19) dX7_restricted_12 rfl (fun h12 => ?_) (fun h12 => ?_)
  ·
    refine J_aload_n dX7_restricted_19 rfl ?_
    refine J_iload_n dX7_restricted_20 rfl (J_top (v := (((Int.toNat i) : Nat) : Int)) (by have := of_decide_eq_true h12; omega) ?_)
    refine J_callViQ (cl := mX7_restrictionAt) [(0, (((Int.toNat i) : Nat) : Int))] [] dX7_restricted_21 mlX7_269 cvX7_restrictionAt rfl rfl rfl rfl rfl (by decide) (Nat.le_of_ble_eq_true rfl) rfl (ev_X7_restrictionAt P D n F O (j_up (j_up (j_up M 23 0 0) 23 3 (-1)) 23 1 (if (decide (0 ≤ i ∧ i < (n : Int))) = true then 0 else 1)) (mr_upF (by decide) (mr_upF (by decide) (mr_upF (by decide) hR))) (Int.toNat i) (by have := of_decide_eq_true h12; omega)) ?_
    refine J_ireturn dX7_restricted_24 rfl ?_
    exact ⟨by unfold A_restricted bI; rw [h12]; rfl, by unfold u1 bI; exact ms_ref if01 hS, cm_ref⟩
  ·
    refine J_iconst dX7_restricted_15 ?_
    refine J_goto (tgt := 24) dX7_restricted_16 rfl ?_
    refine J_ireturn dX7_restricted_24 rfl ?_
    exact ⟨by unfold A_restricted bI; rw [h12]; rfl, by unfold u1 bI; exact ms_ref if01 hS, cm_ref⟩
set_option maxRecDepth 100000 in
set_option maxHeartbeats 4000000 in
theorem ev_X7_good (P D n : Nat) (F O : Nat → Nat) (tl : Nat) (tb : Nat → Nat) (fa tr wh : Int) (M : jM) (hS : MS P D n F O tl tb fa tr wh M) : Ev 4 mX7_good [(33, 0)] M (fun z M' => z = A_good n F O ∧ MS P D n F O tl tb fa (u1 (bT n)) 0 M' ∧ CM M M') := by
  refine Ev_of (by decide +kernel) (Nat.le_of_ble_eq_true rfl) (L := [(33, 0)]) rfl ?_
  have hR := hS.1
  have hn12 := MR.hn hR
  have hP7 := MR.hP hR
  have hD5 := MR.hD hR
  refine J_aload_n dX7_good_0 rfl ?_
  refine J_aload_n dX7_good_1 rfl ?_
  refine J_getI dX7_good_2 flX7_179 rfl rfl (J_top (v := ((Bool.toNat (decide (0 < n)) : Nat) : Int)) (MR.gt hR) ?_)
  refine J_callSiQ (cl := mX7_unless) [(0, ((Bool.toNat (decide (0 < n)) : Nat) : Int))] [(33, 0)] dX7_good_5 mlX7_199 csX7_unless rfl rfl (by decide) (Nat.le_of_ble_eq_true rfl) rfl (ev_X7_unless (decide (0 < n)) M) ?_
  refine J_callViQ (cl := mX7_isRefused) [(0, (if (decide (0 < n)) = true then 0 else 1))] [] dX7_good_8 mlX7_159 cvX7_isRefused rfl rfl rfl rfl rfl (by decide) (Nat.le_of_ble_eq_true rfl) rfl (ev_X7_isRefused (if (decide (0 < n)) = true then 0 else 1) (ifR _ (by decide) (by decide)) M) (J_top (v := ((Bool.toNat (!(decide (0 < n))) : Nat) : Int)) (rf_un _) ?_)
  refine J_ifn_eq (b := (decide (0 < n))) (tgt := 18) dX7_good_11 rfl (fun h11 => ?_) (fun h11 => ?_)
  ·
    refine J_aload_n dX7_good_18 rfl ?_
    refine J_callViQ (cl := mX7_goodMany) [] [] dX7_good_19 mlX7_272 cvX7_goodMany rfl rfl rfl rfl rfl (by decide) (Nat.le_of_ble_eq_true rfl) rfl (ev_X7_goodMany P D n F O (j_up (j_up (j_up M 23 0 0) 23 3 (-1)) 23 1 (if (decide (0 < n)) = true then 0 else 1)) (mr_upF (by decide) (mr_upF (by decide) (mr_upF (by decide) hR))) ) ?_
    refine J_ireturn dX7_good_22 rfl ?_
    exact ⟨by unfold A_good bT; rw [h11]; rfl, by unfold u1 bT; exact ms_ref if01 hS, cm_ref⟩
  ·
    refine J_iconst dX7_good_14 ?_
    refine J_goto (tgt := 22) dX7_good_15 rfl ?_
    refine J_ireturn dX7_good_22 rfl ?_
    exact ⟨by unfold A_good bT; rw [h11]; rfl, by unfold u1 bT; exact ms_ref if01 hS, cm_ref⟩
set_option maxRecDepth 100000 in
set_option maxHeartbeats 4000000 in
theorem ev_X7_within (P D n : Nat) (F O : Nat → Nat) (tl : Nat) (tb : Nat → Nat) (fa tr wh : Int) (M : jM) (hS : MS P D n F O tl tb fa tr wh M) (i : Int) (hi : -2147483648 ≤ i ∧ i < 2147483648) : Ev 2 mX7_within [(33, 0), (0, i)] M (fun z M' => z = A_within P n F i ∧ MS P D n F O tl tb fa (u2 (bT n) (bS P i)) 0 M' ∧ CM M M') := by
  refine Ev_of (by decide +kernel) (Nat.le_of_ble_eq_true rfl) (L := [(33, 0), (0, i)]) rfl ?_
  have hR := hS.1
  have hn12 := MR.hn hR
  have hP7 := MR.hP hR
  have hD5 := MR.hD hR
  refine J_aload_n dX7_within_0 rfl ?_
  refine J_aload_n dX7_within_1 rfl ?_
  refine J_getI dX7_within_2 flX7_179 rfl rfl (J_top (v := ((Bool.toNat (decide (0 < n)) : Nat) : Int)) (MR.gt hR) ?_)
  refine J_aload_n dX7_within_5 rfl ?_
  refine J_iload_n dX7_within_6 rfl ?_
  refine J_callViQ (cl := mX7_isSet) [(0, i)] [(0, ((Bool.toNat (decide (0 < n)) : Nat) : Int)), (33, 0)] dX7_within_7 mlX7_234 cvX7_isSet rfl rfl rfl rfl rfl (by decide) (Nat.le_of_ble_eq_true rfl) rfl (ev_X7_isSet P D n F O M hR i (by omega)) ?_
  refine J_callSiQ (cl := mX7_unless_) [(0, ((Bool.toNat (decide (0 < n)) : Nat) : Int)), (0, ((Bool.toNat (decide (0 ≤ i ∧ i ≤ ((2 ^ P - 1 : Nat) : Int))) : Nat) : Int))] [(33, 0)] dX7_within_10 mlX7_206 csX7_unless_ rfl rfl (by decide) (Nat.le_of_ble_eq_true rfl) rfl (ev_X7_unless_ (decide (0 < n)) (decide (0 ≤ i ∧ i ≤ ((2 ^ P - 1 : Nat) : Int))) M) ?_
  refine J_callViQ (cl := mX7_isRefused) [(0, (if (decide (0 < n)) = true then (if (decide (0 ≤ i ∧ i ≤ ((2 ^ P - 1 : Nat) : Int))) = true then 0 else 2) else 1))] [] dX7_within_13 mlX7_159 cvX7_isRefused rfl rfl rfl rfl rfl (by decide) (Nat.le_of_ble_eq_true rfl) rfl (ev_X7_isRefused (if (decide (0 < n)) = true then (if (decide (0 ≤ i ∧ i ≤ ((2 ^ P - 1 : Nat) : Int))) = true then 0 else 2) else 1) (ifR _ (ifR _ (by decide) (by decide)) (by decide)) M) (J_top (v := ((Bool.toNat (!((decide (0 < n)) && (decide (0 ≤ i ∧ i ≤ ((2 ^ P - 1 : Nat) : Int))))) : Nat) : Int)) (rf_un2 _ _) ?_)
  refine J_ifn_eq (b := ((decide (0 < n)) && (decide (0 ≤ i ∧ i ≤ ((2 ^ P - 1 : Nat) : Int))))) (tgt := 23) dX7_within_16 rfl (fun h16 => ?_) (fun h16 => ?_)
  ·
    refine J_aload_n dX7_within_23 rfl ?_
    refine J_iload_n dX7_within_24 rfl (J_top (v := (((Int.toNat i) : Nat) : Int)) (by rw [Bool.and_eq_true] at h16; have := of_decide_eq_true h16.2; omega) ?_)
    refine J_callViQ (cl := mX7_withinOf) [(0, (((Int.toNat i) : Nat) : Int))] [] dX7_within_25 mlX7_237 cvX7_withinOf rfl rfl rfl rfl rfl (by decide) (Nat.le_of_ble_eq_true rfl) rfl (ev_X7_withinOf P D n F O (j_up (j_up (j_up M 23 0 0) 23 3 (-1)) 23 1 (if (decide (0 < n)) = true then (if (decide (0 ≤ i ∧ i ≤ ((2 ^ P - 1 : Nat) : Int))) = true then 0 else 2) else 1)) (mr_upF (by decide) (mr_upF (by decide) (mr_upF (by decide) hR))) (Int.toNat i) (by rw [Bool.and_eq_true] at h16; have := of_decide_eq_true h16.2; have := ap31 hR; omega)) ?_
    refine J_ireturn dX7_within_28 rfl ?_
    exact ⟨by unfold A_within bT bS; rw [h16]; rfl, by unfold u2 bT bS; exact ms_ref if02 hS, cm_ref⟩
  ·
    refine J_iconst dX7_within_19 ?_
    refine J_goto (tgt := 28) dX7_within_20 rfl ?_
    refine J_ireturn dX7_within_28 rfl ?_
    exact ⟨by unfold A_within bT bS; rw [h16]; rfl, by unfold u2 bT bS; exact ms_ref if02 hS, cm_ref⟩
set_option maxRecDepth 100000 in
set_option maxHeartbeats 4000000 in
theorem ev_X7_cell (P D n : Nat) (F O : Nat → Nat) (tl : Nat) (tb : Nat → Nat) (fa tr wh : Int) (M : jM) (hS : MS P D n F O tl tb fa tr wh M) (i : Int) (hi : -2147483648 ≤ i ∧ i < 2147483648) : Ev 2 mX7_cell [(33, 0), (0, i)] M (fun z M' => z = A_cell P n F O i ∧ MS P D n F O tl tb fa (u2 (bT n) (bS P i)) 0 M' ∧ CM M M') := by
  refine Ev_of (by decide +kernel) (Nat.le_of_ble_eq_true rfl) (L := [(33, 0), (0, i)]) rfl ?_
  have hR := hS.1
  have hn12 := MR.hn hR
  have hP7 := MR.hP hR
  have hD5 := MR.hD hR
  refine J_aload_n dX7_cell_0 rfl ?_
  refine J_aload_n dX7_cell_1 rfl ?_
  refine J_getI dX7_cell_2 flX7_179 rfl rfl (J_top (v := ((Bool.toNat (decide (0 < n)) : Nat) : Int)) (MR.gt hR) ?_)
  refine J_aload_n dX7_cell_5 rfl ?_
  refine J_iload_n dX7_cell_6 rfl ?_
  refine J_callViQ (cl := mX7_isSet) [(0, i)] [(0, ((Bool.toNat (decide (0 < n)) : Nat) : Int)), (33, 0)] dX7_cell_7 mlX7_234 cvX7_isSet rfl rfl rfl rfl rfl (by decide) (Nat.le_of_ble_eq_true rfl) rfl (ev_X7_isSet P D n F O M hR i (by omega)) ?_
  refine J_callSiQ (cl := mX7_unless_) [(0, ((Bool.toNat (decide (0 < n)) : Nat) : Int)), (0, ((Bool.toNat (decide (0 ≤ i ∧ i ≤ ((2 ^ P - 1 : Nat) : Int))) : Nat) : Int))] [(33, 0)] dX7_cell_10 mlX7_206 csX7_unless_ rfl rfl (by decide) (Nat.le_of_ble_eq_true rfl) rfl (ev_X7_unless_ (decide (0 < n)) (decide (0 ≤ i ∧ i ≤ ((2 ^ P - 1 : Nat) : Int))) M) ?_
  refine J_callViQ (cl := mX7_isRefused) [(0, (if (decide (0 < n)) = true then (if (decide (0 ≤ i ∧ i ≤ ((2 ^ P - 1 : Nat) : Int))) = true then 0 else 2) else 1))] [] dX7_cell_13 mlX7_159 cvX7_isRefused rfl rfl rfl rfl rfl (by decide) (Nat.le_of_ble_eq_true rfl) rfl (ev_X7_isRefused (if (decide (0 < n)) = true then (if (decide (0 ≤ i ∧ i ≤ ((2 ^ P - 1 : Nat) : Int))) = true then 0 else 2) else 1) (ifR _ (ifR _ (by decide) (by decide)) (by decide)) M) (J_top (v := ((Bool.toNat (!((decide (0 < n)) && (decide (0 ≤ i ∧ i ≤ ((2 ^ P - 1 : Nat) : Int))))) : Nat) : Int)) (rf_un2 _ _) ?_)
  refine J_ifn_eq (b := ((decide (0 < n)) && (decide (0 ≤ i ∧ i ≤ ((2 ^ P - 1 : Nat) : Int))))) (tgt := 23) dX7_cell_16 rfl (fun h16 => ?_) (fun h16 => ?_)
  ·
    refine J_aload_n dX7_cell_23 rfl ?_
    refine J_iload_n dX7_cell_24 rfl (J_top (v := (((Int.toNat i) : Nat) : Int)) (by rw [Bool.and_eq_true] at h16; have := of_decide_eq_true h16.2; omega) ?_)
    refine J_callViQ (cl := mX7_cellOf) [(0, (((Int.toNat i) : Nat) : Int))] [] dX7_cell_25 mlX7_286 cvX7_cellOf rfl rfl rfl rfl rfl (by decide) (Nat.le_of_ble_eq_true rfl) rfl (ev_X7_cellOf P D n F O (j_up (j_up (j_up M 23 0 0) 23 3 (-1)) 23 1 (if (decide (0 < n)) = true then (if (decide (0 ≤ i ∧ i ≤ ((2 ^ P - 1 : Nat) : Int))) = true then 0 else 2) else 1)) (mr_upF (by decide) (mr_upF (by decide) (mr_upF (by decide) hR))) (Int.toNat i) (by rw [Bool.and_eq_true] at h16; have := of_decide_eq_true h16.2; have := ap31 hR; omega)) ?_
    refine J_ireturn dX7_cell_28 rfl ?_
    exact ⟨by unfold A_cell bT bS; rw [h16]; rfl, by unfold u2 bT bS; exact ms_ref if02 hS, cm_ref⟩
  ·
    refine J_iconst dX7_cell_19 ?_
    refine J_goto (tgt := 28) dX7_cell_20 rfl ?_
    refine J_ireturn dX7_cell_28 rfl ?_
    exact ⟨by unfold A_cell bT bS; rw [h16]; rfl, by unfold u2 bT bS; exact ms_ref if02 hS, cm_ref⟩
set_option maxRecDepth 100000 in
set_option maxHeartbeats 4000000 in
theorem ev_X7_between (P D n : Nat) (F O : Nat → Nat) (tl : Nat) (tb : Nat → Nat) (fa tr wh : Int) (M : jM) (hS : MS P D n F O tl tb fa tr wh M) (i : Int) (hi : -2147483648 ≤ i ∧ i < 2147483648) : Ev 3 mX7_between [(33, 0), (0, i)] M (fun z M' => z = A_between P n F O i ∧ MS P D n F O tl tb fa (u2 (bT n) (bS P i)) 0 M' ∧ CM M M') := by
  refine Ev_of (by decide +kernel) (Nat.le_of_ble_eq_true rfl) (L := [(33, 0), (0, i)]) rfl ?_
  have hR := hS.1
  have hn12 := MR.hn hR
  have hP7 := MR.hP hR
  have hD5 := MR.hD hR
  refine J_aload_n dX7_between_0 rfl ?_
  refine J_aload_n dX7_between_1 rfl ?_
  refine J_getI dX7_between_2 flX7_179 rfl rfl (J_top (v := ((Bool.toNat (decide (0 < n)) : Nat) : Int)) (MR.gt hR) ?_)
  refine J_aload_n dX7_between_5 rfl ?_
  refine J_iload_n dX7_between_6 rfl ?_
  refine J_callViQ (cl := mX7_isSet) [(0, i)] [(0, ((Bool.toNat (decide (0 < n)) : Nat) : Int)), (33, 0)] dX7_between_7 mlX7_234 cvX7_isSet rfl rfl rfl rfl rfl (by decide) (Nat.le_of_ble_eq_true rfl) rfl (ev_X7_isSet P D n F O M hR i (by omega)) ?_
  refine J_callSiQ (cl := mX7_unless_) [(0, ((Bool.toNat (decide (0 < n)) : Nat) : Int)), (0, ((Bool.toNat (decide (0 ≤ i ∧ i ≤ ((2 ^ P - 1 : Nat) : Int))) : Nat) : Int))] [(33, 0)] dX7_between_10 mlX7_206 csX7_unless_ rfl rfl (by decide) (Nat.le_of_ble_eq_true rfl) rfl (ev_X7_unless_ (decide (0 < n)) (decide (0 ≤ i ∧ i ≤ ((2 ^ P - 1 : Nat) : Int))) M) ?_
  refine J_callViQ (cl := mX7_isRefused) [(0, (if (decide (0 < n)) = true then (if (decide (0 ≤ i ∧ i ≤ ((2 ^ P - 1 : Nat) : Int))) = true then 0 else 2) else 1))] [] dX7_between_13 mlX7_159 cvX7_isRefused rfl rfl rfl rfl rfl (by decide) (Nat.le_of_ble_eq_true rfl) rfl (ev_X7_isRefused (if (decide (0 < n)) = true then (if (decide (0 ≤ i ∧ i ≤ ((2 ^ P - 1 : Nat) : Int))) = true then 0 else 2) else 1) (ifR _ (ifR _ (by decide) (by decide)) (by decide)) M) (J_top (v := ((Bool.toNat (!((decide (0 < n)) && (decide (0 ≤ i ∧ i ≤ ((2 ^ P - 1 : Nat) : Int))))) : Nat) : Int)) (rf_un2 _ _) ?_)
  refine J_ifn_eq (b := ((decide (0 < n)) && (decide (0 ≤ i ∧ i ≤ ((2 ^ P - 1 : Nat) : Int))))) (tgt := 23) dX7_between_16 rfl (fun h16 => ?_) (fun h16 => ?_)
  ·
    refine J_aload_n dX7_between_23 rfl ?_
    refine J_iload_n dX7_between_24 rfl (J_top (v := (((Int.toNat i) : Nat) : Int)) (by rw [Bool.and_eq_true] at h16; have := of_decide_eq_true h16.2; omega) ?_)
    refine J_callViQ (cl := mX7_betweenOf) [(0, (((Int.toNat i) : Nat) : Int))] [] dX7_between_25 mlX7_289 cvX7_betweenOf rfl rfl rfl rfl rfl (by decide) (Nat.le_of_ble_eq_true rfl) rfl (ev_X7_betweenOf P D n F O (j_up (j_up (j_up M 23 0 0) 23 3 (-1)) 23 1 (if (decide (0 < n)) = true then (if (decide (0 ≤ i ∧ i ≤ ((2 ^ P - 1 : Nat) : Int))) = true then 0 else 2) else 1)) (mr_upF (by decide) (mr_upF (by decide) (mr_upF (by decide) hR))) (Int.toNat i) (by rw [Bool.and_eq_true] at h16; have := of_decide_eq_true h16.2; have := ap31 hR; omega)) ?_
    refine J_ireturn dX7_between_28 rfl ?_
    exact ⟨by unfold A_between bT bS; rw [h16]; rfl, by unfold u2 bT bS; exact ms_ref if02 hS, cm_ref⟩
  ·
    refine J_iconst dX7_between_19 ?_
    refine J_goto (tgt := 28) dX7_between_20 rfl ?_
    refine J_ireturn dX7_between_28 rfl ?_
    exact ⟨by unfold A_between bT bS; rw [h16]; rfl, by unfold u2 bT bS; exact ms_ref if02 hS, cm_ref⟩
set_option maxRecDepth 100000 in
set_option maxHeartbeats 4000000 in
theorem ev_X7_faces (P D n : Nat) (F O : Nat → Nat) (tl : Nat) (tb : Nat → Nat) (fa tr wh : Int) (M : jM) (hS : MS P D n F O tl tb fa tr wh M) (k : Int) (hk : -2147483648 ≤ k ∧ k < 2147483648) : Ev 4 mX7_faces [(33, 0), (0, k)] M (fun z M' => z = A_faces D n F k ∧ MS P D n F O tl tb fa (u2 (bT n) (bK D k)) 0 M' ∧ CM M M') := by
  refine Ev_of (by decide +kernel) (Nat.le_of_ble_eq_true rfl) (L := [(33, 0), (0, k)]) rfl ?_
  have hR := hS.1
  have hn12 := MR.hn hR
  have hP7 := MR.hP hR
  have hD5 := MR.hD hR
  refine J_aload_n dX7_faces_0 rfl ?_
  refine J_iload_n dX7_faces_1 rfl ?_
  refine J_callVi (cl := mX7_isSized) [(0, k)] [] dX7_faces_2 mlX7_240 cvX7_isSized rfl rfl rfl rfl rfl (by decide) (Nat.le_of_ble_eq_true rfl) rfl (ev_X7_isSized P D n F O M hR k (by omega)) (fun z2 Ma hq2 => ?_)
  obtain ⟨rfl, a1, a2⟩ := hq2
  refine J_ifb_eq (tgt := 16) dX7_faces_5 rfl (fun h5 => ?_) (fun h5 => ?_)
  ·
    refine J_iconst dX7_faces_16 ?_
    refine J_ireturn dX7_faces_17 rfl ?_
    exact ⟨by unfold A_faces bT bK; rw [h5]; rfl, by unfold u2 bT bK; exact ms_ch a1 (by decide) (by decide) (by decide) (ms_ref if02 hS), cm_tr cm_ref (cm_ch a1 (by decide))⟩
  ·
    refine J_aload_n dX7_faces_8 rfl ?_
    refine J_iload_n dX7_faces_9 rfl ?_
    refine J_callViQ (cl := mX7_facesOf) [(0, k)] [] dX7_faces_10 mlX7_189 cvX7_facesOf rfl rfl rfl rfl rfl (by decide) (Nat.le_of_ble_eq_true rfl) rfl (ev_X7_facesOf (isF n F) k (by omega) Ma (a2 h5)) ?_
    refine J_goto (tgt := 17) dX7_faces_13 rfl ?_
    refine J_ireturn dX7_faces_17 rfl ?_
    exact ⟨by unfold A_faces bT bK; rw [h5]; rfl, by unfold u2 bT bK; exact ms_ch a1 (by decide) (by decide) (by decide) (ms_ref if02 hS), cm_tr cm_ref (cm_ch a1 (by decide))⟩
set_option maxRecDepth 100000 in
set_option maxHeartbeats 4000000 in
theorem ev_X7_rank (P D n : Nat) (F O : Nat → Nat) (tl : Nat) (tb : Nat → Nat) (fa tr wh : Int) (M : jM) (hS : MS P D n F O tl tb fa tr wh M) (k : Int) (hk : -2147483648 ≤ k ∧ k < 2147483648) : Ev 4 mX7_rank [(33, 0), (0, k)] M (fun z M' => z = A_rank D n F k ∧ MS P D n F O tl tb fa (u2 (bT n) (bK D k)) 0 M' ∧ CM M M') := by
  refine Ev_of (by decide +kernel) (Nat.le_of_ble_eq_true rfl) (L := [(33, 0), (0, k)]) rfl ?_
  have hR := hS.1
  have hn12 := MR.hn hR
  have hP7 := MR.hP hR
  have hD5 := MR.hD hR
  refine J_aload_n dX7_rank_0 rfl ?_
  refine J_iload_n dX7_rank_1 rfl ?_
  refine J_callVi (cl := mX7_isSized) [(0, k)] [] dX7_rank_2 mlX7_240 cvX7_isSized rfl rfl rfl rfl rfl (by decide) (Nat.le_of_ble_eq_true rfl) rfl (ev_X7_isSized P D n F O M hR k (by omega)) (fun z2 Ma hq2 => ?_)
  obtain ⟨rfl, a1, a2⟩ := hq2
  refine J_ifb_eq (tgt := 16) dX7_rank_5 rfl (fun h5 => ?_) (fun h5 => ?_)
  ·
    refine J_iconst dX7_rank_16 ?_
    refine J_ireturn dX7_rank_17 rfl ?_
    exact ⟨by unfold A_rank bT bK; rw [h5]; rfl, by unfold u2 bT bK; exact ms_ch a1 (by decide) (by decide) (by decide) (ms_ref if02 hS), cm_tr cm_ref (cm_ch a1 (by decide))⟩
  ·
    refine J_aload_n dX7_rank_8 rfl ?_
    refine J_iload_n dX7_rank_9 rfl (J_top (v := (((Int.toNat k) : Nat) : Int)) (by rw [Bool.and_eq_true] at h5; have := of_decide_eq_true h5.2; omega) ?_)
    refine J_callVi (cl := mX7_rankOf) [(0, (((Int.toNat k) : Nat) : Int))] [] dX7_rank_10 mlX7_192 cvX7_rankOf rfl rfl rfl rfl rfl (by decide) (Nat.le_of_ble_eq_true rfl) rfl (ev_X7_rankOf (isF n F) (isF_cl n F) (Int.toNat k) (by rw [Bool.and_eq_true] at h5; have := of_decide_eq_true h5.2; omega) Ma (a2 h5)) (fun z10 Mb hq10 => ?_)
    obtain ⟨rfl, c9⟩ := hq10
    refine J_goto (tgt := 17) dX7_rank_13 rfl ?_
    refine J_ireturn dX7_rank_17 rfl ?_
    exact ⟨by unfold A_rank bT bK; rw [h5]; rfl, by unfold u2 bT bK; exact ms_ch c9 (by decide) (by decide) (by decide) (ms_ch a1 (by decide) (by decide) (by decide) (ms_ref if02 hS)), cm_tr (cm_tr cm_ref (cm_ch a1 (by decide))) (cm_ch c9 (by decide))⟩
set_option maxRecDepth 100000 in
set_option maxHeartbeats 4000000 in
theorem ev_X7_round (P D n : Nat) (F O : Nat → Nat) (tl : Nat) (tb : Nat → Nat) (fa tr wh : Int) (M : jM) (hS : MS P D n F O tl tb fa tr wh M) (k : Int) (hk : -2147483648 ≤ k ∧ k < 2147483648) : Ev 5 mX7_round [(33, 0), (0, k)] M (fun z M' => z = A_round D n F k ∧ MS P D n F O tl tb fa (u2 (bT n) (bK D k)) 0 M' ∧ CM M M') := by
  refine Ev_of (by decide +kernel) (Nat.le_of_ble_eq_true rfl) (L := [(33, 0), (0, k)]) rfl ?_
  have hR := hS.1
  have hn12 := MR.hn hR
  have hP7 := MR.hP hR
  have hD5 := MR.hD hR
  refine J_aload_n dX7_round_0 rfl ?_
  refine J_iload_n dX7_round_1 rfl ?_
  refine J_callVi (cl := mX7_isSized) [(0, k)] [] dX7_round_2 mlX7_240 cvX7_isSized rfl rfl rfl rfl rfl (by decide) (Nat.le_of_ble_eq_true rfl) rfl (ev_X7_isSized P D n F O M hR k (by omega)) (fun z2 Ma hq2 => ?_)
  obtain ⟨rfl, a1, a2⟩ := hq2
  refine J_ifb_eq (tgt := 16) dX7_round_5 rfl (fun h5 => ?_) (fun h5 => ?_)
  ·
    refine J_iconst dX7_round_16 ?_
    refine J_ireturn dX7_round_17 rfl ?_
    exact ⟨by unfold A_round bT bK; rw [h5]; rfl, by unfold u2 bT bK; exact ms_ch a1 (by decide) (by decide) (by decide) (ms_ref if02 hS), cm_tr cm_ref (cm_ch a1 (by decide))⟩
  ·
    refine J_aload_n dX7_round_8 rfl ?_
    refine J_iload_n dX7_round_9 rfl (J_top (v := (((Int.toNat k) : Nat) : Int)) (by rw [Bool.and_eq_true] at h5; have := of_decide_eq_true h5.2; omega) ?_)
    refine J_callVi (cl := mX7_roundOf) [(0, (((Int.toNat k) : Nat) : Int))] [] dX7_round_10 mlX7_250 cvX7_roundOf rfl rfl rfl rfl rfl (by decide) (Nat.le_of_ble_eq_true rfl) rfl (ev_X7_roundOf (isF n F) (isF_cl n F) (Int.toNat k) (by rw [Bool.and_eq_true] at h5; have := of_decide_eq_true h5.2; omega) Ma (a2 h5)) (fun z10 Mb hq10 => ?_)
    obtain ⟨rfl, c9⟩ := hq10
    refine J_goto (tgt := 17) dX7_round_13 rfl ?_
    refine J_ireturn dX7_round_17 rfl ?_
    exact ⟨by unfold A_round bT bK; rw [h5]; rfl, by unfold u2 bT bK; exact ms_ch c9 (by decide) (by decide) (by decide) (ms_ch a1 (by decide) (by decide) (by decide) (ms_ref if02 hS)), cm_tr (cm_tr cm_ref (cm_ch a1 (by decide))) (cm_ch c9 (by decide))⟩
set_option maxRecDepth 100000 in
set_option maxHeartbeats 4000000 in
theorem ev_X7_euler (P D n : Nat) (F O : Nat → Nat) (tl : Nat) (tb : Nat → Nat) (fa tr wh : Int) (M : jM) (hS : MS P D n F O tl tb fa tr wh M) : Ev 4 mX7_euler [(33, 0)] M (fun z M' => z = A_euler n F ∧ MS P D n F O tl tb fa (u1 (bT n)) 0 M' ∧ CM M M') := by
  refine Ev_of (by decide +kernel) (Nat.le_of_ble_eq_true rfl) (L := [(33, 0)]) rfl ?_
  have hR := hS.1
  have hn12 := MR.hn hR
  have hP7 := MR.hP hR
  have hD5 := MR.hD hR
  refine J_aload_n dX7_euler_0 rfl ?_
  refine J_iconst dX7_euler_1 ?_
  refine J_callVi (cl := mX7_isAsked) [(0, ((Bool.toNat (true) : Nat) : Int))] [] dX7_euler_2 mlX7_218 cvX7_isAsked rfl rfl rfl rfl rfl (by decide) (Nat.le_of_ble_eq_true rfl) rfl (ev_X7_isAsked P D n F O M hR (true)) (fun z2 Ma hq2 => ?_)
  obtain ⟨rfl, a1, a2⟩ := hq2
  refine J_ifb_eq (tgt := 16) dX7_euler_5 rfl (fun h5 => ?_) (fun h5 => ?_)
  ·
    refine J_ldc (n := -2147483648) dX7_euler_16 kcX7_245 ?_
    refine J_ireturn dX7_euler_18 rfl ?_
    rw [Bool.and_true] at h5 a1 a2
    exact ⟨by unfold A_euler bT; rw [h5]; rfl, by unfold u1 bT; exact ms_ch a1 (by decide) (by decide) (by decide) (ms_ref if01 hS), cm_tr cm_ref (cm_ch a1 (by decide))⟩
  ·
    refine J_aload_n dX7_euler_8 rfl ?_
    refine J_iconst dX7_euler_9 ?_
    refine J_callViQ (cl := mX7_sumOfFaces) [(0, ((Bool.toNat (true) : Nat) : Int))] [] dX7_euler_10 mlX7_225 cvX7_sumOfFaces rfl rfl rfl rfl rfl (by decide) (Nat.le_of_ble_eq_true rfl) rfl (ev_X7_sumOfFaces (isF n F) (true) Ma (a2 h5)) ?_
    refine J_goto (tgt := 18) dX7_euler_13 rfl ?_
    refine J_ireturn dX7_euler_18 rfl ?_
    rw [Bool.and_true] at h5 a1 a2
    exact ⟨by unfold A_euler bT; rw [h5]; rfl, by unfold u1 bT; exact ms_ch a1 (by decide) (by decide) (by decide) (ms_ref if01 hS), cm_tr cm_ref (cm_ch a1 (by decide))⟩
