def ptN (P : Nat) : Nat → (Nat → Nat) → Bool → Nat
  | 0, _, b => if b = true then 2 ^ P - 1 else 0
  | k + 1, F, b => if b = true then ptN P k F b &&& F k else ptN P k F b ||| F k
theorem ptN31 {P D n : Nat} {F O : Nat → Nat} {M : jM} (h : MR P D n F O M) {k : Nat} (hk : k ≤ n) (b : Bool) : ptN P k F b < 2147483648 := by
  induction k with
  | zero =>
    simp only [ptN]
    have := ap31 h
    split <;> omega
  | succ k ih =>
    simp only [ptN]
    have h1 := ih (by omega)
    have h2 := h.f31 (i := k) (by omega)
    split
    · exact nb_and h1
    · exact nb_or h1 h2
/-- no face, but less a point it is one -/
def msg (P : Nat) (G : Nat → Bool) (x : Nat) : Bool := !G x && !(x == 0) && allN P (fun p => !Nat.testBit x p || G (ndf x (2 ^ p)))
set_option maxRecDepth 100000 in
set_option maxHeartbeats 4000000 in
theorem ev_X7_isFacet (P D n : Nat) (F O : Nat → Nat) (M : jM) (hR : MR P D n F O M) (i : Int) (hi : -2147483648 ≤ i ∧ i < 2147483648) : Ev 1 mX7_isFacet [(33, 0), (0, i)] M (fun z M' => z = ((Bool.toNat (decide (0 ≤ i ∧ i < (n : Int))) : Nat) : Int) ∧ M' = M) := by
  refine Ev_of (by decide +kernel) (Nat.le_of_ble_eq_true rfl) (L := [(33, 0), (0, i)]) rfl ?_
  have hn12 := MR.hn hR
  have hP7 := MR.hP hR
  have hD5 := MR.hD hR
  refine J_aload_n dX7_isFacet_0 rfl ?_
  refine J_getI dX7_isFacet_1 flX7_179 rfl rfl (J_top (v := ((Bool.toNat (decide (0 < n)) : Nat) : Int)) (MR.gt hR) ?_)
  refine J_ifb_eq (tgt := 25) dX7_isFacet_4 rfl (fun h4 => ?_) (fun h4 => ?_)
  ·
    refine J_iconst dX7_isFacet_25 ?_
    refine J_zreturn dX7_isFacet_26 rfl (Or.inl rfl) ?_
    exact ⟨df (by have := of_decide_eq_false h4; omega), rfl⟩
  ·
    refine J_iload_n dX7_isFacet_7 rfl ?_
    refine J_iconst dX7_isFacet_8 ?_
    refine J_aload_n dX7_isFacet_9 rfl ?_
    refine J_getI dX7_isFacet_10 flX7_176 rfl rfl (J_top (v := ((n : Nat) : Int)) (MR.gn hR) ?_)
    refine J_iconst dX7_isFacet_13 ?_
    refine J_isub dX7_isFacet_14 ?_
    refine J_callSiQ (cl := mX7_in) [(0, i), (0, 0), (0, (((n : Nat) : Int) - 1))] [] dX7_isFacet_15 mlX7_84 csX7_in rfl rfl (by decide) (Nat.le_of_ble_eq_true rfl) rfl (ev_X7_in i 0 (((n : Nat) : Int) - 1) (by omega) (by decide) (by omega) M) ?_
    refine J_ifb_eq (tgt := 25) dX7_isFacet_18 rfl (fun h18 => ?_) (fun h18 => ?_)
    ·
      refine J_iconst dX7_isFacet_25 ?_
      refine J_zreturn dX7_isFacet_26 rfl (Or.inl rfl) ?_
      exact ⟨df (by have := of_decide_eq_false h18; omega), rfl⟩
    ·
      refine J_iconst dX7_isFacet_21 ?_
      refine J_goto (tgt := 26) dX7_isFacet_22 rfl ?_
      refine J_zreturn dX7_isFacet_26 rfl (Or.inr rfl) ?_
      exact ⟨dt (by have := of_decide_eq_true h18; omega), rfl⟩
set_option maxRecDepth 100000 in
set_option maxHeartbeats 4000000 in
theorem ev_X7_isSet (P D n : Nat) (F O : Nat → Nat) (M : jM) (hR : MR P D n F O M) (i : Int) (hi : -2147483648 ≤ i ∧ i < 2147483648) : Ev 1 mX7_isSet [(33, 0), (0, i)] M (fun z M' => z = ((Bool.toNat (decide (0 ≤ i ∧ i ≤ ((2 ^ P - 1 : Nat) : Int))) : Nat) : Int) ∧ M' = M) := by
  refine Ev_of (by decide +kernel) (Nat.le_of_ble_eq_true rfl) (L := [(33, 0), (0, i)]) rfl ?_
  have hn12 := MR.hn hR
  have hP7 := MR.hP hR
  have hD5 := MR.hD hR
  refine J_iload_n dX7_isSet_0 rfl ?_
  refine J_iconst dX7_isSet_1 ?_
  refine J_aload_n dX7_isSet_2 rfl ?_
  refine J_callViQ (cl := mX7_allPoints) [] [(0, 0), (0, i)] dX7_isSet_3 mlX7_212 cvX7_allPoints rfl rfl rfl rfl rfl (by decide) (Nat.le_of_ble_eq_true rfl) rfl (ev_X7_allPoints P D n F O M hR) ?_
  refine J_callSiQ (cl := mX7_in) [(0, i), (0, 0), (0, (((2 ^ P - 1) : Nat) : Int))] [] dX7_isSet_6 mlX7_84 csX7_in rfl rfl (by decide) (Nat.le_of_ble_eq_true rfl) rfl (ev_X7_in i 0 (((2 ^ P - 1) : Nat) : Int) (by omega) (by decide) (j_R (ap31 hR)) M) ?_
  refine J_zreturn dX7_isSet_9 rfl (b01 _) ?_
  exact ⟨rfl, rfl⟩
set_option maxRecDepth 100000 in
set_option maxHeartbeats 4000000 in
theorem ev_X7_pointsIn_L15 (P D n : Nat) (F O : Nat → Nat) (M : jM) (hR : MR P D n F O M) (b : Bool)  : ∀ (fu : Nat) (x k : Nat) (h1 : x = ptN P k F b) (h2 : k ≤ n) (hfu : n - k < fu), J none 1 mX7_pointsIn 15 [(33, 0), (0, ((Bool.toNat (b) : Nat) : Int)), (0, ((x : Nat) : Int)), (0, ((k : Nat) : Int))] [] M (j_ret mX7_pointsIn (fun z M' => z = ((ptN P n F b : Nat) : Int) ∧ M' = M)) := by
  intro fu
  induction fu with
  | zero => intro x k h1 h2 hfu; exact absurd hfu (Nat.not_lt_zero _)
  | succ fu ih =>
    intro x k h1 h2 hfu
    have hn12 := MR.hn hR
    have hP7 := MR.hP hR
    have hD5 := MR.hD hR
    refine J_iload_n dX7_pointsIn_15 rfl ?_
    refine J_aload_n dX7_pointsIn_16 rfl ?_
    refine J_getI dX7_pointsIn_17 flX7_176 rfl rfl (J_top (v := ((n : Nat) : Int)) (MR.gn hR) ?_)
    refine J_icmp_ge (tgt := 53) dX7_pointsIn_20 rfl (j_R (by omega)) (j_R (by omega)) (fun h20 => ?_) (fun h20 => ?_)
    ·
      refine J_iload_n dX7_pointsIn_53 rfl ?_
      refine J_ireturn dX7_pointsIn_54 rfl ?_
      have : k = n := by omega
      subst this
      exact ⟨by rw [h1], rfl⟩
    ·
      refine J_iload_n dX7_pointsIn_23 rfl ?_
      refine J_ifb_eq (tgt := 38) dX7_pointsIn_24 rfl (fun h24 => ?_) (fun h24 => ?_)
      ·
        refine J_iload_n dX7_pointsIn_38 rfl ?_
        refine J_aload_n dX7_pointsIn_39 rfl ?_
        refine J_getR dX7_pointsIn_40 flX7_17 rfl rfl ?_
        refine J_iload_n dX7_pointsIn_43 rfl ?_
        refine J_iald dX7_pointsIn_44 rfl (by decide) (MR.ix hR (by omega)) (J_top (v := (((F k) : Nat) : Int)) (MR.gF hR (by omega)) ?_)
        refine J_ior dX7_pointsIn_45 (J_top (v := (((x ||| (F k)) : Nat) : Int)) (j_orN rfl rfl (by rw [h1]; exact ptN31 hR h2 b) (MR.f31 hR (by omega))) ?_)
        refine J_istore_n (L' := [(33, 0), (0, ((Bool.toNat (b) : Nat) : Int)), (0, (((x ||| (F k)) : Nat) : Int)), (0, ((k : Nat) : Int))]) dX7_pointsIn_46 (by decide) rfl rfl ?_
        refine J_iinc (v := (((k + 1) : Nat) : Int)) (L' := [(33, 0), (0, ((Bool.toNat (b) : Nat) : Int)), (0, (((x ||| (F k)) : Nat) : Int)), (0, (((k + 1) : Nat) : Int))]) dX7_pointsIn_47 rfl (by omega) (by decide) rfl rfl ?_
        refine J_goto (tgt := 15) dX7_pointsIn_50 rfl ?_
        exact ih _ _ (by simp [ptN, h1, h24]) (by omega) (by omega)
      ·
        refine J_iload_n dX7_pointsIn_27 rfl ?_
        refine J_aload_n dX7_pointsIn_28 rfl ?_
        refine J_getR dX7_pointsIn_29 flX7_17 rfl rfl ?_
        refine J_iload_n dX7_pointsIn_32 rfl ?_
        refine J_iald dX7_pointsIn_33 rfl (by decide) (MR.ix hR (by omega)) (J_top (v := (((F k) : Nat) : Int)) (MR.gF hR (by omega)) ?_)
        refine J_iand dX7_pointsIn_34 (J_top (v := (((x &&& (F k)) : Nat) : Int)) (j_andN rfl rfl (by rw [h1]; exact ptN31 hR h2 b) (MR.f31 hR (by omega))) ?_)
        refine J_goto (tgt := 46) dX7_pointsIn_35 rfl ?_
        refine J_istore_n (L' := [(33, 0), (0, ((Bool.toNat (b) : Nat) : Int)), (0, (((x &&& (F k)) : Nat) : Int)), (0, ((k : Nat) : Int))]) dX7_pointsIn_46 (by decide) rfl rfl ?_
        refine J_iinc (v := (((k + 1) : Nat) : Int)) (L' := [(33, 0), (0, ((Bool.toNat (b) : Nat) : Int)), (0, (((x &&& (F k)) : Nat) : Int)), (0, (((k + 1) : Nat) : Int))]) dX7_pointsIn_47 rfl (by omega) (by decide) rfl rfl ?_
        refine J_goto (tgt := 15) dX7_pointsIn_50 rfl ?_
        exact ih _ _ (by simp [ptN, h1, h24]) (by omega) (by omega)
set_option maxRecDepth 100000 in
set_option maxHeartbeats 4000000 in
theorem ev_X7_pointsIn (P D n : Nat) (F O : Nat → Nat) (M : jM) (hR : MR P D n F O M) (b : Bool) : Ev 1 mX7_pointsIn [(33, 0), (0, ((Bool.toNat (b) : Nat) : Int))] M (fun z M' => z = ((ptN P n F b : Nat) : Int) ∧ M' = M) := by
  refine Ev_of (by decide +kernel) (Nat.le_of_ble_eq_true rfl) (L := [(33, 0), (0, ((Bool.toNat (b) : Nat) : Int)), (9, 0), (9, 0)]) rfl ?_
  have hn12 := MR.hn hR
  have hP7 := MR.hP hR
  have hD5 := MR.hD hR
  refine J_iload_n dX7_pointsIn_0 rfl ?_
  refine J_ifb_eq (tgt := 11) dX7_pointsIn_1 rfl (fun h1 => ?_) (fun h1 => ?_)
  ·
    refine J_iconst dX7_pointsIn_11 ?_
    refine J_istore_n (L' := [(33, 0), (0, ((Bool.toNat (b) : Nat) : Int)), (0, 0), (9, 0)]) dX7_pointsIn_12 (by decide) rfl rfl ?_
    refine J_iconst dX7_pointsIn_13 ?_
    refine J_istore_n (L' := [(33, 0), (0, ((Bool.toNat (b) : Nat) : Int)), (0, 0), (0, 0)]) dX7_pointsIn_14 (by decide) rfl rfl ?_
    refine J_eq (L' := [(33, 0), (0, ((Bool.toNat (b) : Nat) : Int)), (0, ((0 : Nat) : Int)), (0, ((0 : Nat) : Int))]) rfl rfl rfl ?_
    exact ev_X7_pointsIn_L15 P D n F O M hR b  _ _ _ (by simp [ptN, h1]) (by omega) (Nat.lt_succ_self _)
  ·
    refine J_aload_n dX7_pointsIn_4 rfl ?_
    refine J_callViQ (cl := mX7_allPoints) [] [] dX7_pointsIn_5 mlX7_212 cvX7_allPoints rfl rfl rfl rfl rfl (by decide) (Nat.le_of_ble_eq_true rfl) rfl (ev_X7_allPoints P D n F O M hR) ?_
    refine J_goto (tgt := 12) dX7_pointsIn_8 rfl ?_
    refine J_istore_n (L' := [(33, 0), (0, ((Bool.toNat (b) : Nat) : Int)), (0, (((2 ^ P - 1) : Nat) : Int)), (9, 0)]) dX7_pointsIn_12 (by decide) rfl rfl ?_
    refine J_iconst dX7_pointsIn_13 ?_
    refine J_istore_n (L' := [(33, 0), (0, ((Bool.toNat (b) : Nat) : Int)), (0, (((2 ^ P - 1) : Nat) : Int)), (0, 0)]) dX7_pointsIn_14 (by decide) rfl rfl ?_
    refine J_eq (L' := [(33, 0), (0, ((Bool.toNat (b) : Nat) : Int)), (0, (((2 ^ P - 1) : Nat) : Int)), (0, ((0 : Nat) : Int))]) rfl rfl rfl ?_
    exact ev_X7_pointsIn_L15 P D n F O M hR b  _ _ _ (by simp [ptN, h1]) (by omega) (Nat.lt_succ_self _)
set_option maxRecDepth 100000 in
set_option maxHeartbeats 4000000 in
theorem ev_X7_sumOfFaces_L4 (G : Nat → Bool) (b : Bool) (M : jM) (hG : IA M G)  : ∀ (fu : Nat) (c : Int) (s : Nat) (h1 : c = sumN s (fun s => if G s = true then (if b = true ∧ popc s % 2 = 0 then -1 else 1) else 0)) (h2 : s ≤ 128) (hfu : 128 - s < fu), J none 1 mX7_sumOfFaces 4 [(33, 0), (0, ((Bool.toNat (b) : Nat) : Int)), (0, c), (0, ((s : Nat) : Int))] [] M (j_ret mX7_sumOfFaces (fun z M' => z = sumN 128 (fun s => if G s = true then (if b = true ∧ popc s % 2 = 0 then -1 else 1) else 0) ∧ M' = M)) := by
  intro fu
  induction fu with
  | zero => intro c s h1 h2 hfu; exact absurd hfu (Nat.not_lt_zero _)
  | succ fu ih =>
    intro c s h1 h2 hfu
    refine J_iload_n dX7_sumOfFaces_4 rfl ?_
    refine J_sipush dX7_sumOfFaces_5 (by decide) ?_
    refine J_icmp_ge (tgt := 51) dX7_sumOfFaces_8 rfl (j_R (by omega)) (by decide) (fun h8 => ?_) (fun h8 => ?_)
    ·
      refine J_iload_n dX7_sumOfFaces_51 rfl ?_
      refine J_ireturn dX7_sumOfFaces_52 rfl ?_
      have : s = 128 := by omega
      subst this
      exact ⟨by rw [h1], rfl⟩
    ·
      refine J_iload_n dX7_sumOfFaces_11 rfl ?_
      refine J_aload_n dX7_sumOfFaces_12 rfl ?_
      refine J_getR dX7_sumOfFaces_13 flX7_26 rfl rfl ?_
      refine J_iload_n dX7_sumOfFaces_16 rfl ?_
      refine J_bald dX7_sumOfFaces_17 rfl (by decide) (by omega) (J_top (v := ((Bool.toNat (G s) : Nat) : Int)) (hG s (by omega)) ?_)
      refine J_ifb_ne (tgt := 25) dX7_sumOfFaces_18 rfl (fun h18 => ?_) (fun h18 => ?_)
      ·
        refine J_iload_n dX7_sumOfFaces_25 rfl ?_
        refine J_ifb_eq (tgt := 42) dX7_sumOfFaces_26 rfl (fun h26 => ?_) (fun h26 => ?_)
        ·
          refine J_iconst dX7_sumOfFaces_42 ?_
          refine J_iadd dX7_sumOfFaces_43 ?_
          refine J_istore_n (L' := [(33, 0), (0, ((Bool.toNat (b) : Nat) : Int)), (0, (c + 1)), (0, ((s : Nat) : Int))]) dX7_sumOfFaces_44 (by decide) rfl rfl ?_
          refine J_iinc (v := (((s + 1) : Nat) : Int)) (L' := [(33, 0), (0, ((Bool.toNat (b) : Nat) : Int)), (0, (c + 1)), (0, (((s + 1) : Nat) : Int))]) dX7_sumOfFaces_45 rfl (by omega) (by decide) rfl rfl ?_
          refine J_goto (tgt := 4) dX7_sumOfFaces_48 rfl ?_
          exact ih _ _ (by rw [h1]; simp only [sumN]; simp [h18, h26]) (by omega) (by omega)
        ·
          refine J_iload_n dX7_sumOfFaces_29 rfl ?_
          refine J_callSiQ (cl := mX7_many) [(0, ((s : Nat) : Int))] [(0, c)] dX7_sumOfFaces_30 mlX7_136 csX7_many rfl rfl (by decide) (Nat.le_of_ble_eq_true rfl) rfl (ev_X7_many s (by omega) M) ?_
          refine J_iconst dX7_sumOfFaces_33 ?_
          refine J_irem dX7_sumOfFaces_34 (by decide) (by omega) (J_top (v := ((((popc s) % 2) : Nat) : Int)) (j_remN rfl rfl (popc_lt (by omega)) (by decide)) ?_)
          refine J_if_ne (tgt := 42) dX7_sumOfFaces_35 rfl (j_R (by omega)) (fun h35 => ?_) (fun h35 => ?_)
          ·
            refine J_iconst dX7_sumOfFaces_42 ?_
            refine J_iadd dX7_sumOfFaces_43 ?_
            refine J_istore_n (L' := [(33, 0), (0, ((Bool.toNat (b) : Nat) : Int)), (0, (c + 1)), (0, ((s : Nat) : Int))]) dX7_sumOfFaces_44 (by decide) rfl rfl ?_
            refine J_iinc (v := (((s + 1) : Nat) : Int)) (L' := [(33, 0), (0, ((Bool.toNat (b) : Nat) : Int)), (0, (c + 1)), (0, (((s + 1) : Nat) : Int))]) dX7_sumOfFaces_45 rfl (by omega) (by decide) rfl rfl ?_
            refine J_goto (tgt := 4) dX7_sumOfFaces_48 rfl ?_
            exact ih _ _ (by rw [h1]; simp only [sumN]; simp [h18, h26] <;> omega) (by omega) (by omega)
          ·
            refine J_iconst dX7_sumOfFaces_38 ?_
            refine J_goto (tgt := 43) dX7_sumOfFaces_39 rfl ?_
            refine J_iadd dX7_sumOfFaces_43 ?_
            refine J_istore_n (L' := [(33, 0), (0, ((Bool.toNat (b) : Nat) : Int)), (0, (c + (-1))), (0, ((s : Nat) : Int))]) dX7_sumOfFaces_44 (by decide) rfl rfl ?_
            refine J_iinc (v := (((s + 1) : Nat) : Int)) (L' := [(33, 0), (0, ((Bool.toNat (b) : Nat) : Int)), (0, (c + (-1))), (0, (((s + 1) : Nat) : Int))]) dX7_sumOfFaces_45 rfl (by omega) (by decide) rfl rfl ?_
            refine J_goto (tgt := 4) dX7_sumOfFaces_48 rfl ?_
            exact ih _ _ (by rw [h1]; simp only [sumN]; simp [h18, h26] <;> omega) (by omega) (by omega)
      ·
        refine J_iconst dX7_sumOfFaces_21 ?_
        refine J_goto (tgt := 43) dX7_sumOfFaces_22 rfl ?_
        refine J_iadd dX7_sumOfFaces_43 (J_top (v := c) (by omega) ?_)
        refine J_istore_n (L' := [(33, 0), (0, ((Bool.toNat (b) : Nat) : Int)), (0, c), (0, ((s : Nat) : Int))]) dX7_sumOfFaces_44 (by decide) rfl rfl ?_
        refine J_iinc (v := (((s + 1) : Nat) : Int)) (L' := [(33, 0), (0, ((Bool.toNat (b) : Nat) : Int)), (0, c), (0, (((s + 1) : Nat) : Int))]) dX7_sumOfFaces_45 rfl (by omega) (by decide) rfl rfl ?_
        refine J_goto (tgt := 4) dX7_sumOfFaces_48 rfl ?_
        exact ih _ _ (by rw [h1]; simp only [sumN]; simp [h18]) (by omega) (by omega)
set_option maxRecDepth 100000 in
set_option maxHeartbeats 4000000 in
theorem ev_X7_sumOfFaces (G : Nat → Bool) (b : Bool) (M : jM) (hG : IA M G) : Ev 1 mX7_sumOfFaces [(33, 0), (0, ((Bool.toNat (b) : Nat) : Int))] M (fun z M' => z = sumN 128 (fun s => if G s = true then (if b = true ∧ popc s % 2 = 0 then -1 else 1) else 0) ∧ M' = M) := by
  refine Ev_of (by decide +kernel) (Nat.le_of_ble_eq_true rfl) (L := [(33, 0), (0, ((Bool.toNat (b) : Nat) : Int)), (9, 0), (9, 0)]) rfl ?_
  refine J_iconst dX7_sumOfFaces_0 ?_
  refine J_istore_n (L' := [(33, 0), (0, ((Bool.toNat (b) : Nat) : Int)), (0, 0), (9, 0)]) dX7_sumOfFaces_1 (by decide) rfl rfl ?_
  refine J_iconst dX7_sumOfFaces_2 ?_
  refine J_istore_n (L' := [(33, 0), (0, ((Bool.toNat (b) : Nat) : Int)), (0, 0), (0, 0)]) dX7_sumOfFaces_3 (by decide) rfl rfl ?_
  refine J_eq (L' := [(33, 0), (0, ((Bool.toNat (b) : Nat) : Int)), (0, 0), (0, ((0 : Nat) : Int))]) rfl rfl rfl ?_
  exact ev_X7_sumOfFaces_L4 G b M hG  _ _ _ (by rfl) (by omega) (Nat.lt_succ_self _)
set_option maxRecDepth 100000 in
set_option maxHeartbeats 4000000 in
theorem ev_X7_isMissing_L17 (P D n : Nat) (F O : Nat → Nat) (M : jM) (hR : MR P D n F O M) (G : Nat → Bool) (hG : IA M G) (x : Nat) (hx : x < 128) (g1 : G x = false) (g2 : ¬ x = 0) : ∀ (fu : Nat) (p : Nat) (h1 : allN p (fun p => !Nat.testBit x p || G (ndf x (2 ^ p))) = true) (h2 : p ≤ P) (hfu : P - p < fu), J none 1 mX7_isMissing 17 [(33, 0), (0, ((x : Nat) : Int)), (0, ((p : Nat) : Int))] [] M (j_ret mX7_isMissing (fun z M' => z = ((Bool.toNat (msg P G x) : Nat) : Int) ∧ M' = M)) := by
  intro fu
  induction fu with
  | zero => intro p h1 h2 hfu; exact absurd hfu (Nat.not_lt_zero _)
  | succ fu ih =>
    intro p h1 h2 hfu
    have hn12 := MR.hn hR
    have hP7 := MR.hP hR
    have hD5 := MR.hD hR
    refine J_iload_n dX7_isMissing_17 rfl ?_
    refine J_aload_n dX7_isMissing_18 rfl ?_
    refine J_getI dX7_isMissing_19 flX7_171 rfl rfl (J_top (v := ((P : Nat) : Int)) (MR.gP hR) ?_)
    refine J_icmp_ge (tgt := 56) dX7_isMissing_22 rfl (j_R (by omega)) (j_R (by omega)) (fun h22 => ?_) (fun h22 => ?_)
    ·
      refine J_iconst dX7_isMissing_56 ?_
      refine J_zreturn dX7_isMissing_57 rfl (Or.inr rfl) ?_
      have : p = P := by omega
      subst this
      exact ⟨bt (by simp [msg, h1, g1, g2]), rfl⟩
    ·
      refine J_iload_n dX7_isMissing_25 rfl ?_
      refine J_iload_n dX7_isMissing_26 rfl ?_
      refine J_callSiQ (cl := mX7_has) [(0, ((x : Nat) : Int)), (0, ((p : Nat) : Int))] [] dX7_isMissing_27 mlX7_132 csX7_has rfl rfl (by decide) (Nat.le_of_ble_eq_true rfl) rfl (ev_X7_has x p (by omega) (by omega) M) ?_
      refine J_ifb_eq (tgt := 50) dX7_isMissing_30 rfl (fun h30 => ?_) (fun h30 => ?_)
      ·
        refine J_iinc (v := (((p + 1) : Nat) : Int)) (L' := [(33, 0), (0, ((x : Nat) : Int)), (0, (((p + 1) : Nat) : Int))]) dX7_isMissing_50 rfl (by omega) (by decide) rfl rfl ?_
        refine J_goto (tgt := 17) dX7_isMissing_53 rfl ?_
        exact ih _ (by rw [allN_t (by simp [h30]), h1]) (by omega) (by omega)
      ·
        refine J_aload_n dX7_isMissing_33 rfl ?_
        refine J_getR dX7_isMissing_34 flX7_26 rfl rfl ?_
        refine J_iload_n dX7_isMissing_37 rfl ?_
        refine J_iconst dX7_isMissing_38 ?_
        refine J_iload_n dX7_isMissing_39 rfl ?_
        refine J_ishl dX7_isMissing_40 (J_top (v := (((2 ^ p) : Nat) : Int)) (j_shl1 rfl rfl (by omega)) ?_)
        refine J_iconst dX7_isMissing_41 ?_
        refine J_ixor dX7_isMissing_42 (J_top (v := (-(((2 ^ p) : Nat) : Int) - 1)) (j_notN rfl (nb_p2 (by omega))) ?_)
        refine J_iand dX7_isMissing_43 (J_top (v := (((ndf x (2 ^ p)) : Nat) : Int)) (j_ndfN rfl rfl (by omega)) ?_)
        refine J_bald dX7_isMissing_44 rfl (by decide) (by have := ndf_le x (2 ^ p); omega) (J_top (v := ((Bool.toNat (G (ndf x (2 ^ p))) : Nat) : Int)) (hG (ndf x (2 ^ p)) (by have := ndf_le x (2 ^ p); omega)) ?_)
        refine J_ifb_ne (tgt := 50) dX7_isMissing_45 rfl (fun h45 => ?_) (fun h45 => ?_)
        ·
          refine J_iinc (v := (((p + 1) : Nat) : Int)) (L' := [(33, 0), (0, ((x : Nat) : Int)), (0, (((p + 1) : Nat) : Int))]) dX7_isMissing_50 rfl (by omega) (by decide) rfl rfl ?_
          refine J_goto (tgt := 17) dX7_isMissing_53 rfl ?_
          exact ih _ (by rw [allN_t (by simp [h30, h45]), h1]) (by omega) (by omega)
        ·
          refine J_iconst dX7_isMissing_48 ?_
          refine J_zreturn dX7_isMissing_49 rfl (Or.inl rfl) ?_
          exact ⟨bf (by have := allN_no (n := P) (p := (fun p => !Nat.testBit x p || G (ndf x (2 ^ p)))) (k := p) (by simp [h30, h45]) (by omega); simp [msg, this]), rfl⟩
set_option maxRecDepth 100000 in
set_option maxHeartbeats 4000000 in
theorem ev_X7_isMissing (P D n : Nat) (F O : Nat → Nat) (M : jM) (hR : MR P D n F O M) (G : Nat → Bool) (hG : IA M G) (x : Nat) (hx : x < 128) : Ev 1 mX7_isMissing [(33, 0), (0, ((x : Nat) : Int))] M (fun z M' => z = ((Bool.toNat (msg P G x) : Nat) : Int) ∧ M' = M) := by
  refine Ev_of (by decide +kernel) (Nat.le_of_ble_eq_true rfl) (L := [(33, 0), (0, ((x : Nat) : Int)), (9, 0)]) rfl ?_
  have hn12 := MR.hn hR
  have hP7 := MR.hP hR
  have hD5 := MR.hD hR
  refine J_aload_n dX7_isMissing_0 rfl ?_
  refine J_getR dX7_isMissing_1 flX7_26 rfl rfl ?_
  refine J_iload_n dX7_isMissing_4 rfl ?_
  refine J_bald dX7_isMissing_5 rfl (by decide) (by omega) (J_top (v := ((Bool.toNat (G x) : Nat) : Int)) (hG x (by omega)) ?_)
  refine J_ifb_ne (tgt := 13) dX7_isMissing_6 rfl (fun h6 => ?_) (fun h6 => ?_)
  ·
    refine J_iconst dX7_isMissing_13 ?_
    refine J_zreturn dX7_isMissing_14 rfl (Or.inl rfl) ?_
    exact ⟨bf (by simp [msg, h6]), rfl⟩
  ·
    refine J_iload_n dX7_isMissing_9 rfl ?_
    refine J_if_ne (tgt := 15) dX7_isMissing_10 rfl (j_R (by omega)) (fun h10 => ?_) (fun h10 => ?_)
    ·
      refine J_iconst dX7_isMissing_15 ?_
      refine J_istore_n (L' := [(33, 0), (0, ((x : Nat) : Int)), (0, 0)]) dX7_isMissing_16 (by decide) rfl rfl ?_
      refine J_eq (L' := [(33, 0), (0, ((x : Nat) : Int)), (0, ((0 : Nat) : Int))]) rfl rfl rfl ?_
      exact ev_X7_isMissing_L17 P D n F O M hR G hG x hx h6 (by omega) _ _ (by rfl) (by omega) (Nat.lt_succ_self _)
    ·
      refine J_iconst dX7_isMissing_13 ?_
      refine J_zreturn dX7_isMissing_14 rfl (Or.inl rfl) ?_
      exact ⟨bf (by simp [msg]; omega), rfl⟩
