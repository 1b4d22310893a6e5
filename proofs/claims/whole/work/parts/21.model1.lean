theorem fo31 (G : Nat → Bool) (k : Int) : cntN 128 (fun s => G s && decide ((popc s : Int) = k)) < 2147483648 := by
  have := cntN_le 128 (fun s => G s && decide ((popc s : Int) = k))
  omega
theorem ly31 {P D n : Nat} {F O : Nat → Nat} {M : jM} (h : MR P D n F O M) (x : Nat) : lyg n F x < 2147483648 := mskN_31 (by have := h.hn; omega)
theorem ap31 {P D n : Nat} {F O : Nat → Nat} {M : jM} (h : MR P D n F O M) : 2 ^ P - 1 < 2147483648 := by
  have := Nat.pow_le_pow_right (n := 2) (by decide) h.hP
  omega
set_option maxRecDepth 100000 in
set_option maxHeartbeats 4000000 in
theorem ev_X7_isRefused (w : Int) (hw : -2147483648 ≤ w ∧ w < 2147483648) (M : jM) : Ev 0 mX7_isRefused [(33, 0), (0, w)] M (fun z M' => z = ((Bool.toNat (decide (¬ w = 0)) : Nat) : Int) ∧ M' = j_up (j_up (j_up M 23 0 0) 23 3 (-1)) 23 1 w) := by
  refine Ev_of (by decide +kernel) (Nat.le_of_ble_eq_true rfl) (L := [(33, 0), (0, w)]) rfl ?_
  refine J_aload_n dX7_isRefused_0 rfl ?_
  refine J_iconst dX7_isRefused_1 ?_
  refine J_putI dX7_isRefused_2 flX7_55 rfl rfl (Or.inl rfl) ?_
  refine J_aload_n dX7_isRefused_5 rfl ?_
  refine J_iconst dX7_isRefused_6 ?_
  refine J_putI dX7_isRefused_7 flX7_9 rfl rfl (Or.inl rfl) ?_
  refine J_aload_n dX7_isRefused_10 rfl ?_
  refine J_iload_n dX7_isRefused_11 rfl ?_
  refine J_putI dX7_isRefused_12 flX7_58 rfl rfl (Or.inl rfl) ?_
  refine J_iload_n dX7_isRefused_15 rfl ?_
  refine J_if_eq (tgt := 23) dX7_isRefused_16 rfl (by omega) (fun h16 => ?_) (fun h16 => ?_)
  ·
    refine J_iconst dX7_isRefused_23 ?_
    refine J_zreturn dX7_isRefused_24 rfl (Or.inl rfl) ?_
    exact ⟨df (by omega), rfl⟩
  ·
    refine J_iconst dX7_isRefused_19 ?_
    refine J_goto (tgt := 24) dX7_isRefused_20 rfl ?_
    refine J_zreturn dX7_isRefused_24 rfl (Or.inr rfl) ?_
    exact ⟨dt (by omega), rfl⟩
set_option maxRecDepth 100000 in
set_option maxHeartbeats 4000000 in
theorem ev_X7_no (w : Int) (M : jM) : Ev 0 mX7_no [(33, 0), (0, w)] M (fun z M' => z = -1 ∧ M' = j_up M 23 1 w) := by
  refine Ev_of (by decide +kernel) (Nat.le_of_ble_eq_true rfl) (L := [(33, 0), (0, w)]) rfl ?_
  refine J_aload_n dX7_no_0 rfl ?_
  refine J_iload_n dX7_no_1 rfl ?_
  refine J_putI dX7_no_2 flX7_58 rfl rfl (Or.inl rfl) ?_
  refine J_iconst dX7_no_5 ?_
  refine J_ireturn dX7_no_6 rfl ?_
  exact ⟨rfl, rfl⟩
set_option maxRecDepth 100000 in
set_option maxHeartbeats 4000000 in
theorem ev_X7_facesOf_L4 (G : Nat → Bool) (k : Int) (hk : -2147483648 ≤ k ∧ k < 2147483648) (M : jM) (hG : IA M G)  : ∀ (fu : Nat) (c s : Nat) (h1 : c = cntN s (fun s => G s && decide ((popc s : Int) = k))) (h2 : s ≤ 128) (hfu : 128 - s < fu), J none 1 mX7_facesOf 4 [(33, 0), (0, k), (0, ((c : Nat) : Int)), (0, ((s : Nat) : Int))] [] M (j_ret mX7_facesOf (fun z M' => z = ((cntN 128 (fun s => G s && decide ((popc s : Int) = k)) : Nat) : Int) ∧ M' = M)) := by
  intro fu
  induction fu with
  | zero => intro c s h1 h2 hfu; exact absurd hfu (Nat.not_lt_zero _)
  | succ fu ih =>
    intro c s h1 h2 hfu
    refine J_iload_n dX7_facesOf_4 rfl ?_
    refine J_sipush dX7_facesOf_5 (by decide) ?_
    refine J_icmp_ge (tgt := 42) dX7_facesOf_8 rfl (j_R (by omega)) (by decide) (fun h8 => ?_) (fun h8 => ?_)
    ·
      refine J_iload_n dX7_facesOf_42 rfl ?_
      refine J_ireturn dX7_facesOf_43 rfl ?_
      have : s = 128 := by omega
      subst this
      exact ⟨by rw [h1], rfl⟩
    ·
      refine J_iload_n dX7_facesOf_11 rfl ?_
      refine J_aload_n dX7_facesOf_12 rfl ?_
      refine J_getR dX7_facesOf_13 flX7_26 rfl rfl ?_
      refine J_iload_n dX7_facesOf_16 rfl ?_
      refine J_bald dX7_facesOf_17 rfl (by decide) (by omega) (J_top (v := ((Bool.toNat (G s) : Nat) : Int)) (hG s (by omega)) ?_)
      refine J_ifb_eq (tgt := 33) dX7_facesOf_18 rfl (fun h18 => ?_) (fun h18 => ?_)
      ·
        refine J_iconst dX7_facesOf_33 ?_
        refine J_iadd dX7_facesOf_34 (J_top (v := ((c : Nat) : Int)) (by omega) ?_)
        refine J_istore_n (L' := [(33, 0), (0, k), (0, ((c : Nat) : Int)), (0, ((s : Nat) : Int))]) dX7_facesOf_35 (by decide) rfl rfl ?_
        refine J_iinc (v := (((s + 1) : Nat) : Int)) (L' := [(33, 0), (0, k), (0, ((c : Nat) : Int)), (0, (((s + 1) : Nat) : Int))]) dX7_facesOf_36 rfl (by omega) (by decide) rfl rfl ?_
        refine J_goto (tgt := 4) dX7_facesOf_39 rfl ?_
        exact ih _ _ (by rw [cntN_f (by simp [h18]), h1]) (by omega) (by omega)
      ·
        refine J_iload_n dX7_facesOf_21 rfl ?_
        refine J_callSiQ (cl := mX7_many) [(0, ((s : Nat) : Int))] [(0, ((c : Nat) : Int))] dX7_facesOf_22 mlX7_136 csX7_many rfl rfl (by decide) (Nat.le_of_ble_eq_true rfl) rfl (ev_X7_many s (by omega) M) ?_
        refine J_iload_n dX7_facesOf_25 rfl ?_
        refine J_icmp_ne (tgt := 33) dX7_facesOf_26 rfl (j_R (popc_lt (by omega))) (by omega) (fun h26 => ?_) (fun h26 => ?_)
        ·
          refine J_iconst dX7_facesOf_33 ?_
          refine J_iadd dX7_facesOf_34 (J_top (v := ((c : Nat) : Int)) (by omega) ?_)
          refine J_istore_n (L' := [(33, 0), (0, k), (0, ((c : Nat) : Int)), (0, ((s : Nat) : Int))]) dX7_facesOf_35 (by decide) rfl rfl ?_
          refine J_iinc (v := (((s + 1) : Nat) : Int)) (L' := [(33, 0), (0, k), (0, ((c : Nat) : Int)), (0, (((s + 1) : Nat) : Int))]) dX7_facesOf_36 rfl (by omega) (by decide) rfl rfl ?_
          refine J_goto (tgt := 4) dX7_facesOf_39 rfl ?_
          exact ih _ _ (by rw [cntN_f (by simp [h18, h26]), h1]) (by omega) (by omega)
        ·
          refine J_iconst dX7_facesOf_29 ?_
          refine J_goto (tgt := 34) dX7_facesOf_30 rfl ?_
          refine J_iadd dX7_facesOf_34 (J_top (v := (((c + 1) : Nat) : Int)) (by omega) ?_)
          refine J_istore_n (L' := [(33, 0), (0, k), (0, (((c + 1) : Nat) : Int)), (0, ((s : Nat) : Int))]) dX7_facesOf_35 (by decide) rfl rfl ?_
          refine J_iinc (v := (((s + 1) : Nat) : Int)) (L' := [(33, 0), (0, k), (0, (((c + 1) : Nat) : Int)), (0, (((s + 1) : Nat) : Int))]) dX7_facesOf_36 rfl (by omega) (by decide) rfl rfl ?_
          refine J_goto (tgt := 4) dX7_facesOf_39 rfl ?_
          exact ih _ _ (by rw [cntN_t (by simp [h18, h26]), h1]) (by omega) (by omega)
set_option maxRecDepth 100000 in
set_option maxHeartbeats 4000000 in
theorem ev_X7_facesOf (G : Nat → Bool) (k : Int) (hk : -2147483648 ≤ k ∧ k < 2147483648) (M : jM) (hG : IA M G) : Ev 1 mX7_facesOf [(33, 0), (0, k)] M (fun z M' => z = ((cntN 128 (fun s => G s && decide ((popc s : Int) = k)) : Nat) : Int) ∧ M' = M) := by
  refine Ev_of (by decide +kernel) (Nat.le_of_ble_eq_true rfl) (L := [(33, 0), (0, k), (9, 0), (9, 0)]) rfl ?_
  refine J_iconst dX7_facesOf_0 ?_
  refine J_istore_n (L' := [(33, 0), (0, k), (0, 0), (9, 0)]) dX7_facesOf_1 (by decide) rfl rfl ?_
  refine J_iconst dX7_facesOf_2 ?_
  refine J_istore_n (L' := [(33, 0), (0, k), (0, 0), (0, 0)]) dX7_facesOf_3 (by decide) rfl rfl ?_
  refine J_eq (L' := [(33, 0), (0, k), (0, ((0 : Nat) : Int)), (0, ((0 : Nat) : Int))]) rfl rfl rfl ?_
  exact ev_X7_facesOf_L4 G k hk M hG  _ _ _ (by rfl) (by omega) (Nat.lt_succ_self _)
set_option maxRecDepth 100000 in
set_option maxHeartbeats 4000000 in
theorem ev_X7_allPoints (P D n : Nat) (F O : Nat → Nat) (M : jM) (hR : MR P D n F O M) : Ev 0 mX7_allPoints [(33, 0)] M (fun z M' => z = ((2 ^ P - 1 : Nat) : Int) ∧ M' = M) := by
  refine Ev_of (by decide +kernel) (Nat.le_of_ble_eq_true rfl) (L := [(33, 0)]) rfl ?_
  have hn12 := MR.hn hR
  have hP7 := MR.hP hR
  have hD5 := MR.hD hR
  refine J_iconst dX7_allPoints_0 ?_
  refine J_aload_n dX7_allPoints_1 rfl ?_
  refine J_getI dX7_allPoints_2 flX7_171 rfl rfl (J_top (v := ((P : Nat) : Int)) (MR.gP hR) ?_)
  refine J_ishl dX7_allPoints_5 (J_top (v := (((2 ^ P) : Nat) : Int)) (j_shl1 rfl rfl (by omega)) ?_)
  refine J_iconst dX7_allPoints_6 ?_
  refine J_isub dX7_allPoints_7 (J_top (v := (((2 ^ P - 1) : Nat) : Int)) (by have := Nat.two_pow_pos P; omega) ?_)
  refine J_ireturn dX7_allPoints_8 rfl ?_
  exact ⟨rfl, rfl⟩
set_option maxRecDepth 100000 in
set_option maxHeartbeats 4000000 in
theorem ev_X7_withinOf_L4 (P D n : Nat) (F O : Nat → Nat) (M : jM) (hR : MR P D n F O M) (x : Nat) (hx : x < 2147483648)  : ∀ (fu : Nat) (b k : Nat) (h1 : b = mskN k (fun k => sbs x (F k))) (h2 : k ≤ n) (hfu : n - k < fu), J none 1 mX7_withinOf 4 [(33, 0), (0, ((x : Nat) : Int)), (0, ((b : Nat) : Int)), (0, ((k : Nat) : Int))] [] M (j_ret mX7_withinOf (fun z M' => z = ((lyg n F x : Nat) : Int) ∧ M' = M)) := by
  intro fu
  induction fu with
  | zero => intro b k h1 h2 hfu; exact absurd hfu (Nat.not_lt_zero _)
  | succ fu ih =>
    intro b k h1 h2 hfu
    have hn12 := MR.hn hR
    have hP7 := MR.hP hR
    have hD5 := MR.hD hR
    refine J_iload_n dX7_withinOf_4 rfl ?_
    refine J_aload_n dX7_withinOf_5 rfl ?_
    refine J_getI dX7_withinOf_6 flX7_176 rfl rfl (J_top (v := ((n : Nat) : Int)) (MR.gn hR) ?_)
    refine J_icmp_ge (tgt := 41) dX7_withinOf_9 rfl (j_R (by omega)) (j_R (by omega)) (fun h9 => ?_) (fun h9 => ?_)
    ·
      refine J_iload_n dX7_withinOf_41 rfl ?_
      refine J_ireturn dX7_withinOf_42 rfl ?_
      have : k = n := by omega
      subst this
      exact ⟨by rw [h1]; rfl, rfl⟩
    ·
      refine J_iload_n dX7_withinOf_12 rfl ?_
      refine J_iload_n dX7_withinOf_13 rfl ?_
      refine J_aload_n dX7_withinOf_14 rfl ?_
      refine J_getR dX7_withinOf_15 flX7_17 rfl rfl ?_
      refine J_iload_n dX7_withinOf_18 rfl ?_
      refine J_iald dX7_withinOf_19 rfl (by decide) (MR.ix hR (by omega)) (J_top (v := (((F k) : Nat) : Int)) (MR.gF hR (by omega)) ?_)
      refine J_callSiQ (cl := mX7_lies) [(0, ((x : Nat) : Int)), (0, (((F k) : Nat) : Int))] [(0, ((b : Nat) : Int))] dX7_withinOf_20 mlX7_183 csX7_lies rfl rfl (by decide) (Nat.le_of_ble_eq_true rfl) rfl (ev_X7_lies x (F k) hx (MR.f31 hR (by omega)) M) ?_
      refine J_ifb_eq (tgt := 32) dX7_withinOf_23 rfl (fun h23 => ?_) (fun h23 => ?_)
      ·
        refine J_iconst dX7_withinOf_32 ?_
        refine J_ior dX7_withinOf_33 (J_top (v := ((b : Nat) : Int)) (j_or0 rfl (by rw [h1]; exact mskN_31 (by omega))) ?_)
        refine J_istore_n (L' := [(33, 0), (0, ((x : Nat) : Int)), (0, ((b : Nat) : Int)), (0, ((k : Nat) : Int))]) dX7_withinOf_34 (by decide) rfl rfl ?_
        refine J_iinc (v := (((k + 1) : Nat) : Int)) (L' := [(33, 0), (0, ((x : Nat) : Int)), (0, ((b : Nat) : Int)), (0, (((k + 1) : Nat) : Int))]) dX7_withinOf_35 rfl (by omega) (by decide) rfl rfl ?_
        refine J_goto (tgt := 4) dX7_withinOf_38 rfl ?_
        exact ih _ _ (by rw [mskN_f (by exact h23), h1]) (by omega) (by omega)
      ·
        refine J_iconst dX7_withinOf_26 ?_
        refine J_iload_n dX7_withinOf_27 rfl ?_
        refine J_ishl dX7_withinOf_28 (J_top (v := (((2 ^ k) : Nat) : Int)) (j_shl1 rfl rfl (by omega)) ?_)
        refine J_goto (tgt := 33) dX7_withinOf_29 rfl ?_
        refine J_ior dX7_withinOf_33 (J_top (v := (((b ||| (2 ^ k)) : Nat) : Int)) (j_orN rfl rfl (by rw [h1]; exact mskN_31 (by omega)) (nb_p2 (by omega))) ?_)
        refine J_istore_n (L' := [(33, 0), (0, ((x : Nat) : Int)), (0, (((b ||| (2 ^ k)) : Nat) : Int)), (0, ((k : Nat) : Int))]) dX7_withinOf_34 (by decide) rfl rfl ?_
        refine J_iinc (v := (((k + 1) : Nat) : Int)) (L' := [(33, 0), (0, ((x : Nat) : Int)), (0, (((b ||| (2 ^ k)) : Nat) : Int)), (0, (((k + 1) : Nat) : Int))]) dX7_withinOf_35 rfl (by omega) (by decide) rfl rfl ?_
        refine J_goto (tgt := 4) dX7_withinOf_38 rfl ?_
        exact ih _ _ (by rw [mskN_t (by exact h23), h1]) (by omega) (by omega)
set_option maxRecDepth 100000 in
set_option maxHeartbeats 4000000 in
theorem ev_X7_withinOf (P D n : Nat) (F O : Nat → Nat) (M : jM) (hR : MR P D n F O M) (x : Nat) (hx : x < 2147483648) : Ev 1 mX7_withinOf [(33, 0), (0, ((x : Nat) : Int))] M (fun z M' => z = ((lyg n F x : Nat) : Int) ∧ M' = M) := by
  refine Ev_of (by decide +kernel) (Nat.le_of_ble_eq_true rfl) (L := [(33, 0), (0, ((x : Nat) : Int)), (9, 0), (9, 0)]) rfl ?_
  have hn12 := MR.hn hR
  have hP7 := MR.hP hR
  have hD5 := MR.hD hR
  refine J_iconst dX7_withinOf_0 ?_
  refine J_istore_n (L' := [(33, 0), (0, ((x : Nat) : Int)), (0, 0), (9, 0)]) dX7_withinOf_1 (by decide) rfl rfl ?_
  refine J_iconst dX7_withinOf_2 ?_
  refine J_istore_n (L' := [(33, 0), (0, ((x : Nat) : Int)), (0, 0), (0, 0)]) dX7_withinOf_3 (by decide) rfl rfl ?_
  refine J_eq (L' := [(33, 0), (0, ((x : Nat) : Int)), (0, ((0 : Nat) : Int)), (0, ((0 : Nat) : Int))]) rfl rfl rfl ?_
  exact ev_X7_withinOf_L4 P D n F O M hR x hx  _ _ _ (by rfl) (by omega) (Nat.lt_succ_self _)
