set_option maxRecDepth 100000 in
set_option maxHeartbeats 4000000 in
theorem ev_X7_many_L4 (x : Nat) (hx : x < 2147483648) (M : jM)  : ∀ (fu : Nat) (c : Nat) (y : Nat) (h1 : c + popc y = popc x) (h2 : y < 2147483648) (hfu : y < fu), J none 0 mX7_many 4 [(0, ((x : Nat) : Int)), (0, ((c : Nat) : Int)), (0, ((y : Nat) : Int))] [] M (j_ret mX7_many (fun z M' => z = ((popc x : Nat) : Int) ∧ M' = M)) := by
  intro fu
  induction fu with
  | zero => intro c y h1 h2 hfu; exact absurd hfu (Nat.not_lt_zero _)
  | succ fu ih =>
    intro c y h1 h2 hfu
    refine J_iload_n dX7_many_4 rfl ?_
    refine J_if_eq (tgt := 20) dX7_many_5 rfl (j_R h2) (fun h5 => ?_) (fun h5 => ?_)
    ·
      refine J_iload_n dX7_many_20 rfl ?_
      refine J_ireturn dX7_many_21 rfl ?_
      have : y = 0 := by omega
      subst this
      rw [popc_zero] at h1
      exact ⟨by omega, rfl⟩
    ·
      refine J_iinc (v := (((c + 1) : Nat) : Int)) (L' := [(0, ((x : Nat) : Int)), (0, (((c + 1) : Nat) : Int)), (0, ((y : Nat) : Int))]) dX7_many_8 rfl (by omega) (by decide) rfl rfl ?_
      refine J_iload_n dX7_many_11 rfl ?_
      refine J_iload_n dX7_many_12 rfl ?_
      refine J_iconst dX7_many_13 ?_
      refine J_isub dX7_many_14 (J_top (v := (((y - 1) : Nat) : Int)) (by omega) ?_)
      refine J_iand dX7_many_15 (J_top (v := (((y &&& (y - 1)) : Nat) : Int)) (j_andN rfl rfl h2 (by omega)) ?_)
      refine J_istore_n (L' := [(0, ((x : Nat) : Int)), (0, (((c + 1) : Nat) : Int)), (0, (((y &&& (y - 1)) : Nat) : Int))]) dX7_many_16 (by decide) rfl rfl ?_
      refine J_goto (tgt := 4) dX7_many_17 rfl ?_
      exact ih _ _ (by rw [← popc_pred (n := y) (by omega)] at h1; omega) (by exact nb_and h2) (by have := and_pred_lt (n := y) (by omega); omega)
set_option maxRecDepth 100000 in
set_option maxHeartbeats 4000000 in
theorem ev_X7_many (x : Nat) (hx : x < 2147483648) (M : jM) : Ev 0 mX7_many [(0, ((x : Nat) : Int))] M (fun z M' => z = ((popc x : Nat) : Int) ∧ M' = M) := by
  refine Ev_of (by decide +kernel) (Nat.le_of_ble_eq_true rfl) (L := [(0, ((x : Nat) : Int)), (9, 0), (9, 0)]) rfl ?_
  refine J_iconst dX7_many_0 ?_
  refine J_istore_n (L' := [(0, ((x : Nat) : Int)), (0, 0), (9, 0)]) dX7_many_1 (by decide) rfl rfl ?_
  refine J_iload_n dX7_many_2 rfl ?_
  refine J_istore_n (L' := [(0, ((x : Nat) : Int)), (0, 0), (0, ((x : Nat) : Int))]) dX7_many_3 (by decide) rfl rfl ?_
  refine J_eq (L' := [(0, ((x : Nat) : Int)), (0, ((0 : Nat) : Int)), (0, ((x : Nat) : Int))]) rfl rfl rfl ?_
  exact ev_X7_many_L4 x hx M  _ _ _ (by omega) (by exact hx) (Nat.lt_succ_self _)
set_option maxRecDepth 100000 in
set_option maxHeartbeats 4000000 in
theorem ev_X7_has (x k : Nat) (hx : x < 2147483648) (hk : k < 31) (M : jM) : Ev 0 mX7_has [(0, ((x : Nat) : Int)), (0, ((k : Nat) : Int))] M (fun z M' => z = ((Bool.toNat (Nat.testBit x k) : Nat) : Int) ∧ M' = M) := by
  refine Ev_of (by decide +kernel) (Nat.le_of_ble_eq_true rfl) (L := [(0, ((x : Nat) : Int)), (0, ((k : Nat) : Int))]) rfl ?_
  refine J_iload_n dX7_has_0 rfl ?_
  refine J_iload_n dX7_has_1 rfl ?_
  refine J_ishr dX7_has_2 (J_top (v := (((x >>> k) : Nat) : Int)) (j_shrN rfl rfl hx (by omega)) ?_)
  refine J_iconst dX7_has_3 ?_
  refine J_iand dX7_has_4 (J_top (v := ((Bool.toNat (Nat.testBit x k) : Nat) : Int)) ((j_andN rfl rfl (nb_shr hx) (by decide)).trans (congrArg Nat.cast (bit_one _ _))) ?_)
  refine J_iconst dX7_has_5 ?_
  refine J_icmp_ne (tgt := 13) dX7_has_6 rfl (j_R (nb_bool _)) (by decide) (fun h6 => ?_) (fun h6 => ?_)
  ·
    refine J_iconst dX7_has_13 ?_
    refine J_zreturn dX7_has_14 rfl (Or.inl rfl) ?_
    exact ⟨bf (bf' h6), rfl⟩
  ·
    refine J_iconst dX7_has_9 ?_
    refine J_goto (tgt := 14) dX7_has_10 rfl ?_
    refine J_zreturn dX7_has_14 rfl (Or.inr rfl) ?_
    exact ⟨bt (bt' h6), rfl⟩
set_option maxRecDepth 100000 in
set_option maxHeartbeats 4000000 in
theorem ev_X7_lies (a b : Nat) (ha : a < 2147483648) (hb : b < 2147483648) (M : jM) : Ev 0 mX7_lies [(0, ((a : Nat) : Int)), (0, ((b : Nat) : Int))] M (fun z M' => z = ((Bool.toNat (sbs a b) : Nat) : Int) ∧ M' = M) := by
  refine Ev_of (by decide +kernel) (Nat.le_of_ble_eq_true rfl) (L := [(0, ((a : Nat) : Int)), (0, ((b : Nat) : Int))]) rfl ?_
  refine J_iload_n dX7_lies_0 rfl ?_
  refine J_iload_n dX7_lies_1 rfl ?_
  refine J_iconst dX7_lies_2 ?_
  refine J_ixor dX7_lies_3 (J_top (v := (-((b : Nat) : Int) - 1)) (j_notN rfl hb) ?_)
  refine J_iand dX7_lies_4 (J_top (v := (((ndf a b) : Nat) : Int)) (j_ndfN rfl rfl ha) ?_)
  refine J_if_ne (tgt := 12) dX7_lies_5 rfl (j_R (nb_ndf ha)) (fun h5 => ?_) (fun h5 => ?_)
  ·
    refine J_iconst dX7_lies_12 ?_
    refine J_zreturn dX7_lies_13 rfl (Or.inl rfl) ?_
    exact ⟨bf (beq_eq_false_iff_ne.mpr (by omega)), rfl⟩
  ·
    refine J_iconst dX7_lies_8 ?_
    refine J_goto (tgt := 13) dX7_lies_9 rfl ?_
    refine J_zreturn dX7_lies_13 rfl (Or.inr rfl) ?_
    exact ⟨bt (beq_iff_eq.mpr (by omega)), rfl⟩
set_option maxRecDepth 100000 in
set_option maxHeartbeats 4000000 in
theorem ev_X7_in (v l h : Int) (hv : -2147483648 ≤ v ∧ v < 2147483648) (hl : -2147483648 ≤ l ∧ l < 2147483648) (hh : -2147483648 ≤ h ∧ h < 2147483648) (M : jM) : Ev 0 mX7_in [(0, v), (0, l), (0, h)] M (fun z M' => z = ((Bool.toNat (decide (l ≤ v ∧ v ≤ h)) : Nat) : Int) ∧ M' = M) := by
  refine Ev_of (by decide +kernel) (Nat.le_of_ble_eq_true rfl) (L := [(0, v), (0, l), (0, h)]) rfl ?_
  refine J_iload_n dX7_in_0 rfl ?_
  refine J_iload_n dX7_in_1 rfl ?_
  refine J_icmp_lt (tgt := 14) dX7_in_2 rfl (by omega) (by omega) (fun h2 => ?_) (fun h2 => ?_)
  ·
    refine J_iconst dX7_in_14 ?_
    refine J_zreturn dX7_in_15 rfl (Or.inl rfl) ?_
    exact ⟨df (by omega), rfl⟩
  ·
    refine J_iload_n dX7_in_5 rfl ?_
    refine J_iload_n dX7_in_6 rfl ?_
    refine J_icmp_gt (tgt := 14) dX7_in_7 rfl (by omega) (by omega) (fun h7 => ?_) (fun h7 => ?_)
    ·
      refine J_iconst dX7_in_14 ?_
      refine J_zreturn dX7_in_15 rfl (Or.inl rfl) ?_
      exact ⟨df (by omega), rfl⟩
    ·
      refine J_iconst dX7_in_10 ?_
      refine J_goto (tgt := 15) dX7_in_11 rfl ?_
      refine J_zreturn dX7_in_15 rfl (Or.inr rfl) ?_
      exact ⟨dt (by omega), rfl⟩
set_option maxRecDepth 100000 in
set_option maxHeartbeats 4000000 in
theorem ev_X7_unless (b : Bool) (M : jM) : Ev 0 mX7_unless [(0, ((Bool.toNat (b) : Nat) : Int))] M (fun z M' => z = (if b = true then 0 else 1) ∧ M' = M) := by
  refine Ev_of (by decide +kernel) (Nat.le_of_ble_eq_true rfl) (L := [(0, ((Bool.toNat (b) : Nat) : Int))]) rfl ?_
  refine J_iload_n dX7_unless_0 rfl ?_
  refine J_ifb_eq (tgt := 8) dX7_unless_1 rfl (fun h1 => ?_) (fun h1 => ?_)
  ·
    refine J_iconst dX7_unless_8 ?_
    refine J_ireturn dX7_unless_9 rfl ?_
    exact ⟨by simp_all, rfl⟩
  ·
    refine J_iconst dX7_unless_4 ?_
    refine J_goto (tgt := 9) dX7_unless_5 rfl ?_
    refine J_ireturn dX7_unless_9 rfl ?_
    exact ⟨by simp_all, rfl⟩
set_option maxRecDepth 100000 in
set_option maxHeartbeats 4000000 in
theorem ev_X7_unless_ (b c : Bool) (M : jM) : Ev 0 mX7_unless_ [(0, ((Bool.toNat (b) : Nat) : Int)), (0, ((Bool.toNat (c) : Nat) : Int))] M (fun z M' => z = (if b = true then (if c = true then 0 else 2) else 1) ∧ M' = M) := by
  refine Ev_of (by decide +kernel) (Nat.le_of_ble_eq_true rfl) (L := [(0, ((Bool.toNat (b) : Nat) : Int)), (0, ((Bool.toNat (c) : Nat) : Int))]) rfl ?_
  refine J_iload_n dX7_unless__0 rfl ?_
  refine J_ifb_ne (tgt := 8) dX7_unless__1 rfl (fun h1 => ?_) (fun h1 => ?_)
  ·
    refine J_iload_n dX7_unless__8 rfl ?_
    refine J_ifb_eq (tgt := 16) dX7_unless__9 rfl (fun h9 => ?_) (fun h9 => ?_)
    ·
      refine J_iconst dX7_unless__16 ?_
      refine J_ireturn dX7_unless__17 rfl ?_
      exact ⟨by simp_all, rfl⟩
    ·
      refine J_iconst dX7_unless__12 ?_
      refine J_goto (tgt := 17) dX7_unless__13 rfl ?_
      refine J_ireturn dX7_unless__17 rfl ?_
      exact ⟨by simp_all, rfl⟩
  ·
    refine J_iconst dX7_unless__4 ?_
    refine J_goto (tgt := 17) dX7_unless__5 rfl ?_
    refine J_ireturn dX7_unless__17 rfl ?_
    exact ⟨by simp_all, rfl⟩
