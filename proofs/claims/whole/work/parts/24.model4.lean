theorem j_orB1 (b : Bool) : j_or ((b.toNat : Nat) : Int) 1 = ((Bool.toNat true : Nat) : Int) := by cases b <;> decide
def nrB (F : Nat → Nat) (D i j : Nat) : Bool := !(i == j) && (popc (F i &&& F j) + 1 == D)
def spB (F O : Nat → Nat) (k : Nat) : Bool := rst F O k == F (O k)
def lpB (F O : Nat → Nat) (pl x : Nat) : Bool := anyN pl (fun k => ndf (F (O pl)) (F (O k)) == x)
def llB (F O : Nat → Nat) (pl x : Nat) : Bool := lpB F O pl x && !anyN x (fun o => sbs o x && lpB F O pl o)
def swp (O : Nat → Nat) (k : Nat) : Nat → Nat := fun i => if i = k then O (k + 1) else if i = k + 1 then O k else O i
def lkW (P n : Nat) (F : Nat → Nat) (i : Int) : Int := if n = 0 then 1 else if ¬ (0 ≤ i ∧ i ≤ ((2 ^ P - 1 : Nat) : Int)) then 2 else if lyg n F i.toNat = 0 then 5 else 0
def lkN (n : Nat) (F : Nat → Nat) (x : Nat) : Nat := cntN n (fun k => sbs x (F k))
def lkG (n : Nat) (F : Nat → Nat) (x : Nat) (j : Nat) : Nat := ndf (F (nthN n (fun k => sbs x (F k)) (j : Int)).toNat) x
def wpN (n : Nat) (F : Nat → Nat) (s p : Nat) : Nat := mskN n (fun k => s.testBit k && (F k).testBit p)
def cgN (n : Nat) (F : Nat → Nat) (s : Nat) : Nat := mskN n (fun k => s.testBit k && jnS F k (ndf s (2 ^ k)))
theorem gdR {P D n : Nat} {F O : Nat → Nat} {M : jM} (h : MR P D n F O M) : -2147483648 ≤ gdN n F O ∧ gdN n F O < 2147483648 := by
  have := h.hn
  unfold gdN
  rcases fstN_rng (n := n) (p := fun k => !jnA F O k) (z := (n : Int)) with q | q <;> omega
theorem lkWR (P n : Nat) (F : Nat → Nat) (i : Int) : -2147483648 ≤ lkW P n F i ∧ lkW P n F i < 2147483648 := by
  unfold lkW
  split
  · decide
  · split
    · decide
    · split <;> decide
def wys (a : Nat) : Nat → Nat
  | 0 => 1
  | i + 1 => wys a i * (a - i) / (i + 1)
theorem wys_b : ∀ a, a ≤ 5 → ∀ i, i ≤ 5 → wys a i ≤ 10 := by decide
def csQ (n : Nat) (F : Nat → Nat) (s g p k : Nat) : Nat → Bool := fun o => s.testBit o && !(F o).testBit p && sbs (ndf (ndf (F k) g) (2 ^ p)) (F o)
def csK (n : Nat) (F : Nat → Nat) (s g p : Nat) : Nat → Bool := fun k => (!s.testBit k || !(F k).testBit p) || anyN n (csQ n F s g p k)
def csB (n : Nat) (F : Nat → Nat) (s g p : Nat) : Bool := !g.testBit p && anyN n (fun k => s.testBit k && (F k).testBit p) && anyN n (fun k => s.testBit k && !(F k).testBit p) && allN n (csK n F s g p)
theorem rst31 (F O : Nat → Nat) (k : Nat) : rst F O k < 2147483648 := mskN_31 (by decide)
theorem swp_wf {P D n : Nat} {F O : Nat → Nat} (h : WF P D n F O) {k : Nat} (hk : k + 1 < n) : WF P D n F (swp O k) := by
  obtain ⟨h1, h2, h3, h4, h5, h6, h7, h8, h9, h10⟩ := h
  refine ⟨h1, h2, h3, h4, h5, h6, ?_, ?_, h9, h10⟩
  · intro i hi
    unfold swp
    split
    · exact h7 _ hk
    · split
      · exact h7 _ (by omega)
      · exact h7 _ hi
  · intro i j hi hj e
    unfold swp at e
    split at e <;> split at e <;> (try split at e) <;> (try split at e) <;> (have := h8 _ _ (by omega) (by omega) e; omega)
set_option maxRecDepth 100000 in
set_option maxHeartbeats 4000000 in
theorem ev_X7_goodMany_L2 (P D n : Nat) (F O : Nat → Nat) (M : jM) (hR : MR P D n F O M)  : ∀ (fu : Nat) (k : Nat) (h1 : anyN k (fun k => !jnA F O k) = false) (h2 : k ≤ n) (hfu : n - k < fu), J none 3 mX7_goodMany 2 [(33, 0), (0, ((k : Nat) : Int))] [] M (j_ret mX7_goodMany (fun z M' => z = gdN n F O ∧ M' = M)) := by
  intro fu
  induction fu with
  | zero => intro k h1 h2 hfu; exact absurd hfu (Nat.not_lt_zero _)
  | succ fu ih =>
    intro k h1 h2 hfu
    have hn12 := MR.hn hR
    have hP7 := MR.hP hR
    have hD5 := MR.hD hR
    refine J_iload_n dX7_goodMany_2 rfl ?_
    refine J_aload_n dX7_goodMany_3 rfl ?_
    refine J_getI dX7_goodMany_4 flX7_176 rfl rfl (J_top (v := ((n : Nat) : Int)) (MR.gn hR) ?_)
    refine J_icmp_ge (tgt := 24) dX7_goodMany_7 rfl (j_R (by omega)) (j_R (by omega)) (fun h7 => ?_) (fun h7 => ?_)
    ·
      refine J_iload_n dX7_goodMany_24 rfl ?_
      refine J_ireturn dX7_goodMany_25 rfl ?_
      have : k = n := by omega
      subst this
      exact ⟨by unfold gdN; rw [fstN_none h1], rfl⟩
    ·
      refine J_aload_n dX7_goodMany_10 rfl ?_
      refine J_iload_n dX7_goodMany_11 rfl ?_
      refine J_callViQ (cl := mX7_joinsAt) [(0, ((k : Nat) : Int))] [] dX7_goodMany_12 mlX7_266 cvX7_joinsAt rfl rfl rfl rfl rfl (by decide) (Nat.le_of_ble_eq_true rfl) rfl (ev_X7_joinsAt P D n F O M hR k (by omega)) ?_
      refine J_ifb_eq (tgt := 24) dX7_goodMany_15 rfl (fun h15 => ?_) (fun h15 => ?_)
      ·
        refine J_iload_n dX7_goodMany_24 rfl ?_
        refine J_ireturn dX7_goodMany_25 rfl ?_
        exact ⟨by unfold gdN; rw [fstN_hit h1 (by simp [h15]) (by omega)], rfl⟩
      ·
        refine J_iinc (v := (((k + 1) : Nat) : Int)) (L' := [(33, 0), (0, (((k + 1) : Nat) : Int))]) dX7_goodMany_18 rfl (by omega) (by decide) rfl rfl ?_
        refine J_goto (tgt := 2) dX7_goodMany_21 rfl ?_
        exact ih _ (by rw [anyN_f (by simp [h15]), h1]) (by omega) (by omega)
set_option maxRecDepth 100000 in
set_option maxHeartbeats 4000000 in
theorem ev_X7_goodMany (P D n : Nat) (F O : Nat → Nat) (M : jM) (hR : MR P D n F O M) : Ev 3 mX7_goodMany [(33, 0)] M (fun z M' => z = gdN n F O ∧ M' = M) := by
  refine Ev_of (by decide +kernel) (Nat.le_of_ble_eq_true rfl) (L := [(33, 0), (9, 0)]) rfl ?_
  have hn12 := MR.hn hR
  have hP7 := MR.hP hR
  have hD5 := MR.hD hR
  refine J_iconst dX7_goodMany_0 ?_
  refine J_istore_n (L' := [(33, 0), (0, 0)]) dX7_goodMany_1 (by decide) rfl rfl ?_
  refine J_eq (L' := [(33, 0), (0, ((0 : Nat) : Int))]) rfl rfl rfl ?_
  exact ev_X7_goodMany_L2 P D n F O M hR  _ _ (by rfl) (by omega) (Nat.lt_succ_self _)
set_option maxRecDepth 100000 in
set_option maxHeartbeats 4000000 in
theorem ev_X7_areNear (P D n : Nat) (F O : Nat → Nat) (M : jM) (hR : MR P D n F O M) (i j : Nat) (hi : i < n) (hj : j < n) : Ev 1 mX7_areNear [(33, 0), (0, ((i : Nat) : Int)), (0, ((j : Nat) : Int))] M (fun z M' => z = ((Bool.toNat (nrB F D i j) : Nat) : Int) ∧ M' = M) := by
  refine Ev_of (by decide +kernel) (Nat.le_of_ble_eq_true rfl) (L := [(33, 0), (0, ((i : Nat) : Int)), (0, ((j : Nat) : Int))]) rfl ?_
  have hn12 := MR.hn hR
  have hP7 := MR.hP hR
  have hD5 := MR.hD hR
  refine J_iload_n dX7_areNear_0 rfl ?_
  refine J_iload_n dX7_areNear_1 rfl ?_
  refine J_icmp_eq (tgt := 34) dX7_areNear_2 rfl (j_R (by omega)) (j_R (by omega)) (fun h2 => ?_) (fun h2 => ?_)
  ·
    refine J_iconst dX7_areNear_34 ?_
    refine J_zreturn dX7_areNear_35 rfl (Or.inl rfl) ?_
    exact ⟨bf (by simp [nrB]; omega), rfl⟩
  ·
    refine J_aload_n dX7_areNear_5 rfl ?_
    refine J_getR dX7_areNear_6 flX7_17 rfl rfl ?_
    refine J_iload_n dX7_areNear_9 rfl ?_
    refine J_iald dX7_areNear_10 rfl (by decide) (MR.ix hR (by omega)) (J_top (v := (((F i) : Nat) : Int)) (MR.gF hR (by omega)) ?_)
    refine J_aload_n dX7_areNear_11 rfl ?_
    refine J_getR dX7_areNear_12 flX7_17 rfl rfl ?_
    refine J_iload_n dX7_areNear_15 rfl ?_
    refine J_iald dX7_areNear_16 rfl (by decide) (MR.ix hR (by omega)) (J_top (v := (((F j) : Nat) : Int)) (MR.gF hR (by omega)) ?_)
    refine J_iand dX7_areNear_17 (J_top (v := ((((F i) &&& (F j)) : Nat) : Int)) (j_andN rfl rfl (MR.f31 hR (by omega)) (MR.f31 hR (by omega))) ?_)
    refine J_callSiQ (cl := mX7_many) [(0, ((((F i) &&& (F j)) : Nat) : Int))] [] dX7_areNear_18 mlX7_136 csX7_many rfl rfl (by decide) (Nat.le_of_ble_eq_true rfl) rfl (ev_X7_many ((F i) &&& (F j)) (nb_and (MR.f31 hR (by omega))) M) ?_
    refine J_aload_n dX7_areNear_21 rfl ?_
    refine J_getI dX7_areNear_22 flX7_173 rfl rfl (J_top (v := ((D : Nat) : Int)) (MR.gD hR) ?_)
    refine J_iconst dX7_areNear_25 ?_
    refine J_isub dX7_areNear_26 ?_
    refine J_icmp_ne (tgt := 34) dX7_areNear_27 rfl (j_R (popc_lt (nb_and (MR.f31 hR (by omega))))) (by omega) (fun h27 => ?_) (fun h27 => ?_)
    ·
      refine J_iconst dX7_areNear_34 ?_
      refine J_zreturn dX7_areNear_35 rfl (Or.inl rfl) ?_
      exact ⟨bf (by have hne : (popc (F i &&& F j) + 1 == D) = false := beq_eq_false_iff_ne.mpr (by omega); simp [nrB, hne]), rfl⟩
    ·
      refine J_iconst dX7_areNear_30 ?_
      refine J_goto (tgt := 35) dX7_areNear_31 rfl ?_
      refine J_zreturn dX7_areNear_35 rfl (Or.inr rfl) ?_
      exact ⟨bt (by have h1 : (i == j) = false := beq_eq_false_iff_ne.mpr (by omega); have h2 : (popc (F i &&& F j) + 1 == D) = true := beq_iff_eq.mpr (by omega); simp [nrB, h1, h2]), rfl⟩
set_option maxRecDepth 100000 in
set_option maxHeartbeats 4000000 in
theorem ev_X7_nearTo_L4 (P D n : Nat) (F O : Nat → Nat) (M : jM) (hR : MR P D n F O M) (i : Nat) (hi : i < n)  : ∀ (fu : Nat) (b k : Nat) (h1 : b = mskN k (nrB F D i)) (h2 : k ≤ n) (hfu : n - k < fu), J none 2 mX7_nearTo 4 [(33, 0), (0, ((i : Nat) : Int)), (0, ((b : Nat) : Int)), (0, ((k : Nat) : Int))] [] M (j_ret mX7_nearTo (fun z M' => z = ((mskN n (nrB F D i) : Nat) : Int) ∧ M' = M)) := by
  intro fu
  induction fu with
  | zero => intro b k h1 h2 hfu; exact absurd hfu (Nat.not_lt_zero _)
  | succ fu ih =>
    intro b k h1 h2 hfu
    have hn12 := MR.hn hR
    have hP7 := MR.hP hR
    have hD5 := MR.hD hR
    refine J_iload_n dX7_nearTo_4 rfl ?_
    refine J_aload_n dX7_nearTo_5 rfl ?_
    refine J_getI dX7_nearTo_6 flX7_176 rfl rfl (J_top (v := ((n : Nat) : Int)) (MR.gn hR) ?_)
    refine J_icmp_ge (tgt := 37) dX7_nearTo_9 rfl (j_R (by omega)) (j_R (by omega)) (fun h9 => ?_) (fun h9 => ?_)
    ·
      refine J_iload_n dX7_nearTo_37 rfl ?_
      refine J_ireturn dX7_nearTo_38 rfl ?_
      have : k = n := by omega
      subst this
      exact ⟨by rw [h1], rfl⟩
    ·
      refine J_iload_n dX7_nearTo_12 rfl ?_
      refine J_aload_n dX7_nearTo_13 rfl ?_
      refine J_iload_n dX7_nearTo_14 rfl ?_
      refine J_iload_n dX7_nearTo_15 rfl ?_
      refine J_callViQ (cl := mX7_areNear) [(0, ((i : Nat) : Int)), (0, ((k : Nat) : Int))] [(0, ((b : Nat) : Int))] dX7_nearTo_16 mlX7_253 cvX7_areNear rfl rfl rfl rfl rfl (by decide) (Nat.le_of_ble_eq_true rfl) rfl (ev_X7_areNear P D n F O M hR i k (by omega) (by omega)) ?_
      refine J_ifb_eq (tgt := 28) dX7_nearTo_19 rfl (fun h19 => ?_) (fun h19 => ?_)
      ·
        refine J_iconst dX7_nearTo_28 ?_
        refine J_ior dX7_nearTo_29 (J_top (v := ((b : Nat) : Int)) (j_or0 rfl (by rw [h1]; exact mskN_31 (by omega))) ?_)
        refine J_istore_n (L' := [(33, 0), (0, ((i : Nat) : Int)), (0, ((b : Nat) : Int)), (0, ((k : Nat) : Int))]) dX7_nearTo_30 (by decide) rfl rfl ?_
        refine J_iinc (v := (((k + 1) : Nat) : Int)) (L' := [(33, 0), (0, ((i : Nat) : Int)), (0, ((b : Nat) : Int)), (0, (((k + 1) : Nat) : Int))]) dX7_nearTo_31 rfl (by omega) (by decide) rfl rfl ?_
        refine J_goto (tgt := 4) dX7_nearTo_34 rfl ?_
        exact ih _ _ (by rw [mskN_f h19, h1]) (by omega) (by omega)
      ·
        refine J_iconst dX7_nearTo_22 ?_
        refine J_iload_n dX7_nearTo_23 rfl ?_
        refine J_ishl dX7_nearTo_24 (J_top (v := (((2 ^ k) : Nat) : Int)) (j_shl1 rfl rfl (by omega)) ?_)
        refine J_goto (tgt := 29) dX7_nearTo_25 rfl ?_
        refine J_ior dX7_nearTo_29 (J_top (v := (((b ||| (2 ^ k)) : Nat) : Int)) (j_orN rfl rfl (by rw [h1]; exact mskN_31 (by omega)) (nb_p2 (by omega))) ?_)
        refine J_istore_n (L' := [(33, 0), (0, ((i : Nat) : Int)), (0, (((b ||| (2 ^ k)) : Nat) : Int)), (0, ((k : Nat) : Int))]) dX7_nearTo_30 (by decide) rfl rfl ?_
        refine J_iinc (v := (((k + 1) : Nat) : Int)) (L' := [(33, 0), (0, ((i : Nat) : Int)), (0, (((b ||| (2 ^ k)) : Nat) : Int)), (0, (((k + 1) : Nat) : Int))]) dX7_nearTo_31 rfl (by omega) (by decide) rfl rfl ?_
        refine J_goto (tgt := 4) dX7_nearTo_34 rfl ?_
        exact ih _ _ (by rw [mskN_t h19, h1]) (by omega) (by omega)
set_option maxRecDepth 100000 in
set_option maxHeartbeats 4000000 in
theorem ev_X7_nearTo (P D n : Nat) (F O : Nat → Nat) (M : jM) (hR : MR P D n F O M) (i : Nat) (hi : i < n) : Ev 2 mX7_nearTo [(33, 0), (0, ((i : Nat) : Int))] M (fun z M' => z = ((mskN n (nrB F D i) : Nat) : Int) ∧ M' = M) := by
  refine Ev_of (by decide +kernel) (Nat.le_of_ble_eq_true rfl) (L := [(33, 0), (0, ((i : Nat) : Int)), (9, 0), (9, 0)]) rfl ?_
  have hn12 := MR.hn hR
  have hP7 := MR.hP hR
  have hD5 := MR.hD hR
  refine J_iconst dX7_nearTo_0 ?_
  refine J_istore_n (L' := [(33, 0), (0, ((i : Nat) : Int)), (0, 0), (9, 0)]) dX7_nearTo_1 (by decide) rfl rfl ?_
  refine J_iconst dX7_nearTo_2 ?_
  refine J_istore_n (L' := [(33, 0), (0, ((i : Nat) : Int)), (0, 0), (0, 0)]) dX7_nearTo_3 (by decide) rfl rfl ?_
  refine J_eq (L' := [(33, 0), (0, ((i : Nat) : Int)), (0, ((0 : Nat) : Int)), (0, ((0 : Nat) : Int))]) rfl rfl rfl ?_
  exact ev_X7_nearTo_L4 P D n F O M hR i hi  _ _ _ (by rfl) (by omega) (Nat.lt_succ_self _)
set_option maxRecDepth 100000 in
set_option maxHeartbeats 4000000 in
theorem ev_X7_isSpanning (P D n : Nat) (F O : Nat → Nat) (M : jM) (hR : MR P D n F O M) (pl : Nat) (hpl : pl < n) : Ev 2 mX7_isSpanning [(33, 0), (0, ((pl : Nat) : Int))] M (fun z M' => z = ((Bool.toNat (spB F O pl) : Nat) : Int) ∧ M' = M) := by
  refine Ev_of (by decide +kernel) (Nat.le_of_ble_eq_true rfl) (L := [(33, 0), (0, ((pl : Nat) : Int))]) rfl ?_
  have hn12 := MR.hn hR
  have hP7 := MR.hP hR
  have hD5 := MR.hD hR
  refine J_aload_n dX7_isSpanning_0 rfl ?_
  refine J_iload_n dX7_isSpanning_1 rfl ?_
  refine J_callViQ (cl := mX7_restrictionAt) [(0, ((pl : Nat) : Int))] [] dX7_isSpanning_2 mlX7_269 cvX7_restrictionAt rfl rfl rfl rfl rfl (by decide) (Nat.le_of_ble_eq_true rfl) rfl (ev_X7_restrictionAt P D n F O M hR pl (by omega)) ?_
  refine J_aload_n dX7_isSpanning_5 rfl ?_
  refine J_getR dX7_isSpanning_6 flX7_17 rfl rfl ?_
  refine J_aload_n dX7_isSpanning_9 rfl ?_
  refine J_getR dX7_isSpanning_10 flX7_20 rfl rfl ?_
  refine J_iload_n dX7_isSpanning_13 rfl ?_
  refine J_iald dX7_isSpanning_14 rfl (by decide) (MR.ix hR (by omega)) (J_top (v := (((O pl) : Nat) : Int)) (MR.gO hR (by omega)) ?_)
  refine J_iald dX7_isSpanning_15 rfl (by decide) (MR.ix hR (MR.ob hR (by omega))) (J_top (v := (((F (O pl)) : Nat) : Int)) (MR.gF hR (MR.ob hR (by omega))) ?_)
  refine J_icmp_ne (tgt := 23) dX7_isSpanning_16 rfl (j_R (rst31 _ _ _)) (j_R (MR.f31 hR (MR.ob hR (by omega)))) (fun h16 => ?_) (fun h16 => ?_)
  ·
    refine J_iconst dX7_isSpanning_23 ?_
    refine J_zreturn dX7_isSpanning_24 rfl (Or.inl rfl) ?_
    exact ⟨bf (beq_eq_false_iff_ne.mpr (by omega)), rfl⟩
  ·
    refine J_iconst dX7_isSpanning_19 ?_
    refine J_goto (tgt := 24) dX7_isSpanning_20 rfl ?_
    refine J_zreturn dX7_isSpanning_24 rfl (Or.inr rfl) ?_
    exact ⟨bt (beq_iff_eq.mpr (by omega)), rfl⟩
set_option maxRecDepth 100000 in
set_option maxHeartbeats 4000000 in
theorem ev_X7_spanningAt_L4 (P D n : Nat) (F O : Nat → Nat) (M : jM) (hR : MR P D n F O M) (i : Int) (hi : -2147483648 ≤ i ∧ i < 2147483648)  : ∀ (fu : Nat) (c k : Nat) (h1 : c = cntN k (spB F O)) (h2 : k ≤ n) (h3 : nthN k (spB F O) i = -1) (hfu : n - k < fu), J none 3 mX7_spanningAt 4 [(33, 0), (0, i), (0, ((c : Nat) : Int)), (0, ((k : Nat) : Int))] [] M (j_ret mX7_spanningAt (fun z M' => z = nthN n (spB F O) i ∧ M' = M)) := by
  intro fu
  induction fu with
  | zero => intro c k h1 h2 h3 hfu; exact absurd hfu (Nat.not_lt_zero _)
  | succ fu ih =>
    intro c k h1 h2 h3 hfu
    have hn12 := MR.hn hR
    have hP7 := MR.hP hR
    have hD5 := MR.hD hR
    refine J_iload_n dX7_spanningAt_4 rfl ?_
    refine J_aload_n dX7_spanningAt_5 rfl ?_
    refine J_getI dX7_spanningAt_6 flX7_176 rfl rfl (J_top (v := ((n : Nat) : Int)) (MR.gn hR) ?_)
    refine J_icmp_ge (tgt := 36) dX7_spanningAt_9 rfl (j_R (by omega)) (j_R (by omega)) (fun h9 => ?_) (fun h9 => ?_)
    ·
      refine J_iconst dX7_spanningAt_36 ?_
      refine J_ireturn dX7_spanningAt_37 rfl ?_
      have : k = n := by omega
      subst this
      exact ⟨h3.symm, rfl⟩
    ·
      refine J_aload_n dX7_spanningAt_12 rfl ?_
      refine J_iload_n dX7_spanningAt_13 rfl ?_
      refine J_callViQ (cl := mX7_isSpanning) [(0, ((k : Nat) : Int))] [] dX7_spanningAt_14 mlX7_275 cvX7_isSpanning rfl rfl rfl rfl rfl (by decide) (Nat.le_of_ble_eq_true rfl) rfl (ev_X7_isSpanning P D n F O M hR k (by omega)) ?_
      refine J_ifb_eq (tgt := 30) dX7_spanningAt_17 rfl (fun h17 => ?_) (fun h17 => ?_)
      ·
        refine J_iinc (v := (((k + 1) : Nat) : Int)) (L' := [(33, 0), (0, i), (0, ((c : Nat) : Int)), (0, (((k + 1) : Nat) : Int))]) dX7_spanningAt_30 rfl (by omega) (by decide) rfl rfl ?_
        refine J_goto (tgt := 4) dX7_spanningAt_33 rfl ?_
        exact ih _ _ (by rw [cntN_f h17, h1]) (by omega) (by simp only [nthN]; rw [if_pos h3, if_neg (by rintro ⟨q, -⟩; rw [h17] at q; exact absurd q (by decide))]) (by omega)
      ·
        refine J_iload_n dX7_spanningAt_20 rfl ?_
        refine J_iload_n dX7_spanningAt_21 rfl ?_
        refine J_icmp_ne (tgt := 27) dX7_spanningAt_22 rfl (j_R (by have := cntN_le k (spB F O); omega)) (by omega) (fun h22 => ?_) (fun h22 => ?_)
        ·
          refine J_iinc (v := (((c + 1) : Nat) : Int)) (L' := [(33, 0), (0, i), (0, (((c + 1) : Nat) : Int)), (0, ((k : Nat) : Int))]) dX7_spanningAt_27 rfl (by omega) (by decide) rfl rfl ?_
          refine J_iinc (v := (((k + 1) : Nat) : Int)) (L' := [(33, 0), (0, i), (0, (((c + 1) : Nat) : Int)), (0, (((k + 1) : Nat) : Int))]) dX7_spanningAt_30 rfl (by omega) (by decide) rfl rfl ?_
          refine J_goto (tgt := 4) dX7_spanningAt_33 rfl ?_
          exact ih _ _ (by rw [cntN_t h17, h1]) (by omega) (by simp only [nthN]; rw [if_pos h3, if_neg (by rintro ⟨-, q⟩; omega)]) (by omega)
        ·
          refine J_iload_n dX7_spanningAt_25 rfl ?_
          refine J_ireturn dX7_spanningAt_26 rfl ?_
          exact ⟨by rw [nthN_hit h17 (by omega) (by omega)], rfl⟩
set_option maxRecDepth 100000 in
set_option maxHeartbeats 4000000 in
theorem ev_X7_spanningAt (P D n : Nat) (F O : Nat → Nat) (M : jM) (hR : MR P D n F O M) (i : Int) (hi : -2147483648 ≤ i ∧ i < 2147483648) : Ev 3 mX7_spanningAt [(33, 0), (0, i)] M (fun z M' => z = nthN n (spB F O) i ∧ M' = M) := by
  refine Ev_of (by decide +kernel) (Nat.le_of_ble_eq_true rfl) (L := [(33, 0), (0, i), (9, 0), (9, 0)]) rfl ?_
  have hn12 := MR.hn hR
  have hP7 := MR.hP hR
  have hD5 := MR.hD hR
  refine J_iconst dX7_spanningAt_0 ?_
  refine J_istore_n (L' := [(33, 0), (0, i), (0, 0), (9, 0)]) dX7_spanningAt_1 (by decide) rfl rfl ?_
  refine J_iconst dX7_spanningAt_2 ?_
  refine J_istore_n (L' := [(33, 0), (0, i), (0, 0), (0, 0)]) dX7_spanningAt_3 (by decide) rfl rfl ?_
  refine J_eq (L' := [(33, 0), (0, i), (0, ((0 : Nat) : Int)), (0, ((0 : Nat) : Int))]) rfl rfl rfl ?_
  exact ev_X7_spanningAt_L4 P D n F O M hR i hi  _ _ _ (by rfl) (by omega) (by rfl) (Nat.lt_succ_self _)
set_option maxRecDepth 100000 in
set_option maxHeartbeats 4000000 in
theorem ev_X7_cellOf_L2 (P D n : Nat) (F O : Nat → Nat) (M : jM) (hR : MR P D n F O M) (x : Nat) (hx : x < 2147483648)  : ∀ (fu : Nat) (k : Nat) (h1 : anyN k (fun k => sbs x (F (O k))) = false) (h2 : k ≤ n) (hfu : n - k < fu), J none 1 mX7_cellOf 2 [(33, 0), (0, ((x : Nat) : Int)), (0, ((k : Nat) : Int))] [] M (j_ret mX7_cellOf (fun z M' => z = fstN n (fun k => sbs x (F (O k))) (-2) ∧ M' = M)) := by
  intro fu
  induction fu with
  | zero => intro k h1 h2 hfu; exact absurd hfu (Nat.not_lt_zero _)
  | succ fu ih =>
    intro k h1 h2 hfu
    have hn12 := MR.hn hR
    have hP7 := MR.hP hR
    have hD5 := MR.hD hR
    refine J_iload_n dX7_cellOf_2 rfl ?_
    refine J_aload_n dX7_cellOf_3 rfl ?_
    refine J_getI dX7_cellOf_4 flX7_176 rfl rfl (J_top (v := ((n : Nat) : Int)) (MR.gn hR) ?_)
    refine J_icmp_ge (tgt := 36) dX7_cellOf_7 rfl (j_R (by omega)) (j_R (by omega)) (fun h7 => ?_) (fun h7 => ?_)
    ·
      refine J_bipush dX7_cellOf_36 (by decide) ?_
      refine J_ireturn dX7_cellOf_38 rfl ?_
      have : k = n := by omega
      subst this
      exact ⟨by rw [fstN_none h1], rfl⟩
    ·
      refine J_iload_n dX7_cellOf_10 rfl ?_
      refine J_aload_n dX7_cellOf_11 rfl ?_
      refine J_getR dX7_cellOf_12 flX7_17 rfl rfl ?_
      refine J_aload_n dX7_cellOf_15 rfl ?_
      refine J_getR dX7_cellOf_16 flX7_20 rfl rfl ?_
      refine J_iload_n dX7_cellOf_19 rfl ?_
      refine J_iald dX7_cellOf_20 rfl (by decide) (MR.ix hR (by omega)) (J_top (v := (((O k) : Nat) : Int)) (MR.gO hR (by omega)) ?_)
      refine J_iald dX7_cellOf_21 rfl (by decide) (MR.ix hR (MR.ob hR (by omega))) (J_top (v := (((F (O k)) : Nat) : Int)) (MR.gF hR (MR.ob hR (by omega))) ?_)
      refine J_callSiQ (cl := mX7_lies) [(0, ((x : Nat) : Int)), (0, (((F (O k)) : Nat) : Int))] [] dX7_cellOf_22 mlX7_183 csX7_lies rfl rfl (by decide) (Nat.le_of_ble_eq_true rfl) rfl (ev_X7_lies x (F (O k)) hx (MR.f31 hR (MR.ob hR (by omega))) M) ?_
      refine J_ifb_eq (tgt := 30) dX7_cellOf_25 rfl (fun h25 => ?_) (fun h25 => ?_)
      ·
        refine J_iinc (v := (((k + 1) : Nat) : Int)) (L' := [(33, 0), (0, ((x : Nat) : Int)), (0, (((k + 1) : Nat) : Int))]) dX7_cellOf_30 rfl (by omega) (by decide) rfl rfl ?_
        refine J_goto (tgt := 2) dX7_cellOf_33 rfl ?_
        exact ih _ (by rw [anyN_f (by exact h25), h1]) (by omega) (by omega)
      ·
        refine J_iload_n dX7_cellOf_28 rfl ?_
        refine J_ireturn dX7_cellOf_29 rfl ?_
        exact ⟨by rw [fstN_hit h1 h25 (by omega)], rfl⟩
set_option maxRecDepth 100000 in
set_option maxHeartbeats 4000000 in
theorem ev_X7_cellOf (P D n : Nat) (F O : Nat → Nat) (M : jM) (hR : MR P D n F O M) (x : Nat) (hx : x < 2147483648) : Ev 1 mX7_cellOf [(33, 0), (0, ((x : Nat) : Int))] M (fun z M' => z = fstN n (fun k => sbs x (F (O k))) (-2) ∧ M' = M) := by
  refine Ev_of (by decide +kernel) (Nat.le_of_ble_eq_true rfl) (L := [(33, 0), (0, ((x : Nat) : Int)), (9, 0)]) rfl ?_
  have hn12 := MR.hn hR
  have hP7 := MR.hP hR
  have hD5 := MR.hD hR
  refine J_iconst dX7_cellOf_0 ?_
  refine J_istore_n (L' := [(33, 0), (0, ((x : Nat) : Int)), (0, 0)]) dX7_cellOf_1 (by decide) rfl rfl ?_
  refine J_eq (L' := [(33, 0), (0, ((x : Nat) : Int)), (0, ((0 : Nat) : Int))]) rfl rfl rfl ?_
  exact ev_X7_cellOf_L2 P D n F O M hR x hx  _ _ (by rfl) (by omega) (Nat.lt_succ_self _)
set_option maxRecDepth 100000 in
set_option maxHeartbeats 4000000 in
theorem ev_X7_betweenOf_L4 (P D n : Nat) (F O : Nat → Nat) (M : jM) (hR : MR P D n F O M) (x : Nat) (hx : x < 2147483648)  : ∀ (fu : Nat) (c k : Nat) (h1 : c = cntN k (fun k => sbs x (F (O k)) && sbs (rst F O k) x)) (h2 : k ≤ n) (hfu : n - k < fu), J none 2 mX7_betweenOf 4 [(33, 0), (0, ((x : Nat) : Int)), (0, ((c : Nat) : Int)), (0, ((k : Nat) : Int))] [] M (j_ret mX7_betweenOf (fun z M' => z = ((cntN n (fun k => sbs x (F (O k)) && sbs (rst F O k) x) : Nat) : Int) ∧ M' = M)) := by
  intro fu
  induction fu with
  | zero => intro c k h1 h2 hfu; exact absurd hfu (Nat.not_lt_zero _)
  | succ fu ih =>
    intro c k h1 h2 hfu
    have hn12 := MR.hn hR
    have hP7 := MR.hP hR
    have hD5 := MR.hD hR
    refine J_iload_n dX7_betweenOf_4 rfl ?_
    refine J_aload_n dX7_betweenOf_5 rfl ?_
    refine J_getI dX7_betweenOf_6 flX7_176 rfl rfl (J_top (v := ((n : Nat) : Int)) (MR.gn hR) ?_)
    refine J_icmp_ge (tgt := 56) dX7_betweenOf_9 rfl (j_R (by omega)) (j_R (by omega)) (fun h9 => ?_) (fun h9 => ?_)
    ·
      refine J_iload_n dX7_betweenOf_56 rfl ?_
      refine J_ireturn dX7_betweenOf_57 rfl ?_
      have : k = n := by omega
      subst this
      exact ⟨by rw [h1], rfl⟩
    ·
      refine J_iload_n dX7_betweenOf_12 rfl ?_
      refine J_iload_n dX7_betweenOf_13 rfl ?_
      refine J_aload_n dX7_betweenOf_14 rfl ?_
      refine J_getR dX7_betweenOf_15 flX7_17 rfl rfl ?_
      refine J_aload_n dX7_betweenOf_18 rfl ?_
      refine J_getR dX7_betweenOf_19 flX7_20 rfl rfl ?_
      refine J_iload_n dX7_betweenOf_22 rfl ?_
      refine J_iald dX7_betweenOf_23 rfl (by decide) (MR.ix hR (by omega)) (J_top (v := (((O k) : Nat) : Int)) (MR.gO hR (by omega)) ?_)
      refine J_iald dX7_betweenOf_24 rfl (by decide) (MR.ix hR (MR.ob hR (by omega))) (J_top (v := (((F (O k)) : Nat) : Int)) (MR.gF hR (MR.ob hR (by omega))) ?_)
      refine J_callSiQ (cl := mX7_lies) [(0, ((x : Nat) : Int)), (0, (((F (O k)) : Nat) : Int))] [(0, ((c : Nat) : Int))] dX7_betweenOf_25 mlX7_183 csX7_lies rfl rfl (by decide) (Nat.le_of_ble_eq_true rfl) rfl (ev_X7_lies x (F (O k)) hx (MR.f31 hR (MR.ob hR (by omega))) M) ?_
      refine J_ifb_eq (tgt := 47) dX7_betweenOf_28 rfl (fun h28 => ?_) (fun h28 => ?_)
      ·
        refine J_iconst dX7_betweenOf_47 ?_
        refine J_iadd dX7_betweenOf_48 (J_top (v := ((c : Nat) : Int)) (by omega) ?_)
        refine J_istore_n (L' := [(33, 0), (0, ((x : Nat) : Int)), (0, ((c : Nat) : Int)), (0, ((k : Nat) : Int))]) dX7_betweenOf_49 (by decide) rfl rfl ?_
        refine J_iinc (v := (((k + 1) : Nat) : Int)) (L' := [(33, 0), (0, ((x : Nat) : Int)), (0, ((c : Nat) : Int)), (0, (((k + 1) : Nat) : Int))]) dX7_betweenOf_50 rfl (by omega) (by decide) rfl rfl ?_
        refine J_goto (tgt := 4) dX7_betweenOf_53 rfl ?_
        exact ih _ _ (by rw [cntN_f (by simp [h28]), h1]) (by omega) (by omega)
      ·
        refine J_aload_n dX7_betweenOf_31 rfl ?_
        refine J_iload_n dX7_betweenOf_32 rfl ?_
        refine J_callViQ (cl := mX7_restrictionAt) [(0, ((k : Nat) : Int))] [(0, ((c : Nat) : Int))] dX7_betweenOf_33 mlX7_269 cvX7_restrictionAt rfl rfl rfl rfl rfl (by decide) (Nat.le_of_ble_eq_true rfl) rfl (ev_X7_restrictionAt P D n F O M hR k (by omega)) ?_
        refine J_iload_n dX7_betweenOf_36 rfl ?_
        refine J_callSiQ (cl := mX7_lies) [(0, (((rst F O k) : Nat) : Int)), (0, ((x : Nat) : Int))] [(0, ((c : Nat) : Int))] dX7_betweenOf_37 mlX7_183 csX7_lies rfl rfl (by decide) (Nat.le_of_ble_eq_true rfl) rfl (ev_X7_lies (rst F O k) x (rst31 _ _ _) hx M) ?_
        refine J_ifb_eq (tgt := 47) dX7_betweenOf_40 rfl (fun h40 => ?_) (fun h40 => ?_)
        ·
          refine J_iconst dX7_betweenOf_47 ?_
          refine J_iadd dX7_betweenOf_48 (J_top (v := ((c : Nat) : Int)) (by omega) ?_)
          refine J_istore_n (L' := [(33, 0), (0, ((x : Nat) : Int)), (0, ((c : Nat) : Int)), (0, ((k : Nat) : Int))]) dX7_betweenOf_49 (by decide) rfl rfl ?_
          refine J_iinc (v := (((k + 1) : Nat) : Int)) (L' := [(33, 0), (0, ((x : Nat) : Int)), (0, ((c : Nat) : Int)), (0, (((k + 1) : Nat) : Int))]) dX7_betweenOf_50 rfl (by omega) (by decide) rfl rfl ?_
          refine J_goto (tgt := 4) dX7_betweenOf_53 rfl ?_
          exact ih _ _ (by rw [cntN_f (by simp [h40]), h1]) (by omega) (by omega)
        ·
          refine J_iconst dX7_betweenOf_43 ?_
          refine J_goto (tgt := 48) dX7_betweenOf_44 rfl ?_
          refine J_iadd dX7_betweenOf_48 (J_top (v := (((c + 1) : Nat) : Int)) (by omega) ?_)
          refine J_istore_n (L' := [(33, 0), (0, ((x : Nat) : Int)), (0, (((c + 1) : Nat) : Int)), (0, ((k : Nat) : Int))]) dX7_betweenOf_49 (by decide) rfl rfl ?_
          refine J_iinc (v := (((k + 1) : Nat) : Int)) (L' := [(33, 0), (0, ((x : Nat) : Int)), (0, (((c + 1) : Nat) : Int)), (0, (((k + 1) : Nat) : Int))]) dX7_betweenOf_50 rfl (by omega) (by decide) rfl rfl ?_
          refine J_goto (tgt := 4) dX7_betweenOf_53 rfl ?_
          exact ih _ _ (by rw [cntN_t (by simp [h28, h40]), h1]) (by omega) (by omega)
set_option maxRecDepth 100000 in
set_option maxHeartbeats 4000000 in
theorem ev_X7_betweenOf (P D n : Nat) (F O : Nat → Nat) (M : jM) (hR : MR P D n F O M) (x : Nat) (hx : x < 2147483648) : Ev 2 mX7_betweenOf [(33, 0), (0, ((x : Nat) : Int))] M (fun z M' => z = ((cntN n (fun k => sbs x (F (O k)) && sbs (rst F O k) x) : Nat) : Int) ∧ M' = M) := by
  refine Ev_of (by decide +kernel) (Nat.le_of_ble_eq_true rfl) (L := [(33, 0), (0, ((x : Nat) : Int)), (9, 0), (9, 0)]) rfl ?_
  have hn12 := MR.hn hR
  have hP7 := MR.hP hR
  have hD5 := MR.hD hR
  refine J_iconst dX7_betweenOf_0 ?_
  refine J_istore_n (L' := [(33, 0), (0, ((x : Nat) : Int)), (0, 0), (9, 0)]) dX7_betweenOf_1 (by decide) rfl rfl ?_
  refine J_iconst dX7_betweenOf_2 ?_
  refine J_istore_n (L' := [(33, 0), (0, ((x : Nat) : Int)), (0, 0), (0, 0)]) dX7_betweenOf_3 (by decide) rfl rfl ?_
  refine J_eq (L' := [(33, 0), (0, ((x : Nat) : Int)), (0, ((0 : Nat) : Int)), (0, ((0 : Nat) : Int))]) rfl rfl rfl ?_
  exact ev_X7_betweenOf_L4 P D n F O M hR x hx  _ _ _ (by rfl) (by omega) (Nat.lt_succ_self _)
set_option maxRecDepth 100000 in
set_option maxHeartbeats 4000000 in
theorem ev_X7_changes (P D n : Nat) (F O : Nat → Nat) (M : jM) (hR : MR P D n F O M) (k : Nat) (hk : k + 1 < n) : Ev 0 mX7_changes [(33, 0), (0, ((k : Nat) : Int))] M (fun z M' => MR P D n F (swp O k) M' ∧ Ch [26] M M') := by
  refine Ev_of (by decide +kernel) (Nat.le_of_ble_eq_true rfl) (L := [(33, 0), (0, ((k : Nat) : Int)), (9, 0)]) rfl ?_
  have hn12 := MR.hn hR
  have hP7 := MR.hP hR
  have hD5 := MR.hD hR
  refine J_aload_n dX7_changes_0 rfl ?_
  refine J_getR dX7_changes_1 flX7_20 rfl rfl ?_
  refine J_iload_n dX7_changes_4 rfl ?_
  refine J_iald dX7_changes_5 rfl (by decide) (MR.ix hR (by omega)) (J_top (v := (((O k) : Nat) : Int)) (MR.gO hR (by omega)) ?_)
  refine J_istore_n (L' := [(33, 0), (0, ((k : Nat) : Int)), (0, (((O k) : Nat) : Int))]) dX7_changes_6 (by decide) rfl rfl ?_
  refine J_aload_n dX7_changes_7 rfl ?_
  refine J_getR dX7_changes_8 flX7_20 rfl rfl ?_
  refine J_iload_n dX7_changes_11 rfl ?_
  refine J_aload_n dX7_changes_12 rfl ?_
  refine J_getR dX7_changes_13 flX7_20 rfl rfl ?_
  refine J_iload_n dX7_changes_16 rfl (J_top (v := ((k : Nat) : Int)) rfl ?_)
  refine J_iconst dX7_changes_17 ?_
  refine J_iadd dX7_changes_18 (J_top (v := (((k + 1) : Nat) : Int)) (by omega) ?_)
  refine J_iald dX7_changes_19 rfl (by decide) (MR.ix hR (by omega)) (J_top (v := (((O (k + 1)) : Nat) : Int)) (MR.gO hR (by omega)) ?_)
  refine J_iast dX7_changes_20 rfl (by decide) (by omega) ?_
  refine J_aload_n dX7_changes_21 rfl ?_
  refine J_getR dX7_changes_22 flX7_20 rfl rfl ?_
  refine J_iload_n dX7_changes_25 rfl ?_
  refine J_iconst dX7_changes_26 ?_
  refine J_iadd dX7_changes_27 (J_top (v := (((k + 1) : Nat) : Int)) (by omega) ?_)
  refine J_iload_n dX7_changes_28 rfl ?_
  refine J_iast dX7_changes_29 rfl (by decide) (by omega) ?_
  refine J_return dX7_changes_30 rfl ?_
  refine ⟨⟨swp_wf hR.wf hk, ?_, ?_, ?_, ?_, ?_, ?_⟩, Ch_up (by decide) (Ch_up (by decide) Ch_rf)⟩
  · rw [j_up_ne (by decide), j_up_ne (by decide)]; exact hR.gP
  · rw [j_up_ne (by decide), j_up_ne (by decide)]; exact hR.gD
  · rw [j_up_ne (by decide), j_up_ne (by decide)]; exact hR.gn
  · rw [j_up_ne (by decide), j_up_ne (by decide)]; exact hR.gt
  · intro i hi; rw [j_up_ne (by decide), j_up_ne (by decide)]; exact hR.gF hi
  · intro i hi
    unfold swp
    rw [j_up_ap, j_up_ap]
    by_cases e1 : i = k
    · subst e1
      rw [if_neg (by omega), if_pos ⟨rfl, rfl⟩, if_pos rfl]
    · by_cases e2 : i = k + 1
      · subst e2
        rw [if_pos ⟨rfl, by omega⟩, if_neg e1, if_pos rfl]
      · rw [if_neg (by omega), if_neg (by omega), if_neg e1, if_neg e2]
        exact hR.gO hi
set_option maxRecDepth 100000 in
set_option maxHeartbeats 4000000 in
theorem ev_X7_isLeap_L2 (P D n : Nat) (F O : Nat → Nat) (M : jM) (hR : MR P D n F O M) (pl x : Nat) (hpl : pl < n) (hx : x < 2147483648)  : ∀ (fu : Nat) (k : Nat) (h1 : anyN k (fun k => ndf (F (O pl)) (F (O k)) == x) = false) (h2 : k ≤ pl) (hfu : pl - k < fu), J none 0 mX7_isLeap 2 [(33, 0), (0, ((pl : Nat) : Int)), (0, ((x : Nat) : Int)), (0, ((k : Nat) : Int))] [] M (j_ret mX7_isLeap (fun z M' => z = ((Bool.toNat (lpB F O pl x) : Nat) : Int) ∧ M' = M)) := by
  intro fu
  induction fu with
  | zero => intro k h1 h2 hfu; exact absurd hfu (Nat.not_lt_zero _)
  | succ fu ih =>
    intro k h1 h2 hfu
    have hn12 := MR.hn hR
    have hP7 := MR.hP hR
    have hD5 := MR.hD hR
    refine J_iload_n dX7_isLeap_2 rfl ?_
    refine J_iload_n dX7_isLeap_3 rfl ?_
    refine J_icmp_ge (tgt := 44) dX7_isLeap_4 rfl (j_R (by omega)) (j_R (by omega)) (fun h4 => ?_) (fun h4 => ?_)
    ·
      refine J_iconst dX7_isLeap_44 ?_
      refine J_zreturn dX7_isLeap_45 rfl (Or.inl rfl) ?_
      have : k = pl := by omega
      subst this
      exact ⟨bf h1, rfl⟩
    ·
      refine J_aload_n dX7_isLeap_7 rfl ?_
      refine J_getR dX7_isLeap_8 flX7_17 rfl rfl ?_
      refine J_aload_n dX7_isLeap_11 rfl ?_
      refine J_getR dX7_isLeap_12 flX7_20 rfl rfl ?_
      refine J_iload_n dX7_isLeap_15 rfl ?_
      refine J_iald dX7_isLeap_16 rfl (by decide) (MR.ix hR (by omega)) (J_top (v := (((O pl) : Nat) : Int)) (MR.gO hR (by omega)) ?_)
      refine J_iald dX7_isLeap_17 rfl (by decide) (MR.ix hR (MR.ob hR (by omega))) (J_top (v := (((F (O pl)) : Nat) : Int)) (MR.gF hR (MR.ob hR (by omega))) ?_)
      refine J_aload_n dX7_isLeap_18 rfl ?_
      refine J_getR dX7_isLeap_19 flX7_17 rfl rfl ?_
      refine J_aload_n dX7_isLeap_22 rfl ?_
      refine J_getR dX7_isLeap_23 flX7_20 rfl rfl ?_
      refine J_iload_n dX7_isLeap_26 rfl ?_
      refine J_iald dX7_isLeap_27 rfl (by decide) (MR.ix hR (by omega)) (J_top (v := (((O k) : Nat) : Int)) (MR.gO hR (by omega)) ?_)
      refine J_iald dX7_isLeap_28 rfl (by decide) (MR.ix hR (MR.ob hR (by omega))) (J_top (v := (((F (O k)) : Nat) : Int)) (MR.gF hR (MR.ob hR (by omega))) ?_)
      refine J_iconst dX7_isLeap_29 ?_
      refine J_ixor dX7_isLeap_30 (J_top (v := (-(((F (O k)) : Nat) : Int) - 1)) (j_notN rfl (MR.f31 hR (MR.ob hR (by omega)))) ?_)
      refine J_iand dX7_isLeap_31 (J_top (v := (((ndf (F (O pl)) (F (O k))) : Nat) : Int)) (j_ndfN rfl rfl (MR.f31 hR (MR.ob hR (by omega)))) ?_)
      refine J_iload_n dX7_isLeap_32 rfl ?_
      refine J_icmp_ne (tgt := 38) dX7_isLeap_33 rfl (j_R (nb_ndf (MR.f31 hR (MR.ob hR (by omega))))) (j_R hx) (fun h33 => ?_) (fun h33 => ?_)
      ·
        refine J_iinc (v := (((k + 1) : Nat) : Int)) (L' := [(33, 0), (0, ((pl : Nat) : Int)), (0, ((x : Nat) : Int)), (0, (((k + 1) : Nat) : Int))]) dX7_isLeap_38 rfl (by omega) (by decide) rfl rfl ?_
        refine J_goto (tgt := 2) dX7_isLeap_41 rfl ?_
        exact ih _ (by rw [anyN_f (by exact beq_eq_false_iff_ne.mpr (by omega)), h1]) (by omega) (by omega)
      ·
        refine J_iconst dX7_isLeap_36 ?_
        refine J_zreturn dX7_isLeap_37 rfl (Or.inr rfl) ?_
        exact ⟨bt (anyN_iff.mpr ⟨k, by omega, beq_iff_eq.mpr (by omega)⟩), rfl⟩
set_option maxRecDepth 100000 in
set_option maxHeartbeats 4000000 in
theorem ev_X7_isLeap (P D n : Nat) (F O : Nat → Nat) (M : jM) (hR : MR P D n F O M) (pl x : Nat) (hpl : pl < n) (hx : x < 2147483648) : Ev 0 mX7_isLeap [(33, 0), (0, ((pl : Nat) : Int)), (0, ((x : Nat) : Int))] M (fun z M' => z = ((Bool.toNat (lpB F O pl x) : Nat) : Int) ∧ M' = M) := by
  refine Ev_of (by decide +kernel) (Nat.le_of_ble_eq_true rfl) (L := [(33, 0), (0, ((pl : Nat) : Int)), (0, ((x : Nat) : Int)), (9, 0)]) rfl ?_
  have hn12 := MR.hn hR
  have hP7 := MR.hP hR
  have hD5 := MR.hD hR
  refine J_iconst dX7_isLeap_0 ?_
  refine J_istore_n (L' := [(33, 0), (0, ((pl : Nat) : Int)), (0, ((x : Nat) : Int)), (0, 0)]) dX7_isLeap_1 (by decide) rfl rfl ?_
  refine J_eq (L' := [(33, 0), (0, ((pl : Nat) : Int)), (0, ((x : Nat) : Int)), (0, ((0 : Nat) : Int))]) rfl rfl rfl ?_
  exact ev_X7_isLeap_L2 P D n F O M hR pl x hpl hx  _ _ (by rfl) (by omega) (Nat.lt_succ_self _)
set_option maxRecDepth 100000 in
set_option maxHeartbeats 4000000 in
theorem ev_X7_isLeastLeap_L13 (P D n : Nat) (F O : Nat → Nat) (M : jM) (hR : MR P D n F O M) (pl x : Nat) (hpl : pl < n) (hx : x < 2147483648) (h6 : lpB F O pl x = true) : ∀ (fu : Nat) (o : Nat) (h1 : anyN o (fun o => sbs o x && lpB F O pl o) = false) (h2 : o ≤ x) (hfu : x - o < fu), J none 1 mX7_isLeastLeap 13 [(33, 0), (0, ((pl : Nat) : Int)), (0, ((x : Nat) : Int)), (0, ((o : Nat) : Int))] [] M (j_ret mX7_isLeastLeap (fun z M' => z = ((Bool.toNat (llB F O pl x) : Nat) : Int) ∧ M' = M)) := by
  intro fu
  induction fu with
  | zero => intro o h1 h2 hfu; exact absurd hfu (Nat.not_lt_zero _)
  | succ fu ih =>
    intro o h1 h2 hfu
    have hn12 := MR.hn hR
    have hP7 := MR.hP hR
    have hD5 := MR.hD hR
    refine J_iload_n dX7_isLeastLeap_13 rfl ?_
    refine J_iload_n dX7_isLeastLeap_14 rfl ?_
    refine J_icmp_ge (tgt := 43) dX7_isLeastLeap_15 rfl (j_R (by omega)) (j_R hx) (fun h15 => ?_) (fun h15 => ?_)
    ·
      refine J_iconst dX7_isLeastLeap_43 ?_
      refine J_zreturn dX7_isLeastLeap_44 rfl (Or.inr rfl) ?_
      have : o = x := by omega
      subst this
      exact ⟨bt (by simp [llB, h6, h1]), rfl⟩
    ·
      refine J_iload_n dX7_isLeastLeap_18 rfl ?_
      refine J_iload_n dX7_isLeastLeap_19 rfl ?_
      refine J_callSiQ (cl := mX7_lies) [(0, ((o : Nat) : Int)), (0, ((x : Nat) : Int))] [] dX7_isLeastLeap_20 mlX7_183 csX7_lies rfl rfl (by decide) (Nat.le_of_ble_eq_true rfl) rfl (ev_X7_lies o x (by omega) hx M) ?_
      refine J_ifb_eq (tgt := 37) dX7_isLeastLeap_23 rfl (fun h23 => ?_) (fun h23 => ?_)
      ·
        refine J_iinc (v := (((o + 1) : Nat) : Int)) (L' := [(33, 0), (0, ((pl : Nat) : Int)), (0, ((x : Nat) : Int)), (0, (((o + 1) : Nat) : Int))]) dX7_isLeastLeap_37 rfl (by omega) (by decide) rfl rfl ?_
        refine J_goto (tgt := 13) dX7_isLeastLeap_40 rfl ?_
        exact ih _ (by rw [anyN_f (by simp [h23]), h1]) (by omega) (by omega)
      ·
        refine J_aload_n dX7_isLeastLeap_26 rfl ?_
        refine J_iload_n dX7_isLeastLeap_27 rfl ?_
        refine J_iload_n dX7_isLeastLeap_28 rfl ?_
        refine J_callViQ (cl := mX7_isLeap) [(0, ((pl : Nat) : Int)), (0, ((o : Nat) : Int))] [] dX7_isLeastLeap_29 mlX7_295 cvX7_isLeap rfl rfl rfl rfl rfl (by decide) (Nat.le_of_ble_eq_true rfl) rfl (ev_X7_isLeap P D n F O M hR pl o (by omega) (by omega)) ?_
        refine J_ifb_eq (tgt := 37) dX7_isLeastLeap_32 rfl (fun h32 => ?_) (fun h32 => ?_)
        ·
          refine J_iinc (v := (((o + 1) : Nat) : Int)) (L' := [(33, 0), (0, ((pl : Nat) : Int)), (0, ((x : Nat) : Int)), (0, (((o + 1) : Nat) : Int))]) dX7_isLeastLeap_37 rfl (by omega) (by decide) rfl rfl ?_
          refine J_goto (tgt := 13) dX7_isLeastLeap_40 rfl ?_
          exact ih _ (by rw [anyN_f (by simp [h32]), h1]) (by omega) (by omega)
        ·
          refine J_iconst dX7_isLeastLeap_35 ?_
          refine J_zreturn dX7_isLeastLeap_36 rfl (Or.inl rfl) ?_
          exact ⟨bf (by have := anyN_iff (n := x) (p := fun o => sbs o x && lpB F O pl o) |>.mpr ⟨o, by omega, by simp [h23, h32]⟩; simp [llB, this]), rfl⟩
set_option maxRecDepth 100000 in
set_option maxHeartbeats 4000000 in
theorem ev_X7_isLeastLeap (P D n : Nat) (F O : Nat → Nat) (M : jM) (hR : MR P D n F O M) (pl x : Nat) (hpl : pl < n) (hx : x < 2147483648) : Ev 1 mX7_isLeastLeap [(33, 0), (0, ((pl : Nat) : Int)), (0, ((x : Nat) : Int))] M (fun z M' => z = ((Bool.toNat (llB F O pl x) : Nat) : Int) ∧ M' = M) := by
  refine Ev_of (by decide +kernel) (Nat.le_of_ble_eq_true rfl) (L := [(33, 0), (0, ((pl : Nat) : Int)), (0, ((x : Nat) : Int)), (9, 0)]) rfl ?_
  have hn12 := MR.hn hR
  have hP7 := MR.hP hR
  have hD5 := MR.hD hR
  refine J_aload_n dX7_isLeastLeap_0 rfl ?_
  refine J_iload_n dX7_isLeastLeap_1 rfl ?_
  refine J_iload_n dX7_isLeastLeap_2 rfl ?_
  refine J_callViQ (cl := mX7_isLeap) [(0, ((pl : Nat) : Int)), (0, ((x : Nat) : Int))] [] dX7_isLeastLeap_3 mlX7_295 cvX7_isLeap rfl rfl rfl rfl rfl (by decide) (Nat.le_of_ble_eq_true rfl) rfl (ev_X7_isLeap P D n F O M hR pl x (by omega) hx) ?_
  refine J_ifb_ne (tgt := 11) dX7_isLeastLeap_6 rfl (fun h6 => ?_) (fun h6 => ?_)
  ·
    refine J_iconst dX7_isLeastLeap_11 ?_
    refine J_istore_n (L' := [(33, 0), (0, ((pl : Nat) : Int)), (0, ((x : Nat) : Int)), (0, 0)]) dX7_isLeastLeap_12 (by decide) rfl rfl ?_
    refine J_eq (L' := [(33, 0), (0, ((pl : Nat) : Int)), (0, ((x : Nat) : Int)), (0, ((0 : Nat) : Int))]) rfl rfl rfl ?_
    exact ev_X7_isLeastLeap_L13 P D n F O M hR pl x hpl hx h6 _ _ (by rfl) (by omega) (Nat.lt_succ_self _)
  ·
    refine J_iconst dX7_isLeastLeap_9 ?_
    refine J_zreturn dX7_isLeastLeap_10 rfl (Or.inl rfl) ?_
    exact ⟨bf (by simp [llB, h6]), rfl⟩
set_option maxRecDepth 100000 in
set_option maxHeartbeats 4000000 in
theorem ev_X7_linkWhy (P D n : Nat) (F O : Nat → Nat) (M : jM) (hR : MR P D n F O M) (i : Int) (hi : -2147483648 ≤ i ∧ i < 2147483648) : Ev 2 mX7_linkWhy [(33, 0), (0, i)] M (fun z M' => z = lkW P n F i ∧ M' = M) := by
  refine Ev_of (by decide +kernel) (Nat.le_of_ble_eq_true rfl) (L := [(33, 0), (0, i)]) rfl ?_
  have hn12 := MR.hn hR
  have hP7 := MR.hP hR
  have hD5 := MR.hD hR
  refine J_aload_n dX7_linkWhy_0 rfl ?_
  refine J_getI dX7_linkWhy_1 flX7_179 rfl rfl (J_top (v := ((Bool.toNat (decide (0 < n)) : Nat) : Int)) (MR.gt hR) ?_)
  refine J_ifb_ne (tgt := 11) dX7_linkWhy_4 rfl (fun h4 => ?_) (fun h4 => ?_)
  ·
    refine J_aload_n dX7_linkWhy_11 rfl ?_
    refine J_iload_n dX7_linkWhy_12 rfl ?_
    refine J_callViQ (cl := mX7_isSet) [(0, i)] [] dX7_linkWhy_13 mlX7_234 cvX7_isSet rfl rfl rfl rfl rfl (by decide) (Nat.le_of_ble_eq_true rfl) rfl (ev_X7_isSet P D n F O M hR i (by omega)) ?_
    refine J_ifb_ne (tgt := 23) dX7_linkWhy_16 rfl (fun h16 => ?_) (fun h16 => ?_)
    ·
      refine J_aload_n dX7_linkWhy_23 rfl ?_
      refine J_iload_n dX7_linkWhy_24 rfl (J_top (v := (((Int.toNat i) : Nat) : Int)) (by have := of_decide_eq_true h16; omega) ?_)
      refine J_callViQ (cl := mX7_withinOf) [(0, (((Int.toNat i) : Nat) : Int))] [] dX7_linkWhy_25 mlX7_237 cvX7_withinOf rfl rfl rfl rfl rfl (by decide) (Nat.le_of_ble_eq_true rfl) rfl (ev_X7_withinOf P D n F O M hR (Int.toNat i) (by omega)) ?_
      refine J_if_ne (tgt := 35) dX7_linkWhy_28 rfl (j_R (ly31 hR _)) (fun h28 => ?_) (fun h28 => ?_)
      ·
        refine J_iconst dX7_linkWhy_35 ?_
        refine J_ireturn dX7_linkWhy_36 rfl ?_
        have := of_decide_eq_true h4
        have h9 := of_decide_eq_true h16
        exact ⟨by unfold lkW; rw [if_neg (by omega), if_neg (by omega), if_neg (by omega)], rfl⟩
      ·
        refine J_iconst dX7_linkWhy_31 ?_
        refine J_goto (tgt := 36) dX7_linkWhy_32 rfl ?_
        refine J_ireturn dX7_linkWhy_36 rfl ?_
        have := of_decide_eq_true h4
        have h9 := of_decide_eq_true h16
        exact ⟨by unfold lkW; rw [if_neg (by omega), if_neg (by omega), if_pos (by omega)], rfl⟩
    ·
      refine J_iconst dX7_linkWhy_19 ?_
      refine J_goto (tgt := 36) dX7_linkWhy_20 rfl ?_
      refine J_ireturn dX7_linkWhy_36 rfl ?_
      have := of_decide_eq_true h4
      have h9 := of_decide_eq_false h16
      exact ⟨by unfold lkW; rw [if_neg (by omega), if_pos h9], rfl⟩
  ·
    refine J_iconst dX7_linkWhy_7 ?_
    refine J_goto (tgt := 36) dX7_linkWhy_8 rfl ?_
    refine J_ireturn dX7_linkWhy_36 rfl ?_
    have := of_decide_eq_false h4
    exact ⟨by unfold lkW; rw [if_pos (by omega)], rfl⟩
set_option maxRecDepth 100000 in
set_option maxHeartbeats 4000000 in
theorem ev_X7_laysLink_L7 (P D n : Nat) (F O : Nat → Nat) (M : jM) (hR : MR P D n F O M) (x : Nat) (hx : x < 2147483648)  : ∀ (fu : Nat) (M1 : jM) (k : Nat) (f1 : Fz [33] [36] M M1) (f2 : M1 23 33 = ((cntN k (fun k => sbs x (F k)) : Nat) : Int)) (f3 : ∀ j : Nat, j < cntN k (fun k => sbs x (F k)) → M1 36 (j : Int) = ((ndf (F (nthN k (fun k => sbs x (F k)) (j : Int)).toNat) x : Nat) : Int)) (f4 : k ≤ n) (hfu : n - k < fu), J none 1 mX7_laysLink 7 [(33, 0), (0, ((x : Nat) : Int)), (0, ((k : Nat) : Int))] [] M1 (j_ret mX7_laysLink (fun z M' => Fz [33] [36] M M' ∧ M' 23 33 = ((lkN n F x : Nat) : Int) ∧ RowA 36 M' (lkN n F x) (lkG n F x))) := by
  intro fu
  induction fu with
  | zero => intro M1 k f1 f2 f3 f4 hfu; exact absurd hfu (Nat.not_lt_zero _)
  | succ fu ih =>
    intro M1 k f1 f2 f3 f4 hfu
    have hn12 := MR.hn hR
    have hP7 := MR.hP hR
    have hD5 := MR.hD hR
    refine J_iload_n dX7_laysLink_7 rfl ?_
    refine J_aload_n dX7_laysLink_8 rfl ?_
    refine J_getI dX7_laysLink_9 flX7_176 rfl rfl (J_top (v := ((n : Nat) : Int)) (MR.gn (mr_fz f1 (by decide) (by decide) hR)) ?_)
    refine J_icmp_ge (tgt := 63) dX7_laysLink_12 rfl (j_R (by omega)) (j_R (by omega)) (fun h12 => ?_) (fun h12 => ?_)
    ·
      refine J_return dX7_laysLink_63 rfl ?_
      have : k = n := by omega
      subst this
      exact ⟨f1, f2, fun j hj => ⟨f3 j hj, nb_ndf (MR.fb hR (by have := nthN_ge hj; omega))⟩⟩
    ·
      refine J_iload_n dX7_laysLink_15 rfl ?_
      refine J_aload_n dX7_laysLink_16 rfl ?_
      refine J_getR dX7_laysLink_17 flX7_17 rfl rfl ?_
      refine J_iload_n dX7_laysLink_20 rfl ?_
      refine J_iald dX7_laysLink_21 rfl (by decide) (MR.ix (mr_fz f1 (by decide) (by decide) hR) (by omega)) (J_top (v := (((F k) : Nat) : Int)) (MR.gF (mr_fz f1 (by decide) (by decide) hR) (by omega)) ?_)
      refine J_callSiQ (cl := mX7_lies) [(0, ((x : Nat) : Int)), (0, (((F k) : Nat) : Int))] [] dX7_laysLink_22 mlX7_183 csX7_lies rfl rfl (by decide) (Nat.le_of_ble_eq_true rfl) rfl (ev_X7_lies x (F k) hx (MR.f31 (mr_fz f1 (by decide) (by decide) hR) (by omega)) M1) ?_
      refine J_ifb_eq (tgt := 57) dX7_laysLink_25 rfl (fun h25 => ?_) (fun h25 => ?_)
      ·
        refine J_iinc (v := (((k + 1) : Nat) : Int)) (L' := [(33, 0), (0, ((x : Nat) : Int)), (0, (((k + 1) : Nat) : Int))]) dX7_laysLink_57 rfl (by omega) (by decide) rfl rfl ?_
        refine J_goto (tgt := 7) dX7_laysLink_60 rfl ?_
        exact ih _ _ (by exact f1) (by rw [f2, cntN_f (by exact h25)]) (by intro j hj; rw [cntN_f (by exact h25)] at hj; rw [f3 j hj, nthN_stay (m := k) (n := k + 1) (by have := nthN_ge hj; omega) (by omega)]) (by omega) (by omega)
      ·
        refine J_aload_n dX7_laysLink_28 rfl ?_
        refine J_getR dX7_laysLink_29 flX7_52 rfl rfl ?_
        refine J_aload_n dX7_laysLink_32 rfl ?_
        refine J_getI dX7_laysLink_33 flX7_315 rfl rfl (J_top (v := (((cntN k (fun k => sbs x (F k))) : Nat) : Int)) f2 ?_)
        refine J_aload_n dX7_laysLink_36 rfl ?_
        refine J_getR dX7_laysLink_37 flX7_17 rfl rfl ?_
        refine J_iload_n dX7_laysLink_40 rfl ?_
        refine J_iald dX7_laysLink_41 rfl (by decide) (MR.ix (mr_fz f1 (by decide) (by decide) hR) (by omega)) (J_top (v := (((F k) : Nat) : Int)) (MR.gF (mr_fz f1 (by decide) (by decide) hR) (by omega)) ?_)
        refine J_iload_n dX7_laysLink_42 rfl ?_
        refine J_iconst dX7_laysLink_43 ?_
        refine J_ixor dX7_laysLink_44 (J_top (v := (-((x : Nat) : Int) - 1)) (j_notN rfl hx) ?_)
        refine J_iand dX7_laysLink_45 (J_top (v := (((ndf (F k) x) : Nat) : Int)) (j_ndfN rfl rfl (MR.f31 (mr_fz f1 (by decide) (by decide) hR) (by omega))) ?_)
        refine J_iast dX7_laysLink_46 rfl (by decide) (by have := cntN_le k (fun k => sbs x (F k)); omega) ?_
        refine J_aload_n dX7_laysLink_47 rfl ?_
        refine J_dup dX7_laysLink_48 rfl ?_
        refine J_getI dX7_laysLink_49 flX7_315 rfl rfl (J_top (v := (((cntN k (fun k => sbs x (F k))) : Nat) : Int)) (by rw [j_up_ne (by decide)]; exact f2) ?_)
        refine J_iconst dX7_laysLink_52 ?_
        refine J_iadd dX7_laysLink_53 (J_top (v := (((cntN k (fun k => sbs x (F k)) + 1) : Nat) : Int)) (by omega) ?_)
        refine J_putI dX7_laysLink_54 flX7_315 rfl rfl (Or.inl rfl) ?_
        refine J_iinc (v := (((k + 1) : Nat) : Int)) (L' := [(33, 0), (0, ((x : Nat) : Int)), (0, (((k + 1) : Nat) : Int))]) dX7_laysLink_57 rfl (by omega) (by decide) rfl rfl ?_
        refine J_goto (tgt := 7) dX7_laysLink_60 rfl ?_
        exact ih _ _ (by exact Fz_upz (by decide) (Fz_upk (by decide) (by decide) f1)) (by rw [j_up_eq, cntN_t (by exact h25)]) (by intro j hj; rw [j_up_ne (by decide)]; rw [cntN_t (by exact h25)] at hj; by_cases hjs : j = cntN k (fun k => sbs x (F k)); rw [hjs, j_up_eq, nthN_hit (by exact h25) rfl (by omega)]; rfl; rw [j_up_nz (by omega), f3 j (by omega), nthN_stay (m := k) (n := k + 1) (by have := nthN_ge (p := (fun k => sbs x (F k))) (n := k) (i := j) (by omega); omega) (by omega)]) (by omega) (by omega)
set_option maxRecDepth 100000 in
set_option maxHeartbeats 4000000 in
theorem ev_X7_laysLink (P D n : Nat) (F O : Nat → Nat) (M : jM) (hR : MR P D n F O M) (x : Nat) (hx : x < 2147483648) : Ev 1 mX7_laysLink [(33, 0), (0, ((x : Nat) : Int))] M (fun z M' => Fz [33] [36] M M' ∧ M' 23 33 = ((lkN n F x : Nat) : Int) ∧ RowA 36 M' (lkN n F x) (lkG n F x)) := by
  refine Ev_of (by decide +kernel) (Nat.le_of_ble_eq_true rfl) (L := [(33, 0), (0, ((x : Nat) : Int)), (9, 0)]) rfl ?_
  have hn12 := MR.hn hR
  have hP7 := MR.hP hR
  have hD5 := MR.hD hR
  refine J_aload_n dX7_laysLink_0 rfl ?_
  refine J_iconst dX7_laysLink_1 ?_
  refine J_putI dX7_laysLink_2 flX7_315 rfl rfl (Or.inl rfl) ?_
  refine J_iconst dX7_laysLink_5 ?_
  refine J_istore_n (L' := [(33, 0), (0, ((x : Nat) : Int)), (0, 0)]) dX7_laysLink_6 (by decide) rfl rfl ?_
  refine J_eq (L' := [(33, 0), (0, ((x : Nat) : Int)), (0, ((0 : Nat) : Int))]) rfl rfl rfl ?_
  exact ev_X7_laysLink_L7 P D n F O M hR x hx  _ _ _ (by exact Fz_upz (by decide) Fz_rf) (by rw [j_up_eq]; rfl) (by intro j hj; simp [cntN] at hj) (by omega) (Nat.lt_succ_self _)
set_option maxRecDepth 100000 in
set_option maxHeartbeats 4000000 in
theorem ev_X7_withPoint_L5 (P D n : Nat) (F O : Nat → Nat) (M : jM) (hR : MR P D n F O M) (s p : Nat) (hs : s < 2147483648) (hp : p < 7)  : ∀ (fu : Nat) (b k : Nat) (h1 : b = mskN k (fun k => s.testBit k && (F k).testBit p)) (h2 : k ≤ n) (hfu : n - k < fu), J none 1 mX7_withPoint 5 [(33, 0), (0, ((s : Nat) : Int)), (0, ((p : Nat) : Int)), (0, ((b : Nat) : Int)), (0, ((k : Nat) : Int))] [] M (j_ret mX7_withPoint (fun z M' => z = ((wpN n F s p : Nat) : Int) ∧ M' = M)) := by
  intro fu
  induction fu with
  | zero => intro b k h1 h2 hfu; exact absurd hfu (Nat.not_lt_zero _)
  | succ fu ih =>
    intro b k h1 h2 hfu
    have hn12 := MR.hn hR
    have hP7 := MR.hP hR
    have hD5 := MR.hD hR
    refine J_iload dX7_withPoint_5 rfl ?_
    refine J_aload_n dX7_withPoint_7 rfl ?_
    refine J_getI dX7_withPoint_8 flX7_176 rfl rfl (J_top (v := ((n : Nat) : Int)) (MR.gn hR) ?_)
    refine J_icmp_ge (tgt := 54) dX7_withPoint_11 rfl (j_R (by omega)) (j_R (by omega)) (fun h11 => ?_) (fun h11 => ?_)
    ·
      refine J_iload_n dX7_withPoint_54 rfl ?_
      refine J_ireturn dX7_withPoint_55 rfl ?_
      have : k = n := by omega
      subst this
      exact ⟨by rw [h1]; rfl, rfl⟩
    ·
      refine J_iload_n dX7_withPoint_14 rfl ?_
      refine J_iload_n dX7_withPoint_15 rfl ?_
      refine J_iload dX7_withPoint_16 rfl ?_
      refine J_callSiQ (cl := mX7_has) [(0, ((s : Nat) : Int)), (0, ((k : Nat) : Int))] [(0, ((b : Nat) : Int))] dX7_withPoint_18 mlX7_132 csX7_has rfl rfl (by decide) (Nat.le_of_ble_eq_true rfl) rfl (ev_X7_has s k hs (by omega) M) ?_
      refine J_ifb_eq (tgt := 45) dX7_withPoint_21 rfl (fun h21 => ?_) (fun h21 => ?_)
      ·
        refine J_iconst dX7_withPoint_45 ?_
        refine J_ior dX7_withPoint_46 (J_top (v := ((b : Nat) : Int)) (j_or0 rfl (by rw [h1]; exact mskN_31 (by omega))) ?_)
        refine J_istore_n (L' := [(33, 0), (0, ((s : Nat) : Int)), (0, ((p : Nat) : Int)), (0, ((b : Nat) : Int)), (0, ((k : Nat) : Int))]) dX7_withPoint_47 (by decide) rfl rfl ?_
        refine J_iinc (v := (((k + 1) : Nat) : Int)) (L' := [(33, 0), (0, ((s : Nat) : Int)), (0, ((p : Nat) : Int)), (0, ((b : Nat) : Int)), (0, (((k + 1) : Nat) : Int))]) dX7_withPoint_48 rfl (by omega) (by decide) rfl rfl ?_
        refine J_goto (tgt := 5) dX7_withPoint_51 rfl ?_
        exact ih _ _ (by rw [mskN_f (by simp [h21]), h1]) (by omega) (by omega)
      ·
        refine J_aload_n dX7_withPoint_24 rfl ?_
        refine J_getR dX7_withPoint_25 flX7_17 rfl rfl ?_
        refine J_iload dX7_withPoint_28 rfl ?_
        refine J_iald dX7_withPoint_30 rfl (by decide) (MR.ix hR (by omega)) (J_top (v := (((F k) : Nat) : Int)) (MR.gF hR (by omega)) ?_)
        refine J_iload_n dX7_withPoint_31 rfl ?_
        refine J_callSiQ (cl := mX7_has) [(0, (((F k) : Nat) : Int)), (0, ((p : Nat) : Int))] [(0, ((b : Nat) : Int))] dX7_withPoint_32 mlX7_132 csX7_has rfl rfl (by decide) (Nat.le_of_ble_eq_true rfl) rfl (ev_X7_has (F k) p (MR.f31 hR (by omega)) (by omega) M) ?_
        refine J_ifb_eq (tgt := 45) dX7_withPoint_35 rfl (fun h35 => ?_) (fun h35 => ?_)
        ·
          refine J_iconst dX7_withPoint_45 ?_
          refine J_ior dX7_withPoint_46 (J_top (v := ((b : Nat) : Int)) (j_or0 rfl (by rw [h1]; exact mskN_31 (by omega))) ?_)
          refine J_istore_n (L' := [(33, 0), (0, ((s : Nat) : Int)), (0, ((p : Nat) : Int)), (0, ((b : Nat) : Int)), (0, ((k : Nat) : Int))]) dX7_withPoint_47 (by decide) rfl rfl ?_
          refine J_iinc (v := (((k + 1) : Nat) : Int)) (L' := [(33, 0), (0, ((s : Nat) : Int)), (0, ((p : Nat) : Int)), (0, ((b : Nat) : Int)), (0, (((k + 1) : Nat) : Int))]) dX7_withPoint_48 rfl (by omega) (by decide) rfl rfl ?_
          refine J_goto (tgt := 5) dX7_withPoint_51 rfl ?_
          exact ih _ _ (by rw [mskN_f (by simp [h35]), h1]) (by omega) (by omega)
        ·
          refine J_iconst dX7_withPoint_38 ?_
          refine J_iload dX7_withPoint_39 rfl ?_
          refine J_ishl dX7_withPoint_41 (J_top (v := (((2 ^ k) : Nat) : Int)) (j_shl1 rfl rfl (by omega)) ?_)
          refine J_goto (tgt := 46) dX7_withPoint_42 rfl ?_
          refine J_ior dX7_withPoint_46 (J_top (v := (((b ||| (2 ^ k)) : Nat) : Int)) (j_orN rfl rfl (by rw [h1]; exact mskN_31 (by omega)) (nb_p2 (by omega))) ?_)
          refine J_istore_n (L' := [(33, 0), (0, ((s : Nat) : Int)), (0, ((p : Nat) : Int)), (0, (((b ||| (2 ^ k)) : Nat) : Int)), (0, ((k : Nat) : Int))]) dX7_withPoint_47 (by decide) rfl rfl ?_
          refine J_iinc (v := (((k + 1) : Nat) : Int)) (L' := [(33, 0), (0, ((s : Nat) : Int)), (0, ((p : Nat) : Int)), (0, (((b ||| (2 ^ k)) : Nat) : Int)), (0, (((k + 1) : Nat) : Int))]) dX7_withPoint_48 rfl (by omega) (by decide) rfl rfl ?_
          refine J_goto (tgt := 5) dX7_withPoint_51 rfl ?_
          exact ih _ _ (by rw [mskN_t (by simp [h21, h35]), h1]) (by omega) (by omega)
set_option maxRecDepth 100000 in
set_option maxHeartbeats 4000000 in
theorem ev_X7_withPoint (P D n : Nat) (F O : Nat → Nat) (M : jM) (hR : MR P D n F O M) (s p : Nat) (hs : s < 2147483648) (hp : p < 7) : Ev 1 mX7_withPoint [(33, 0), (0, ((s : Nat) : Int)), (0, ((p : Nat) : Int))] M (fun z M' => z = ((wpN n F s p : Nat) : Int) ∧ M' = M) := by
  refine Ev_of (by decide +kernel) (Nat.le_of_ble_eq_true rfl) (L := [(33, 0), (0, ((s : Nat) : Int)), (0, ((p : Nat) : Int)), (9, 0), (9, 0)]) rfl ?_
  have hn12 := MR.hn hR
  have hP7 := MR.hP hR
  have hD5 := MR.hD hR
  refine J_iconst dX7_withPoint_0 ?_
  refine J_istore_n (L' := [(33, 0), (0, ((s : Nat) : Int)), (0, ((p : Nat) : Int)), (0, 0), (9, 0)]) dX7_withPoint_1 (by decide) rfl rfl ?_
  refine J_iconst dX7_withPoint_2 ?_
  refine J_istore (L' := [(33, 0), (0, ((s : Nat) : Int)), (0, ((p : Nat) : Int)), (0, 0), (0, 0)]) dX7_withPoint_3 (by decide) rfl rfl ?_
  refine J_eq (L' := [(33, 0), (0, ((s : Nat) : Int)), (0, ((p : Nat) : Int)), (0, ((0 : Nat) : Int)), (0, ((0 : Nat) : Int))]) rfl rfl rfl ?_
  exact ev_X7_withPoint_L5 P D n F O M hR s p hs hp  _ _ _ (by rfl) (by omega) (Nat.lt_succ_self _)
set_option maxRecDepth 100000 in
set_option maxHeartbeats 4000000 in
theorem ev_X7_allFacets (P D n : Nat) (F O : Nat → Nat) (M : jM) (hR : MR P D n F O M) : Ev 0 mX7_allFacets [(33, 0)] M (fun z M' => z = ((2 ^ n - 1 : Nat) : Int) ∧ M' = M) := by
  refine Ev_of (by decide +kernel) (Nat.le_of_ble_eq_true rfl) (L := [(33, 0)]) rfl ?_
  have hn12 := MR.hn hR
  have hP7 := MR.hP hR
  have hD5 := MR.hD hR
  refine J_iconst dX7_allFacets_0 ?_
  refine J_aload_n dX7_allFacets_1 rfl ?_
  refine J_getI dX7_allFacets_2 flX7_176 rfl rfl (J_top (v := ((n : Nat) : Int)) (MR.gn hR) ?_)
  refine J_ishl dX7_allFacets_5 (J_top (v := (((2 ^ n) : Nat) : Int)) (j_shl1 rfl rfl (by omega)) ?_)
  refine J_iconst dX7_allFacets_6 ?_
  refine J_isub dX7_allFacets_7 (J_top (v := (((2 ^ n - 1) : Nat) : Int)) (by have := Nat.two_pow_pos n; omega) ?_)
  refine J_ireturn dX7_allFacets_8 rfl ?_
  exact ⟨rfl, rfl⟩
set_option maxRecDepth 100000 in
set_option maxHeartbeats 4000000 in
theorem ev_X7_canGo_L4 (P D n : Nat) (F O : Nat → Nat) (M : jM) (hR : MR P D n F O M) (s : Nat) (hs : s < 2 ^ n)  : ∀ (fu : Nat) (b k : Nat) (h1 : b = mskN k (fun k => s.testBit k && jnS F k (ndf s (2 ^ k)))) (h2 : k ≤ n) (hfu : n - k < fu), J none 2 mX7_canGo 4 [(33, 0), (0, ((s : Nat) : Int)), (0, ((b : Nat) : Int)), (0, ((k : Nat) : Int))] [] M (j_ret mX7_canGo (fun z M' => z = ((cgN n F s : Nat) : Int) ∧ M' = M)) := by
  intro fu
  induction fu with
  | zero => intro b k h1 h2 hfu; exact absurd hfu (Nat.not_lt_zero _)
  | succ fu ih =>
    intro b k h1 h2 hfu
    have hn12 := MR.hn hR
    have hP7 := MR.hP hR
    have hD5 := MR.hD hR
    refine J_iload_n dX7_canGo_4 rfl ?_
    refine J_aload_n dX7_canGo_5 rfl ?_
    refine J_getI dX7_canGo_6 flX7_176 rfl rfl (J_top (v := ((n : Nat) : Int)) (MR.gn hR) ?_)
    refine J_icmp_ge (tgt := 54) dX7_canGo_9 rfl (j_R (by omega)) (j_R (by omega)) (fun h9 => ?_) (fun h9 => ?_)
    ·
      refine J_iload_n dX7_canGo_54 rfl ?_
      refine J_ireturn dX7_canGo_55 rfl ?_
      have : k = n := by omega
      subst this
      exact ⟨by rw [h1]; rfl, rfl⟩
    ·
      refine J_iload_n dX7_canGo_12 rfl ?_
      refine J_iload_n dX7_canGo_13 rfl ?_
      refine J_iload_n dX7_canGo_14 rfl ?_
      refine J_callSiQ (cl := mX7_has) [(0, ((s : Nat) : Int)), (0, ((k : Nat) : Int))] [(0, ((b : Nat) : Int))] dX7_canGo_15 mlX7_132 csX7_has rfl rfl (by decide) (Nat.le_of_ble_eq_true rfl) rfl (ev_X7_has s k (p12 hn12 hs) (by omega) M) ?_
      refine J_ifb_eq (tgt := 45) dX7_canGo_18 rfl (fun h18 => ?_) (fun h18 => ?_)
      ·
        refine J_iconst dX7_canGo_45 ?_
        refine J_ior dX7_canGo_46 (J_top (v := ((b : Nat) : Int)) (j_or0 rfl (by rw [h1]; exact mskN_31 (by omega))) ?_)
        refine J_istore_n (L' := [(33, 0), (0, ((s : Nat) : Int)), (0, ((b : Nat) : Int)), (0, ((k : Nat) : Int))]) dX7_canGo_47 (by decide) rfl rfl ?_
        refine J_iinc (v := (((k + 1) : Nat) : Int)) (L' := [(33, 0), (0, ((s : Nat) : Int)), (0, ((b : Nat) : Int)), (0, (((k + 1) : Nat) : Int))]) dX7_canGo_48 rfl (by omega) (by decide) rfl rfl ?_
        refine J_goto (tgt := 4) dX7_canGo_51 rfl ?_
        exact ih _ _ (by rw [mskN_f (by simp [h18]), h1]) (by omega) (by omega)
      ·
        refine J_aload_n dX7_canGo_21 rfl ?_
        refine J_getR dX7_canGo_22 flX7_17 rfl rfl ?_
        refine J_iload_n dX7_canGo_25 rfl ?_
        refine J_iload_n dX7_canGo_26 rfl ?_
        refine J_iconst dX7_canGo_27 ?_
        refine J_iload_n dX7_canGo_28 rfl ?_
        refine J_ishl dX7_canGo_29 (J_top (v := (((2 ^ k) : Nat) : Int)) (j_shl1 rfl rfl (by omega)) ?_)
        refine J_iconst dX7_canGo_30 ?_
        refine J_ixor dX7_canGo_31 (J_top (v := (-(((2 ^ k) : Nat) : Int) - 1)) (j_notN rfl (nb_p2 (by omega))) ?_)
        refine J_iand dX7_canGo_32 (J_top (v := (((ndf s (2 ^ k)) : Nat) : Int)) (j_ndfN rfl rfl (p12 hn12 hs)) ?_)
        refine J_callSiQ (cl := mX7_joinsSet) [(35, 0), (0, ((k : Nat) : Int)), (0, (((ndf s (2 ^ k)) : Nat) : Int))] [(0, ((b : Nat) : Int))] dX7_canGo_33 mlX7_262 csX7_joinsSet rfl rfl (by decide) (Nat.le_of_ble_eq_true rfl) rfl (ev_X7_joinsSet_25 n (by omega) F M (MR.row hR) k (ndf s (2 ^ k)) (by omega) (nb_ndf hs)) ?_
        refine J_ifb_eq (tgt := 45) dX7_canGo_36 rfl (fun h36 => ?_) (fun h36 => ?_)
        ·
          refine J_iconst dX7_canGo_45 ?_
          refine J_ior dX7_canGo_46 (J_top (v := ((b : Nat) : Int)) (j_or0 rfl (by rw [h1]; exact mskN_31 (by omega))) ?_)
          refine J_istore_n (L' := [(33, 0), (0, ((s : Nat) : Int)), (0, ((b : Nat) : Int)), (0, ((k : Nat) : Int))]) dX7_canGo_47 (by decide) rfl rfl ?_
          refine J_iinc (v := (((k + 1) : Nat) : Int)) (L' := [(33, 0), (0, ((s : Nat) : Int)), (0, ((b : Nat) : Int)), (0, (((k + 1) : Nat) : Int))]) dX7_canGo_48 rfl (by omega) (by decide) rfl rfl ?_
          refine J_goto (tgt := 4) dX7_canGo_51 rfl ?_
          exact ih _ _ (by rw [mskN_f (by simp [h36]), h1]) (by omega) (by omega)
        ·
          refine J_iconst dX7_canGo_39 ?_
          refine J_iload_n dX7_canGo_40 rfl ?_
          refine J_ishl dX7_canGo_41 (J_top (v := (((2 ^ k) : Nat) : Int)) (j_shl1 rfl rfl (by omega)) ?_)
          refine J_goto (tgt := 46) dX7_canGo_42 rfl ?_
          refine J_ior dX7_canGo_46 (J_top (v := (((b ||| (2 ^ k)) : Nat) : Int)) (j_orN rfl rfl (by rw [h1]; exact mskN_31 (by omega)) (nb_p2 (by omega))) ?_)
          refine J_istore_n (L' := [(33, 0), (0, ((s : Nat) : Int)), (0, (((b ||| (2 ^ k)) : Nat) : Int)), (0, ((k : Nat) : Int))]) dX7_canGo_47 (by decide) rfl rfl ?_
          refine J_iinc (v := (((k + 1) : Nat) : Int)) (L' := [(33, 0), (0, ((s : Nat) : Int)), (0, (((b ||| (2 ^ k)) : Nat) : Int)), (0, (((k + 1) : Nat) : Int))]) dX7_canGo_48 rfl (by omega) (by decide) rfl rfl ?_
          refine J_goto (tgt := 4) dX7_canGo_51 rfl ?_
          exact ih _ _ (by rw [mskN_t (by simp [h18, h36]), h1]) (by omega) (by omega)
set_option maxRecDepth 100000 in
set_option maxHeartbeats 4000000 in
theorem ev_X7_canGo (P D n : Nat) (F O : Nat → Nat) (M : jM) (hR : MR P D n F O M) (s : Nat) (hs : s < 2 ^ n) : Ev 2 mX7_canGo [(33, 0), (0, ((s : Nat) : Int))] M (fun z M' => z = ((cgN n F s : Nat) : Int) ∧ M' = M) := by
  refine Ev_of (by decide +kernel) (Nat.le_of_ble_eq_true rfl) (L := [(33, 0), (0, ((s : Nat) : Int)), (9, 0), (9, 0)]) rfl ?_
  have hn12 := MR.hn hR
  have hP7 := MR.hP hR
  have hD5 := MR.hD hR
  refine J_iconst dX7_canGo_0 ?_
  refine J_istore_n (L' := [(33, 0), (0, ((s : Nat) : Int)), (0, 0), (9, 0)]) dX7_canGo_1 (by decide) rfl rfl ?_
  refine J_iconst dX7_canGo_2 ?_
  refine J_istore_n (L' := [(33, 0), (0, ((s : Nat) : Int)), (0, 0), (0, 0)]) dX7_canGo_3 (by decide) rfl rfl ?_
  refine J_eq (L' := [(33, 0), (0, ((s : Nat) : Int)), (0, ((0 : Nat) : Int)), (0, ((0 : Nat) : Int))]) rfl rfl rfl ?_
  exact ev_X7_canGo_L4 P D n F O M hR s hs  _ _ _ (by rfl) (by omega) (Nat.lt_succ_self _)
set_option maxRecDepth 100000 in
set_option maxHeartbeats 4000000 in
theorem ev_X7_ways_L4 (a k : Nat) (ha : a ≤ 5) (hk : k ≤ a) (M : jM)  : ∀ (fu : Nat) (v i : Nat) (h1 : v = wys a i) (h2 : i ≤ k) (hfu : k - i < fu), J none 0 mX7_ways 4 [(0, ((a : Nat) : Int)), (0, ((k : Nat) : Int)), (0, ((v : Nat) : Int)), (0, ((i : Nat) : Int))] [] M (j_ret mX7_ways (fun z M' => z = ((wys a k : Nat) : Int) ∧ M' = M)) := by
  intro fu
  induction fu with
  | zero => intro v i h1 h2 hfu; exact absurd hfu (Nat.not_lt_zero _)
  | succ fu ih =>
    intro v i h1 h2 hfu
    refine J_iload_n dX7_ways_4 rfl ?_
    refine J_iload_n dX7_ways_5 rfl ?_
    refine J_icmp_ge (tgt := 25) dX7_ways_6 rfl (j_R (by omega)) (j_R (by omega)) (fun h6 => ?_) (fun h6 => ?_)
    ·
      refine J_iload_n dX7_ways_25 rfl ?_
      refine J_ireturn dX7_ways_26 rfl ?_
      have : i = k := by omega
      subst this
      exact ⟨by rw [h1], rfl⟩
    ·
      refine J_iload_n dX7_ways_9 rfl ?_
      refine J_iload_n dX7_ways_10 rfl ?_
      refine J_iload_n dX7_ways_11 rfl ?_
      refine J_isub dX7_ways_12 (J_top (v := (((a - i) : Nat) : Int)) (by omega) ?_)
      refine J_imul dX7_ways_13 (J_top (v := (((v * (a - i)) : Nat) : Int)) (Int.natCast_mul _ _).symm ?_)
      refine J_iload_n dX7_ways_14 rfl ?_
      refine J_iconst dX7_ways_15 ?_
      refine J_iadd dX7_ways_16 (J_top (v := (((i + 1) : Nat) : Int)) (by omega) ?_)
      refine J_idiv dX7_ways_17 (j_R (by omega)) (by omega) (J_top (v := ((((v * (a - i)) / (i + 1)) : Nat) : Int)) (j_divN rfl rfl (by have h9 := wys_b a ha i (by omega); have := Nat.mul_le_mul (h1 ▸ h9) (Nat.sub_le_of_le_add (by omega : a ≤ 5 + i)); omega) (by omega)) ?_)
      refine J_istore_n (L' := [(0, ((a : Nat) : Int)), (0, ((k : Nat) : Int)), (0, ((((v * (a - i)) / (i + 1)) : Nat) : Int)), (0, ((i : Nat) : Int))]) dX7_ways_18 (by decide) rfl rfl ?_
      refine J_iinc (v := (((i + 1) : Nat) : Int)) (L' := [(0, ((a : Nat) : Int)), (0, ((k : Nat) : Int)), (0, ((((v * (a - i)) / (i + 1)) : Nat) : Int)), (0, (((i + 1) : Nat) : Int))]) dX7_ways_19 rfl (by omega) (by decide) rfl rfl ?_
      refine J_goto (tgt := 4) dX7_ways_22 rfl ?_
      exact ih _ _ (by rw [h1]; rfl) (by omega) (by omega)
set_option maxRecDepth 100000 in
set_option maxHeartbeats 4000000 in
theorem ev_X7_ways (a k : Nat) (ha : a ≤ 5) (hk : k ≤ a) (M : jM) : Ev 0 mX7_ways [(0, ((a : Nat) : Int)), (0, ((k : Nat) : Int))] M (fun z M' => z = ((wys a k : Nat) : Int) ∧ M' = M) := by
  refine Ev_of (by decide +kernel) (Nat.le_of_ble_eq_true rfl) (L := [(0, ((a : Nat) : Int)), (0, ((k : Nat) : Int)), (9, 0), (9, 0)]) rfl ?_
  refine J_iconst dX7_ways_0 ?_
  refine J_istore_n (L' := [(0, ((a : Nat) : Int)), (0, ((k : Nat) : Int)), (0, 1), (9, 0)]) dX7_ways_1 (by decide) rfl rfl ?_
  refine J_iconst dX7_ways_2 ?_
  refine J_istore_n (L' := [(0, ((a : Nat) : Int)), (0, ((k : Nat) : Int)), (0, 1), (0, 0)]) dX7_ways_3 (by decide) rfl rfl ?_
  refine J_eq (L' := [(0, ((a : Nat) : Int)), (0, ((k : Nat) : Int)), (0, ((1 : Nat) : Int)), (0, ((0 : Nat) : Int))]) rfl rfl rfl ?_
  exact ev_X7_ways_L4 a k ha hk M  _ _ _ (by rfl) (by omega) (Nat.lt_succ_self _)
