def trX (x p q : Nat) : Nat := if x.testBit p = x.testBit q then x else x ^^^ (2 ^ p ||| 2 ^ q)
theorem trX_bit (x p q i : Nat) : (trX x p q).testBit i = if i = p then x.testBit q else if i = q then x.testBit p else x.testBit i := by
  unfold trX
  by_cases h : x.testBit p = x.testBit q
  · rw [if_pos h]
    split
    · rename_i e; rw [e, h]
    · split
      · rename_i e; rw [e, h]
      · rfl
  · rw [if_neg h, Nat.testBit_xor, Nat.testBit_or, Nat.testBit_two_pow, Nat.testBit_two_pow]
    by_cases e1 : i = p
    · subst e1
      rw [if_pos rfl]
      cases h1 : x.testBit i <;> cases h2 : x.testBit q <;> simp_all
    · rw [if_neg e1]
      by_cases e2 : i = q
      · subst e2
        rw [if_pos rfl]
        cases h1 : x.testBit i <;> cases h2 : x.testBit p <;> simp_all
      · rw [if_neg e2]
        simp [show ¬ p = i from fun q => e1 q.symm, show ¬ q = i from fun q => e2 q.symm]
theorem trX_trX (x p q : Nat) : trX (trX x p q) p q = x := by
  apply Nat.eq_of_testBit_eq
  intro i
  rw [trX_bit, trX_bit, trX_bit, trX_bit]
  by_cases e1 : i = p
  · rw [if_pos e1, if_pos rfl]
    by_cases e3 : q = p
    · rw [if_pos e3, e1, e3]
    · rw [if_neg e3, e1]
  · rw [if_neg e1]
    by_cases e2 : i = q
    · rw [if_pos e2, if_pos rfl, e2]
    · rw [if_neg e2, if_neg e1, if_neg e2]
theorem lt_of_bits {x m : Nat} (h : ∀ i, m ≤ i → x.testBit i = false) : x < 2 ^ m := Nat.lt_pow_two_of_testBit x h
theorem trX_lt {x p q m : Nat} (hx : x < 2 ^ m) (hp : p < m) (hq : q < m) : trX x p q < 2 ^ m := by
  apply lt_of_bits
  intro i hi
  rw [trX_bit, if_neg (by omega), if_neg (by omega)]
  exact Nat.testBit_lt_two_pow (Nat.lt_of_lt_of_le hx (Nat.pow_le_pow_right (by decide) hi))
theorem popc_split {x p : Nat} (h : x.testBit p = true) : popc x = popc (ndf x (2 ^ p)) + 1 := by
  have h1 : (ndf x (2 ^ p)).testBit p = false := by rw [ndf_bit, Nat.testBit_two_pow_self]; simp
  have h2 : ndf x (2 ^ p) ||| 2 ^ p = x := by
    apply Nat.eq_of_testBit_eq
    intro i
    rw [Nat.testBit_or, ndf_bit, Nat.testBit_two_pow]
    by_cases e : p = i
    · subst e; rw [h]; simp
    · simp [e]
  rw [← popc_add h1, h2]
theorem trX_popc (x p q : Nat) : popc (trX x p q) = popc x := by
  by_cases h : x.testBit p = x.testBit q
  · unfold trX; rw [if_pos h]
  · have key : ∀ y a b : Nat, y.testBit a = true → y.testBit b = false → popc (trX y a b) = popc y := by
      intro y a b ha hb
      have hab : ¬ a = b := by intro e; rw [e, hb] at ha; exact absurd ha (by decide)
      have h2 : (trX y a b).testBit b = true := by rw [trX_bit, if_neg (fun e => hab e.symm), if_pos rfl]; exact ha
      rw [popc_split ha, popc_split h2]
      congr 2
      apply Nat.eq_of_testBit_eq
      intro i
      rw [ndf_bit, ndf_bit, trX_bit, Nat.testBit_two_pow, Nat.testBit_two_pow]
      by_cases e1 : i = a
      · subst e1
        rw [if_pos rfl, hb]
        simp
      · rw [if_neg e1]
        by_cases e2 : i = b
        · subst e2
          rw [hb]
          simp
        · rw [if_neg e2]
          simp [show ¬ a = i from fun q => e1 q.symm, show ¬ b = i from fun q => e2 q.symm]
    cases hp : x.testBit p
    · cases hq : x.testBit q
      · rw [hp, hq] at h; exact absurd rfl h
      · have hs : trX x p q = trX x q p := by
          apply Nat.eq_of_testBit_eq
          intro i
          rw [trX_bit, trX_bit]
          by_cases e1 : i = p
          · rw [if_pos e1]
            by_cases e2 : i = q
            · rw [if_pos e2]; rw [← e1, ← e2]
            · rw [if_neg e2, if_pos e1]
          · rw [if_neg e1, if_neg e1]
        rw [hs]
        exact key x q p hq hp
    · cases hq : x.testBit q
      · exact key x p q hp hq
      · rw [hp, hq] at h; exact absurd rfl h
def trF (F : Nat → Nat) (p q : Nat) : Nat → Nat := fun k => trX (F k) p q
theorem tr_wf {P D n : Nat} {F O : Nat → Nat} (h : WF P D n F O) {p q : Nat} (hp : p < P) (hq : q < P) : WF P D n (trF F p q) O := by
  obtain ⟨h1, h2, h3, h4, h5, h6, h7, h8, h9, h10⟩ := h
  refine ⟨h1, h2, h3, h4, ?_, ?_, h7, h8, h9, h10⟩
  · intro i hi
    exact ⟨trX_lt (h5 i hi).1 hp hq, (trX_popc _ _ _).trans (h5 i hi).2⟩
  · intro i j hi hj e
    have := congrArg (fun y => trX y p q) e
    simp only [trF, trX_trX] at this
    exact h6 i j hi hj this
def bTu (P n : Nat) (i j : Int) : Bool := bT n && decide ((0 ≤ i ∧ i < (P : Int)) ∧ (0 ≤ j ∧ j < (P : Int)) ∧ ¬ i = j)
def trQ (F : Nat → Nat) (p q : Nat) : Nat → Bool := fun k => (F k).testBit p != (F k).testBit q
def A_turn (P n : Nat) (F : Nat → Nat) (i j : Int) : Int := if bTu P n i j = true then (cntN n (trQ F i.toNat j.toNat) : Int) else -1
def A_breaks (n : Nat) (F O : Nat → Nat) (i : Int) : Int := nthN n (fun k => !jnA F O k) i
theorem b_inj {a b : Bool} (h : ((a.toNat : Nat) : Int) = ((b.toNat : Nat) : Int)) : a = b := by cases a <;> cases b <;> simp_all
set_option maxRecDepth 100000 in
set_option maxHeartbeats 4000000 in
theorem ev_X7_turn_L65 (P D n : Nat) (F O : Nat → Nat) (tl : Nat) (tb : Nat → Nat) (fa tr wh : Int) (M : jM) (hS : MS P D n F O tl tb fa tr wh M) (i : Int) (hi : -2147483648 ≤ i ∧ i < 2147483648) (j : Int) (hj : -2147483648 ≤ j ∧ j < 2147483648) (h4 : decide (0 < n) = true) (h18 : decide (0 ≤ i ∧ i ≤ ((P : Nat) : Int) - 1) = true) (h32 : decide (0 ≤ j ∧ j ≤ ((P : Nat) : Int) - 1) = true) (h37 : ¬ i = j) : ∀ (fu : Nat) (M2 : jM) (k : Nat) (f1 : Ch [25] (j_up (j_up (j_up M 23 0 0) 23 3 (-1)) 23 1 (if true = true then 0 else 1)) M2) (f2 : ∀ x : Nat, x < n → M2 25 (x : Int) = (((if x < k then (trF F (Int.toNat i) (Int.toNat j)) x else F x) : Nat) : Int)) (f3 : k ≤ n) (hfu : n - k < fu), J none 1 mX7_turn 65 [(33, 0), (0, (((Int.toNat i) : Nat) : Int)), (0, (((Int.toNat j) : Nat) : Int)), (9, 0), (0, (((cntN k (trQ F (Int.toNat i) (Int.toNat j))) : Nat) : Int)), (0, ((k : Nat) : Int))] [] M2 (j_ret mX7_turn (fun z M' => z = A_turn P n F i j ∧ MS P D n (nw (u1 (bTu P n i j)) (trF F i.toNat j.toNat) F) O tl tb fa (u1 (bTu P n i j)) 0 M' ∧ CM M M')) := by
  intro fu
  induction fu with
  | zero => intro M2 k f1 f2 f3 hfu; exact absurd hfu (Nat.not_lt_zero _)
  | succ fu ih =>
    intro M2 k f1 f2 f3 hfu
    have hR := hS.1
    have hn12 := MR.hn hR
    have hP7 := MR.hP hR
    have hD5 := MR.hD hR
    have hi2 : Int.toNat i < P := by have := of_decide_eq_true h18; omega
    have hj2 : Int.toNat j < P := by have := of_decide_eq_true h32; omega
    refine J_iload dX7_turn_65 rfl ?_
    refine J_aload_n dX7_turn_67 rfl ?_
    refine J_getI dX7_turn_68 flX7_176 rfl rfl (J_top (v := ((n : Nat) : Int)) (by rw [f1 23 (by decide)]; exact MR.gn (mr_upF (by decide) (mr_upF (by decide) (mr_upF (by decide) hR)))) ?_)
    refine J_icmp_ge (tgt := 125) dX7_turn_71 rfl (j_R (by omega)) (j_R (by omega)) (fun h71 => ?_) (fun h71 => ?_)
    ·
      refine J_iload dX7_turn_125 rfl ?_
      refine J_ireturn dX7_turn_127 rfl ?_
      have hv : bTu P n i j = true := by unfold bTu bT; rw [h4, decide_eq_true (by have := of_decide_eq_true h18; have := of_decide_eq_true h32; omega)]; rfl
      rw [nw_t (u1_t hv)]
      have hr5 := mr_fac f1 (by decide) (by decide) (tr_wf hR.wf hi2 hj2) (fun x hx => by rw [f2 x hx, if_pos (by omega)]) (mr_upF (by decide) (mr_upF (by decide) (mr_upF (by decide) hR)))
      refine ⟨by unfold A_turn; rw [if_pos hv, show k = n by omega], ?_, cm_tr cm_ref (cm_ch f1 (by decide))⟩
      rw [u1_t hv]; exact ms_mr (zs := []) (Fz_ch f1 (by decide)) (by decide) (by decide) hr5 (ms_rfE rfl (by decide) hS)
    ·
      refine J_aload_n dX7_turn_74 rfl ?_
      refine J_getR dX7_turn_75 flX7_17 rfl rfl ?_
      refine J_iload dX7_turn_78 rfl ?_
      refine J_iald dX7_turn_80 rfl (by decide) (MR.ix hR (by omega)) (J_top (v := (((F k) : Nat) : Int)) (by rw [f2 k (by omega), if_neg (by omega)]) ?_)
      refine J_iload_n dX7_turn_81 rfl ?_
      refine J_callSiQ (cl := mX7_has) [(0, (((F k) : Nat) : Int)), (0, (((Int.toNat i) : Nat) : Int))] [] dX7_turn_82 mlX7_132 csX7_has rfl rfl (by decide) (Nat.le_of_ble_eq_true rfl) rfl (ev_X7_has (F k) (Int.toNat i) (MR.f31 hR (by omega)) (by omega) M2) ?_
      refine J_aload_n dX7_turn_85 rfl ?_
      refine J_getR dX7_turn_86 flX7_17 rfl rfl ?_
      refine J_iload dX7_turn_89 rfl ?_
      refine J_iald dX7_turn_91 rfl (by decide) (MR.ix hR (by omega)) (J_top (v := (((F k) : Nat) : Int)) (by rw [f2 k (by omega), if_neg (by omega)]) ?_)
      refine J_iload_n dX7_turn_92 rfl ?_
      refine J_callSiQ (cl := mX7_has) [(0, (((F k) : Nat) : Int)), (0, (((Int.toNat j) : Nat) : Int))] [(0, ((Bool.toNat (Nat.testBit (F k) (Int.toNat i)) : Nat) : Int))] dX7_turn_93 mlX7_132 csX7_has rfl rfl (by decide) (Nat.le_of_ble_eq_true rfl) rfl (ev_X7_has (F k) (Int.toNat j) (MR.f31 hR (by omega)) (by omega) M2) ?_
      refine J_icmp_eq (tgt := 119) dX7_turn_96 rfl (j_R (nb_bool _)) (j_R (nb_bool _)) (fun h96 => ?_) (fun h96 => ?_)
      ·
        refine J_eq (L' := [(33, 0), (0, (((Int.toNat i) : Nat) : Int)), (0, (((Int.toNat j) : Nat) : Int)), (9, 0), (0, (((cntN (k + 1) (trQ F (Int.toNat i) (Int.toNat j))) : Nat) : Int)), (0, ((k : Nat) : Int))]) (by rw [cntN_f (k := k) (by unfold trQ; rw [bne_eq_false_iff_eq]; exact b_inj h96)]) rfl rfl ?_
        refine J_iinc (v := (((k + 1) : Nat) : Int)) (L' := [(33, 0), (0, (((Int.toNat i) : Nat) : Int)), (0, (((Int.toNat j) : Nat) : Int)), (9, 0), (0, (((cntN (k + 1) (trQ F (Int.toNat i) (Int.toNat j))) : Nat) : Int)), (0, (((k + 1) : Nat) : Int))]) dX7_turn_119 rfl (by omega) (by decide) rfl rfl ?_
        refine J_goto (tgt := 65) dX7_turn_122 rfl ?_
        exact ih _ _ (by exact f1) (by intro x hx; rw [f2 x hx]; by_cases e : x = k; rw [if_neg (by omega), if_pos (by omega), e]; unfold trF trX; rw [if_pos (b_inj h96)]; by_cases e2 : x < k; rw [if_pos e2, if_pos (by omega)]; rw [if_neg e2, if_neg (by omega)]) (by omega) (by omega)
      ·
        refine J_aload_n dX7_turn_99 rfl ?_
        refine J_getR dX7_turn_100 flX7_17 rfl rfl ?_
        refine J_iload dX7_turn_103 rfl ?_
        refine J_dup2 dX7_turn_105 rfl rfl ?_
        refine J_iald dX7_turn_106 rfl (by decide) (MR.ix hR (by omega)) (J_top (v := (((F k) : Nat) : Int)) (by rw [f2 k (by omega), if_neg (by omega)]) ?_)
        refine J_iconst dX7_turn_107 ?_
        refine J_iload_n dX7_turn_108 rfl ?_
        refine J_ishl dX7_turn_109 (J_top (v := (((2 ^ (Int.toNat i)) : Nat) : Int)) (j_shl1 rfl rfl (by omega)) ?_)
        refine J_iconst dX7_turn_110 ?_
        refine J_iload_n dX7_turn_111 rfl ?_
        refine J_ishl dX7_turn_112 (J_top (v := (((2 ^ (Int.toNat j)) : Nat) : Int)) (j_shl1 rfl rfl (by omega)) ?_)
        refine J_ior dX7_turn_113 (J_top (v := ((((2 ^ (Int.toNat i)) ||| (2 ^ (Int.toNat j))) : Nat) : Int)) (j_orN rfl rfl (nb_p2 (by omega)) (nb_p2 (by omega))) ?_)
        refine J_ixor dX7_turn_114 (J_top (v := ((((F k) ^^^ ((2 ^ (Int.toNat i)) ||| (2 ^ (Int.toNat j)))) : Nat) : Int)) (j_xorN rfl rfl (MR.f31 hR (by omega)) (nb_or (nb_p2 (by omega)) (nb_p2 (by omega)))) ?_)
        refine J_iast dX7_turn_115 rfl (by decide) (by omega) ?_
        refine J_iinc (v := ((((cntN k (trQ F (Int.toNat i) (Int.toNat j))) + 1) : Nat) : Int)) (L' := [(33, 0), (0, (((Int.toNat i) : Nat) : Int)), (0, (((Int.toNat j) : Nat) : Int)), (9, 0), (0, ((((cntN k (trQ F (Int.toNat i) (Int.toNat j))) + 1) : Nat) : Int)), (0, ((k : Nat) : Int))]) dX7_turn_116 rfl (by omega) (by decide) rfl rfl ?_
        refine J_eq (L' := [(33, 0), (0, (((Int.toNat i) : Nat) : Int)), (0, (((Int.toNat j) : Nat) : Int)), (9, 0), (0, (((cntN (k + 1) (trQ F (Int.toNat i) (Int.toNat j))) : Nat) : Int)), (0, ((k : Nat) : Int))]) (by rw [cntN_t (k := k) (by unfold trQ; rw [bne_iff_ne]; exact fun e => h96 (by rw [e]))]) rfl rfl ?_
        refine J_iinc (v := (((k + 1) : Nat) : Int)) (L' := [(33, 0), (0, (((Int.toNat i) : Nat) : Int)), (0, (((Int.toNat j) : Nat) : Int)), (9, 0), (0, (((cntN (k + 1) (trQ F (Int.toNat i) (Int.toNat j))) : Nat) : Int)), (0, (((k + 1) : Nat) : Int))]) dX7_turn_119 rfl (by omega) (by decide) rfl rfl ?_
        refine J_goto (tgt := 65) dX7_turn_122 rfl ?_
        exact ih _ _ (by exact Ch_up (by decide) f1) (by intro x hx; by_cases e : x = k; rw [e, j_up_eq, if_pos (by omega)]; unfold trF trX; rw [if_neg (fun e => h96 (by rw [e]))]; rw [j_up_nz (by omega), f2 x hx]; by_cases e2 : x < k; rw [if_pos e2, if_pos (by omega)]; rw [if_neg e2, if_neg (by omega)]) (by omega) (by omega)
set_option maxRecDepth 100000 in
set_option maxHeartbeats 4000000 in
theorem ev_X7_turn (P D n : Nat) (F O : Nat → Nat) (tl : Nat) (tb : Nat → Nat) (fa tr wh : Int) (M : jM) (hS : MS P D n F O tl tb fa tr wh M) (i : Int) (hi : -2147483648 ≤ i ∧ i < 2147483648) (j : Int) (hj : -2147483648 ≤ j ∧ j < 2147483648) : Ev 1 mX7_turn [(33, 0), (0, i), (0, j)] M (fun z M' => z = A_turn P n F i j ∧ MS P D n (nw (u1 (bTu P n i j)) (trF F i.toNat j.toNat) F) O tl tb fa (u1 (bTu P n i j)) 0 M' ∧ CM M M') := by
  refine Ev_of (by decide +kernel) (Nat.le_of_ble_eq_true rfl) (L := [(33, 0), (0, i), (0, j), (9, 0), (9, 0), (9, 0)]) rfl ?_
  have hR := hS.1
  have hn12 := MR.hn hR
  have hP7 := MR.hP hR
  have hD5 := MR.hD hR
  refine J_aload_n dX7_turn_0 rfl ?_
  refine J_getI dX7_turn_1 flX7_179 rfl rfl (J_top (v := ((Bool.toNat (decide (0 < n)) : Nat) : Int)) (MR.gt hR) ?_)
  refine J_ifb_eq (tgt := 44) dX7_turn_4 rfl (fun h4 => ?_) (fun h4 => ?_)
  ·
    refine J_iconst dX7_turn_44 ?_
    refine J_istore_n (L' := [(33, 0), (0, i), (0, j), (0, 0), (9, 0), (9, 0)]) dX7_turn_45 (by decide) rfl rfl ?_
    refine J_aload_n dX7_turn_46 rfl ?_
    refine J_iload_n dX7_turn_47 rfl ?_
    refine J_callSiQ (cl := mX7_unless) [(0, ((Bool.toNat (false) : Nat) : Int))] [(33, 0)] dX7_turn_48 mlX7_199 csX7_unless rfl rfl (by decide) (Nat.le_of_ble_eq_true rfl) rfl (ev_X7_unless (false) M) ?_
    refine J_callViQ (cl := mX7_isRefused) [(0, (if (false) = true then 0 else 1))] [] dX7_turn_51 mlX7_159 cvX7_isRefused rfl rfl rfl rfl rfl (by decide) (Nat.le_of_ble_eq_true rfl) rfl (ev_X7_isRefused (if (false) = true then 0 else 1) (ifR _ (by decide) (by decide)) M) (J_top (v := ((Bool.toNat (!(false)) : Nat) : Int)) (rf_un _) ?_)
    refine J_ifn_eq (b := (false)) (tgt := 59) dX7_turn_54 rfl (fun h54 => ?_) (fun h54 => ?_)
    · exact absurd h54 (by decide)
    ·
      refine J_iconst dX7_turn_57 ?_
      refine J_ireturn dX7_turn_58 rfl ?_
      have hv : bTu P n i j = false := by unfold bTu bT; rw [h4]; rfl
      have hz : ¬ u1 (bTu P n i j) = 0 := by rw [u1_f hv]; decide
      rw [nw_f hz]
      refine ⟨by unfold A_turn; rw [hv]; rfl, ?_, cm_ref⟩
      rw [u1_f hv]; exact ms_rfE rfl (by decide) hS
  ·
    refine J_iload_n dX7_turn_7 rfl ?_
    refine J_iconst dX7_turn_8 ?_
    refine J_aload_n dX7_turn_9 rfl ?_
    refine J_getI dX7_turn_10 flX7_171 rfl rfl (J_top (v := ((P : Nat) : Int)) (MR.gP hR) ?_)
    refine J_iconst dX7_turn_13 ?_
    refine J_isub dX7_turn_14 ?_
    refine J_callSiQ (cl := mX7_in) [(0, i), (0, 0), (0, (((P : Nat) : Int) - 1))] [] dX7_turn_15 mlX7_84 csX7_in rfl rfl (by decide) (Nat.le_of_ble_eq_true rfl) rfl (ev_X7_in i 0 (((P : Nat) : Int) - 1) (by omega) (by decide) (by omega) M) ?_
    refine J_ifb_eq (tgt := 44) dX7_turn_18 rfl (fun h18 => ?_) (fun h18 => ?_)
    ·
      refine J_iconst dX7_turn_44 ?_
      refine J_istore_n (L' := [(33, 0), (0, i), (0, j), (0, 0), (9, 0), (9, 0)]) dX7_turn_45 (by decide) rfl rfl ?_
      refine J_aload_n dX7_turn_46 rfl ?_
      refine J_iload_n dX7_turn_47 rfl ?_
      refine J_callSiQ (cl := mX7_unless) [(0, ((Bool.toNat (false) : Nat) : Int))] [(33, 0)] dX7_turn_48 mlX7_199 csX7_unless rfl rfl (by decide) (Nat.le_of_ble_eq_true rfl) rfl (ev_X7_unless (false) M) ?_
      refine J_callViQ (cl := mX7_isRefused) [(0, (if (false) = true then 0 else 1))] [] dX7_turn_51 mlX7_159 cvX7_isRefused rfl rfl rfl rfl rfl (by decide) (Nat.le_of_ble_eq_true rfl) rfl (ev_X7_isRefused (if (false) = true then 0 else 1) (ifR _ (by decide) (by decide)) M) (J_top (v := ((Bool.toNat (!(false)) : Nat) : Int)) (rf_un _) ?_)
      refine J_ifn_eq (b := (false)) (tgt := 59) dX7_turn_54 rfl (fun h54 => ?_) (fun h54 => ?_)
      · exact absurd h54 (by decide)
      ·
        refine J_iconst dX7_turn_57 ?_
        refine J_ireturn dX7_turn_58 rfl ?_
        have hv : bTu P n i j = false := by unfold bTu bT; rw [Bool.and_eq_false_iff]; right; exact decide_eq_false (fun q => by have := of_decide_eq_false h18; omega)
        have hz : ¬ u1 (bTu P n i j) = 0 := by rw [u1_f hv]; decide
        rw [nw_f hz]
        refine ⟨by unfold A_turn; rw [hv]; rfl, ?_, cm_ref⟩
        rw [u1_f hv]; exact ms_rfE rfl (by decide) hS
    ·
      refine J_iload_n dX7_turn_21 rfl ?_
      refine J_iconst dX7_turn_22 ?_
      refine J_aload_n dX7_turn_23 rfl ?_
      refine J_getI dX7_turn_24 flX7_171 rfl rfl (J_top (v := ((P : Nat) : Int)) (MR.gP hR) ?_)
      refine J_iconst dX7_turn_27 ?_
      refine J_isub dX7_turn_28 ?_
      refine J_callSiQ (cl := mX7_in) [(0, j), (0, 0), (0, (((P : Nat) : Int) - 1))] [] dX7_turn_29 mlX7_84 csX7_in rfl rfl (by decide) (Nat.le_of_ble_eq_true rfl) rfl (ev_X7_in j 0 (((P : Nat) : Int) - 1) (by omega) (by decide) (by omega) M) ?_
      refine J_ifb_eq (tgt := 44) dX7_turn_32 rfl (fun h32 => ?_) (fun h32 => ?_)
      ·
        refine J_iconst dX7_turn_44 ?_
        refine J_istore_n (L' := [(33, 0), (0, i), (0, j), (0, 0), (9, 0), (9, 0)]) dX7_turn_45 (by decide) rfl rfl ?_
        refine J_aload_n dX7_turn_46 rfl ?_
        refine J_iload_n dX7_turn_47 rfl ?_
        refine J_callSiQ (cl := mX7_unless) [(0, ((Bool.toNat (false) : Nat) : Int))] [(33, 0)] dX7_turn_48 mlX7_199 csX7_unless rfl rfl (by decide) (Nat.le_of_ble_eq_true rfl) rfl (ev_X7_unless (false) M) ?_
        refine J_callViQ (cl := mX7_isRefused) [(0, (if (false) = true then 0 else 1))] [] dX7_turn_51 mlX7_159 cvX7_isRefused rfl rfl rfl rfl rfl (by decide) (Nat.le_of_ble_eq_true rfl) rfl (ev_X7_isRefused (if (false) = true then 0 else 1) (ifR _ (by decide) (by decide)) M) (J_top (v := ((Bool.toNat (!(false)) : Nat) : Int)) (rf_un _) ?_)
        refine J_ifn_eq (b := (false)) (tgt := 59) dX7_turn_54 rfl (fun h54 => ?_) (fun h54 => ?_)
        · exact absurd h54 (by decide)
        ·
          refine J_iconst dX7_turn_57 ?_
          refine J_ireturn dX7_turn_58 rfl ?_
          have hv : bTu P n i j = false := by unfold bTu bT; rw [Bool.and_eq_false_iff]; right; exact decide_eq_false (fun q => by have := of_decide_eq_false h32; omega)
          have hz : ¬ u1 (bTu P n i j) = 0 := by rw [u1_f hv]; decide
          rw [nw_f hz]
          refine ⟨by unfold A_turn; rw [hv]; rfl, ?_, cm_ref⟩
          rw [u1_f hv]; exact ms_rfE rfl (by decide) hS
      ·
        refine J_iload_n dX7_turn_35 rfl ?_
        refine J_iload_n dX7_turn_36 rfl ?_
        refine J_icmp_eq (tgt := 44) dX7_turn_37 rfl (by omega) (by omega) (fun h37 => ?_) (fun h37 => ?_)
        ·
          refine J_iconst dX7_turn_44 ?_
          refine J_istore_n (L' := [(33, 0), (0, i), (0, j), (0, 0), (9, 0), (9, 0)]) dX7_turn_45 (by decide) rfl rfl ?_
          refine J_aload_n dX7_turn_46 rfl ?_
          refine J_iload_n dX7_turn_47 rfl ?_
          refine J_callSiQ (cl := mX7_unless) [(0, ((Bool.toNat (false) : Nat) : Int))] [(33, 0)] dX7_turn_48 mlX7_199 csX7_unless rfl rfl (by decide) (Nat.le_of_ble_eq_true rfl) rfl (ev_X7_unless (false) M) ?_
          refine J_callViQ (cl := mX7_isRefused) [(0, (if (false) = true then 0 else 1))] [] dX7_turn_51 mlX7_159 cvX7_isRefused rfl rfl rfl rfl rfl (by decide) (Nat.le_of_ble_eq_true rfl) rfl (ev_X7_isRefused (if (false) = true then 0 else 1) (ifR _ (by decide) (by decide)) M) (J_top (v := ((Bool.toNat (!(false)) : Nat) : Int)) (rf_un _) ?_)
          refine J_ifn_eq (b := (false)) (tgt := 59) dX7_turn_54 rfl (fun h54 => ?_) (fun h54 => ?_)
          · exact absurd h54 (by decide)
          ·
            refine J_iconst dX7_turn_57 ?_
            refine J_ireturn dX7_turn_58 rfl ?_
            have hv : bTu P n i j = false := by unfold bTu bT; rw [Bool.and_eq_false_iff]; right; exact decide_eq_false (fun q => q.2.2 h37)
            have hz : ¬ u1 (bTu P n i j) = 0 := by rw [u1_f hv]; decide
            rw [nw_f hz]
            refine ⟨by unfold A_turn; rw [hv]; rfl, ?_, cm_ref⟩
            rw [u1_f hv]; exact ms_rfE rfl (by decide) hS
        ·
          refine J_iconst dX7_turn_40 ?_
          refine J_goto (tgt := 45) dX7_turn_41 rfl ?_
          refine J_istore_n (L' := [(33, 0), (0, i), (0, j), (0, 1), (9, 0), (9, 0)]) dX7_turn_45 (by decide) rfl rfl ?_
          refine J_aload_n dX7_turn_46 rfl ?_
          refine J_iload_n dX7_turn_47 rfl ?_
          refine J_callSiQ (cl := mX7_unless) [(0, ((Bool.toNat (true) : Nat) : Int))] [(33, 0)] dX7_turn_48 mlX7_199 csX7_unless rfl rfl (by decide) (Nat.le_of_ble_eq_true rfl) rfl (ev_X7_unless (true) M) ?_
          refine J_callViQ (cl := mX7_isRefused) [(0, (if (true) = true then 0 else 1))] [] dX7_turn_51 mlX7_159 cvX7_isRefused rfl rfl rfl rfl rfl (by decide) (Nat.le_of_ble_eq_true rfl) rfl (ev_X7_isRefused (if (true) = true then 0 else 1) (ifR _ (by decide) (by decide)) M) (J_top (v := ((Bool.toNat (!(true)) : Nat) : Int)) (rf_un _) ?_)
          refine J_ifn_eq (b := (true)) (tgt := 59) dX7_turn_54 rfl (fun h54 => ?_) (fun h54 => ?_)
          ·
            have hi2 : Int.toNat i < P := by have := of_decide_eq_true h18; omega
            have hj2 : Int.toNat j < P := by have := of_decide_eq_true h32; omega
            refine J_eq (L' := [(33, 0), (0, (((Int.toNat i) : Nat) : Int)), (0, j), (0, 1), (9, 0), (9, 0)]) (by rw [Int.toNat_of_nonneg (a := i) (by have := of_decide_eq_true h18; omega)]) rfl rfl ?_
            refine J_iconst dX7_turn_59 ?_
            refine J_eq (L' := [(33, 0), (0, (((Int.toNat i) : Nat) : Int)), (0, (((Int.toNat j) : Nat) : Int)), (0, 1), (9, 0), (9, 0)]) (by rw [Int.toNat_of_nonneg (a := j) (by have := of_decide_eq_true h32; omega)]) rfl rfl ?_
            refine J_istore (L' := [(33, 0), (0, (((Int.toNat i) : Nat) : Int)), (0, (((Int.toNat j) : Nat) : Int)), (0, 1), (0, 0), (9, 0)]) dX7_turn_60 (by decide) rfl rfl ?_
            refine J_iconst dX7_turn_62 ?_
            refine J_istore (L' := [(33, 0), (0, (((Int.toNat i) : Nat) : Int)), (0, (((Int.toNat j) : Nat) : Int)), (0, 1), (0, 0), (0, 0)]) dX7_turn_63 (by decide) rfl rfl ?_
            refine J_unset 3 (L' := [(33, 0), (0, (((Int.toNat i) : Nat) : Int)), (0, (((Int.toNat j) : Nat) : Int)), (9, 0), (0, 0), (0, 0)]) rfl ?_
            refine J_eq (L' := [(33, 0), (0, (((Int.toNat i) : Nat) : Int)), (0, (((Int.toNat j) : Nat) : Int)), (9, 0), (0, ((0 : Nat) : Int)), (0, ((0 : Nat) : Int))]) rfl rfl rfl ?_
            exact ev_X7_turn_L65 P D n F O tl tb fa tr wh M hS i hi j hj h4 h18 h32 h37 _ _ _ (by exact Ch_rf) (by intro x hx; rw [if_neg (c := x < 0) (by omega)]; exact MR.gF (mr_upF (by decide) (mr_upF (by decide) (mr_upF (by decide) hR))) hx) (by exact Nat.zero_le _) (Nat.lt_succ_self _)
          · exact absurd h54 (by decide)
set_option maxRecDepth 100000 in
set_option maxHeartbeats 4000000 in
theorem ev_X7_breaks_L9 (P D n : Nat) (F O : Nat → Nat) (tl : Nat) (tb : Nat → Nat) (fa tr wh : Int) (M : jM) (hS : MS P D n F O tl tb fa tr wh M) (i : Int) (hi : -2147483648 ≤ i ∧ i < 2147483648) (M1 : jM) (hM1 : M1 = j_up M 23 0 0) : ∀ (fu : Nat) (k : Nat) (f1 : nthN k (fun k => !jnA F O k) i = -1) (f2 : k ≤ n) (hfu : n - k < fu), J none 3 mX7_breaks 9 [(33, 0), (0, i), (0, (((cntN k (fun k => !jnA F O k)) : Nat) : Int)), (0, ((k : Nat) : Int))] [] M1 (j_ret mX7_breaks (fun z M' => z = (if A_breaks n F O i = -1 then 0 else A_breaks n F O i) ∧ M' 23 0 = (if A_breaks n F O i = -1 then 1 else 0) ∧ MS P D n F O tl tb fa tr wh M' ∧ CM M M')) := by
  intro fu
  induction fu with
  | zero => intro k f1 f2 hfu; exact absurd hfu (Nat.not_lt_zero _)
  | succ fu ih =>
    intro k f1 f2 hfu
    have hR := hS.1
    have hn12 := MR.hn hR
    have hP7 := MR.hP hR
    have hD5 := MR.hD hR
    have hR1 : MR P D n F O M1 := by rw [hM1]; exact mr_upF (by decide) hR
    refine J_aload_n dX7_breaks_9 rfl ?_
    refine J_getI dX7_breaks_10 flX7_179 rfl rfl (J_top (v := ((Bool.toNat (decide (0 < n)) : Nat) : Int)) (MR.gt hR1) ?_)
    refine J_ifb_eq (tgt := 48) dX7_breaks_13 rfl (fun h13 => ?_) (fun h13 => ?_)
    ·
      refine J_aload_n dX7_breaks_48 rfl ?_
      refine J_iconst dX7_breaks_49 ?_
      refine J_putI dX7_breaks_50 flX7_55 rfl rfl (Or.inl rfl) ?_
      refine J_iconst dX7_breaks_53 ?_
      refine J_ireturn dX7_breaks_54 rfl ?_
      rw [show k = n by have := of_decide_eq_false h13; omega] at f1
      have e0 : A_breaks n F O i = -1 := f1
      subst hM1
      rw [e0, if_pos rfl, if_pos rfl]
      exact ⟨rfl, j_up_eq, ms_up0 (ms_up0 hS), cm_up (cm_up cm_rf)⟩
    ·
      refine J_iload_n dX7_breaks_16 rfl ?_
      refine J_aload_n dX7_breaks_17 rfl ?_
      refine J_getI dX7_breaks_18 flX7_176 rfl rfl (J_top (v := ((n : Nat) : Int)) (MR.gn hR1) ?_)
      refine J_icmp_ge (tgt := 48) dX7_breaks_21 rfl (j_R (by omega)) (j_R (by omega)) (fun h21 => ?_) (fun h21 => ?_)
      ·
        refine J_aload_n dX7_breaks_48 rfl ?_
        refine J_iconst dX7_breaks_49 ?_
        refine J_putI dX7_breaks_50 flX7_55 rfl rfl (Or.inl rfl) ?_
        refine J_iconst dX7_breaks_53 ?_
        refine J_ireturn dX7_breaks_54 rfl ?_
        rw [show k = n by omega] at f1
        have e0 : A_breaks n F O i = -1 := f1
        subst hM1
        rw [e0, if_pos rfl, if_pos rfl]
        exact ⟨rfl, j_up_eq, ms_up0 (ms_up0 hS), cm_up (cm_up cm_rf)⟩
      ·
        refine J_aload_n dX7_breaks_24 rfl ?_
        refine J_iload_n dX7_breaks_25 rfl ?_
        refine J_callViQ (cl := mX7_joinsAt) [(0, ((k : Nat) : Int))] [] dX7_breaks_26 mlX7_266 cvX7_joinsAt rfl rfl rfl rfl rfl (by decide) (Nat.le_of_ble_eq_true rfl) rfl (ev_X7_joinsAt P D n F O M1 hR1 k (by omega)) ?_
        refine J_ifb_ne (tgt := 42) dX7_breaks_29 rfl (fun h29 => ?_) (fun h29 => ?_)
        ·
          refine J_eq (L' := [(33, 0), (0, i), (0, (((cntN (k + 1) (fun k => !jnA F O k)) : Nat) : Int)), (0, ((k : Nat) : Int))]) (by rw [cntN_f (k := k) (by rw [h29]; rfl)]) rfl rfl ?_
          refine J_iinc (v := (((k + 1) : Nat) : Int)) (L' := [(33, 0), (0, i), (0, (((cntN (k + 1) (fun k => !jnA F O k)) : Nat) : Int)), (0, (((k + 1) : Nat) : Int))]) dX7_breaks_42 rfl (by omega) (by decide) rfl rfl ?_
          refine J_goto (tgt := 9) dX7_breaks_45 rfl ?_
          exact ih _ (by simp only [nthN]; rw [if_pos f1, if_neg (fun q => absurd q.1 (by rw [h29]; decide))]) (by omega) (by omega)
        ·
          refine J_iload_n dX7_breaks_32 rfl ?_
          refine J_iload_n dX7_breaks_33 rfl ?_
          refine J_icmp_ne (tgt := 39) dX7_breaks_34 rfl (j_R (by have := cntN_le k (fun k => !jnA F O k); omega)) (by omega) (fun h34 => ?_) (fun h34 => ?_)
          ·
            refine J_iinc (v := ((((cntN k (fun k => !jnA F O k)) + 1) : Nat) : Int)) (L' := [(33, 0), (0, i), (0, ((((cntN k (fun k => !jnA F O k)) + 1) : Nat) : Int)), (0, ((k : Nat) : Int))]) dX7_breaks_39 rfl (by omega) (by decide) rfl rfl ?_
            refine J_eq (L' := [(33, 0), (0, i), (0, (((cntN (k + 1) (fun k => !jnA F O k)) : Nat) : Int)), (0, ((k : Nat) : Int))]) (by rw [cntN_t (k := k) (by rw [h29]; rfl)]) rfl rfl ?_
            refine J_iinc (v := (((k + 1) : Nat) : Int)) (L' := [(33, 0), (0, i), (0, (((cntN (k + 1) (fun k => !jnA F O k)) : Nat) : Int)), (0, (((k + 1) : Nat) : Int))]) dX7_breaks_42 rfl (by omega) (by decide) rfl rfl ?_
            refine J_goto (tgt := 9) dX7_breaks_45 rfl ?_
            exact ih _ (by simp only [nthN]; rw [if_pos f1, if_neg (fun q => by have := q.2; omega)]) (by omega) (by omega)
          ·
            refine J_iload_n dX7_breaks_37 rfl ?_
            refine J_ireturn dX7_breaks_38 rfl ?_
            have e0 : A_breaks n F O i = ((k : Nat) : Int) := nthN_hit (by rw [h29]; rfl) (by omega) (by omega)
            subst hM1
            rw [e0, if_neg (by omega), if_neg (by omega)]
            exact ⟨rfl, j_up_eq, ms_up0 hS, cm_up cm_rf⟩
set_option maxRecDepth 100000 in
set_option maxHeartbeats 4000000 in
theorem ev_X7_breaks (P D n : Nat) (F O : Nat → Nat) (tl : Nat) (tb : Nat → Nat) (fa tr wh : Int) (M : jM) (hS : MS P D n F O tl tb fa tr wh M) (i : Int) (hi : -2147483648 ≤ i ∧ i < 2147483648) : Ev 3 mX7_breaks [(33, 0), (0, i)] M (fun z M' => z = (if A_breaks n F O i = -1 then 0 else A_breaks n F O i) ∧ M' 23 0 = (if A_breaks n F O i = -1 then 1 else 0) ∧ MS P D n F O tl tb fa tr wh M' ∧ CM M M') := by
  refine Ev_of (by decide +kernel) (Nat.le_of_ble_eq_true rfl) (L := [(33, 0), (0, i), (9, 0), (9, 0)]) rfl ?_
  have hR := hS.1
  have hn12 := MR.hn hR
  have hP7 := MR.hP hR
  have hD5 := MR.hD hR
  refine J_aload_n dX7_breaks_0 rfl ?_
  refine J_iconst dX7_breaks_1 ?_
  refine J_putI dX7_breaks_2 flX7_55 rfl rfl (Or.inl rfl) ?_
  refine J_iconst dX7_breaks_5 ?_
  refine J_istore_n (L' := [(33, 0), (0, i), (0, 0), (9, 0)]) dX7_breaks_6 (by decide) rfl rfl ?_
  refine J_iconst dX7_breaks_7 ?_
  refine J_istore_n (L' := [(33, 0), (0, i), (0, 0), (0, 0)]) dX7_breaks_8 (by decide) rfl rfl ?_
  refine J_eq (L' := [(33, 0), (0, i), (0, ((0 : Nat) : Int)), (0, ((0 : Nat) : Int))]) rfl rfl rfl ?_
  exact ev_X7_breaks_L9 P D n F O tl tb fa tr wh M hS i hi _ rfl _ _ (by rfl) (by exact Nat.zero_le _) (Nat.lt_succ_self _)
