theorem popc_sub {a b : Nat} (h : ∀ i, a.testBit i = true → b.testBit i = true) : popc a ≤ popc b := by
  have ha : a < 2 ^ (a + b) := Nat.lt_of_lt_of_le (lt_two_pow_self' a) (Nat.pow_le_pow_right (by decide) (by omega))
  have hb : b < 2 ^ (a + b) := Nat.lt_of_lt_of_le (lt_two_pow_self' b) (Nat.pow_le_pow_right (by decide) (by omega))
  rw [popc_cnt _ a ha, popc_cnt _ b hb]
  exact cntN_sub (fun k _ => h k)
theorem rst_sub (F O : Nat → Nat) (k i : Nat) (h : (rst F O k).testBit i = true) : (F (O k)).testBit i = true := by
  unfold rst at h
  rw [mskN_bit] at h
  simp only [Bool.and_eq_true] at h
  exact h.2.1
theorem rst_pop {P D n : Nat} {F O : Nat → Nat} (h : WF P D n F O) {k : Nat} (hk : k < n) : popc (rst F O k) ≤ D := by
  have := popc_sub (rst_sub F O k)
  rw [(h.2.2.2.2.1 (O k) (h.2.2.2.2.2.2.1 k hk)).2] at this
  exact this
def mnS (n : Nat) (F O : Nat → Nat) : Nat := smN n (fun k => popc (rst F O k))
theorem mnS_le {P D n : Nat} {F O : Nat → Nat} (h : WF P D n F O) {k : Nat} (hk : k ≤ n) : mnS k F O ≤ 5 * k := by
  induction k with
  | zero => exact Nat.zero_le _
  | succ k ih =>
    have h1 := ih (by omega)
    have h2 := rst_pop h (k := k) (by omega)
    have h3 := h.2.1
    unfold mnS at h1 ⊢
    simp only [smN]
    omega
def A_mean (n : Nat) (F O : Nat → Nat) : Int := if bT n = true then j_ddiv (j_i2d (mnS n F O : Int)) (j_i2d (n : Int)) else 13830554455654793216
theorem mn_ne {P D n : Nat} {F O : Nat → Nat} (h : WF P D n F O) (h0 : 0 < n) : vf_n64 (FP.ddiv (UInt64.ofNat (j_i2d (mnS n F O : Int)).toNat) (UInt64.ofNat (j_i2d (n : Int)).toNat)) := by
  have h1 := mnS_le h (Nat.le_refl n)
  have h2 := h.2.2.1
  obtain ⟨m, rfl⟩ : ∃ m, n = m + 1 := ⟨n - 1, by omega⟩
  have h3 := dOK_all (mnS (m + 1) F O) (by omega) m (by omega)
  unfold dOK at h3
  have h4 := of_decide_eq_true h3
  exact h4
def dlB (x : Nat) : Nat → Nat
  | 0 => x
  | k + 1 => dlB (x &&& (x - 1)) k
theorem dlB_ok : ∀ k x, k < popc x → ¬ dlB x k = 0 ∧ ∀ i, (dlB x k).testBit i = true → x.testBit i = true := by
  intro k
  induction k with
  | zero => intro x h; exact ⟨fun e => by simp only [dlB] at e; rw [e, popc_zero] at h; omega, fun i hi => hi⟩
  | succ k ih =>
    intro x h
    have hx : x ≠ 0 := by intro e; rw [e, popc_zero] at h; omega
    have h1 := popc_pred hx
    obtain ⟨a, b⟩ := ih (x &&& (x - 1)) (by omega)
    refine ⟨a, fun i hi => ?_⟩
    have := b i hi
    rw [Nat.testBit_and, Bool.and_eq_true] at this
    exact this.1
def drw (now : Nat) : Nat := (75 * now + 74) % 65537
def pdX (n : Nat) (F : Nat → Nat) (left now : Nat) : Nat := ndf left (lwb (dlB (cgN n F left) (drw now % popc (cgN n F left))))
def pdN (n : Nat) (F : Nat → Nat) : Nat → Nat → Nat → Nat
  | 0, left, _ => popc left
  | f + 1, left, now => if 1 < popc left ∧ ¬ cgN n F left = 0 then pdN n F f (pdX n F left now) (drw now) else popc left
theorem pd_sub {n : Nat} {F : Nat → Nat} {left now : Nat} (h : ¬ cgN n F left = 0) : popc (pdX n F left now) + 1 ≤ popc left := by
  obtain ⟨h1, h2⟩ := dlB_ok (drw now % popc (cgN n F left)) (cgN n F left) (Nat.mod_lt _ (popc_pos h))
  obtain ⟨k, k1, _, k3⟩ := lwb_bit h1
  unfold pdX
  rw [k3]
  apply popc_rem
  have := h2 k k1
  unfold cgN at this
  rw [mskN_bit] at this
  simp only [Bool.and_eq_true] at this
  exact this.2.1
def b5 (k : Int) : Bool := decide (0 ≤ k ∧ k ≤ 65536)
def A_peeled (n : Nat) (F : Nat → Nat) (k : Int) : Int := if (bT n && b5 k) = true then (pdN n F 12 (2 ^ n - 1) k.toNat : Int) else -1
theorem pd_step {n : Nat} {F : Nat → Nat} {f left now : Nat} (h1 : 1 < popc left) (h2 : ¬ cgN n F left = 0) (hf : popc left ≤ f) : pdN n F f left now = pdN n F (f - 1) (pdX n F left now) (drw now) := by
  obtain ⟨g, rfl⟩ : ∃ g, f = g + 1 := ⟨f - 1, by omega⟩
  simp only [pdN]
  rw [if_pos ⟨h1, h2⟩]
  rfl
theorem pd_stop {n : Nat} {F : Nat → Nat} {f left now : Nat} (h : ¬ (1 < popc left ∧ ¬ cgN n F left = 0)) : pdN n F f left now = popc left := by
  cases f with
  | zero => rfl
  | succ f => simp only [pdN]; rw [if_neg h]
theorem dl31 {n : Nat} {F : Nat → Nat} {lf x : Nat} (h : ¬ cgN n F lf = 0) (hn : n ≤ 30) : dlB (cgN n F lf) (x % popc (cgN n F lf)) < 2147483648 := by
  have h1 := (dlB_ok (x % popc (cgN n F lf)) (cgN n F lf) (Nat.mod_lt _ (popc_pos h))).2
  have h2 : cgN n F lf < 2 ^ n := mskN_lt _ _
  refine Nat.lt_of_lt_of_le (lt_of_bits (m := n) (fun i hi => ?_)) (Nat.le_trans (Nat.pow_le_pow_right (by decide) hn) (by decide))
  cases q : (dlB (cgN n F lf) (x % popc (cgN n F lf))).testBit i
  · rfl
  · have := h1 i q
    rw [Nat.testBit_lt_two_pow (Nat.lt_of_lt_of_le h2 (Nat.pow_le_pow_right (by decide) hi))] at this
    exact absurd this (by decide)
set_option maxRecDepth 100000 in
set_option maxHeartbeats 4000000 in
theorem ev_X7_mean_L22 (P D n : Nat) (F O : Nat → Nat) (tl : Nat) (tb : Nat → Nat) (fa tr wh : Int) (M : jM) (hS : MS P D n F O tl tb fa tr wh M) (M1 : jM) (hM1 : M1 = (j_up (j_up (j_up M 23 0 0) 23 3 (-1)) 23 1 (if decide (0 < n) = true then 0 else 1))) (h11 : decide (0 < n) = true) : ∀ (fu : Nat) (k : Nat) (f2 : k ≤ n) (hfu : n - k < fu), J none 2 mX7_mean 22 [(33, 0), (0, (((mnS k F O) : Nat) : Int)), (0, ((k : Nat) : Int))] [] M1 (j_ret mX7_mean (fun z M' => z = A_mean n F O ∧ MS P D n F O tl tb fa (u1 (bT n)) 0 M' ∧ CM M M')) := by
  intro fu
  induction fu with
  | zero => intro k f2 hfu; exact absurd hfu (Nat.not_lt_zero _)
  | succ fu ih =>
    intro k f2 hfu
    have hR := hS.1
    have hn12 := MR.hn hR
    have hP7 := MR.hP hR
    have hD5 := MR.hD hR
    have hR1 : MR P D n F O M1 := by rw [hM1]; exact mr_upF (by decide) (mr_upF (by decide) (mr_upF (by decide) hR))
    refine J_iload_n dX7_mean_22 rfl ?_
    refine J_aload_n dX7_mean_23 rfl ?_
    refine J_getI dX7_mean_24 flX7_176 rfl rfl (J_top (v := ((n : Nat) : Int)) (MR.gn hR1) ?_)
    refine J_icmp_ge (tgt := 47) dX7_mean_27 rfl (j_R (by omega)) (j_R (by omega)) (fun h27 => ?_) (fun h27 => ?_)
    ·
      refine J_eq (L' := [(33, 0), (0, (((mnS n F O) : Nat) : Int)), (0, ((k : Nat) : Int))]) (by rw [show k = n by omega]) rfl rfl ?_
      refine J_iload_n dX7_mean_47 rfl ?_
      refine J_i2d dX7_mean_48 ?_
      refine J_aload_n dX7_mean_49 rfl ?_
      refine J_getI dX7_mean_50 flX7_176 rfl rfl (J_top (v := ((n : Nat) : Int)) (MR.gn hR1) ?_)
      refine J_i2d dX7_mean_53 ?_
      refine J_ddiv dX7_mean_54 (mn_ne hR.wf (of_decide_eq_true h11)) ?_
      refine J_dreturn dX7_mean_55 rfl ?_
      subst hM1
      exact ⟨by unfold A_mean bT; rw [if_pos h11], by unfold u1 bT; exact ms_ref if01 hS, cm_ref⟩
    ·
      refine J_iload_n dX7_mean_30 rfl ?_
      refine J_aload_n dX7_mean_31 rfl ?_
      refine J_iload_n dX7_mean_32 rfl ?_
      refine J_callViQ (cl := mX7_restrictionAt) [(0, ((k : Nat) : Int))] [(0, (((mnS k F O) : Nat) : Int))] dX7_mean_33 mlX7_269 cvX7_restrictionAt rfl rfl rfl rfl rfl (by decide) (Nat.le_of_ble_eq_true rfl) rfl (ev_X7_restrictionAt P D n F O M1 hR1 k (by omega)) ?_
      refine J_callSiQ (cl := mX7_many) [(0, (((rst F O k) : Nat) : Int))] [(0, (((mnS k F O) : Nat) : Int))] dX7_mean_36 mlX7_136 csX7_many rfl rfl (by decide) (Nat.le_of_ble_eq_true rfl) rfl (ev_X7_many (rst F O k) (rst31 _ _ _) M1) ?_
      refine J_iadd dX7_mean_39 (J_top (v := ((((mnS k F O) + (popc (rst F O k))) : Nat) : Int)) (by omega) ?_)
      refine J_istore_n (L' := [(33, 0), (0, ((((mnS k F O) + (popc (rst F O k))) : Nat) : Int)), (0, ((k : Nat) : Int))]) dX7_mean_40 (by decide) rfl rfl ?_
      refine J_eq (L' := [(33, 0), (0, (((mnS (k + 1) F O) : Nat) : Int)), (0, ((k : Nat) : Int))]) rfl rfl rfl ?_
      refine J_iinc (v := (((k + 1) : Nat) : Int)) (L' := [(33, 0), (0, (((mnS (k + 1) F O) : Nat) : Int)), (0, (((k + 1) : Nat) : Int))]) dX7_mean_41 rfl (by omega) (by decide) rfl rfl ?_
      refine J_goto (tgt := 22) dX7_mean_44 rfl ?_
      exact ih _ (by omega) (by omega)
set_option maxRecDepth 100000 in
set_option maxHeartbeats 4000000 in
theorem ev_X7_mean (P D n : Nat) (F O : Nat → Nat) (tl : Nat) (tb : Nat → Nat) (fa tr wh : Int) (M : jM) (hS : MS P D n F O tl tb fa tr wh M) : Ev 2 mX7_mean [(33, 0)] M (fun z M' => z = A_mean n F O ∧ MS P D n F O tl tb fa (u1 (bT n)) 0 M' ∧ CM M M') := by
  refine Ev_of (by decide +kernel) (Nat.le_of_ble_eq_true rfl) (L := [(33, 0), (9, 0), (9, 0)]) rfl ?_
  have hR := hS.1
  have hn12 := MR.hn hR
  have hP7 := MR.hP hR
  have hD5 := MR.hD hR
  refine J_aload_n dX7_mean_0 rfl ?_
  refine J_aload_n dX7_mean_1 rfl ?_
  refine J_getI dX7_mean_2 flX7_179 rfl rfl (J_top (v := ((Bool.toNat (decide (0 < n)) : Nat) : Int)) (MR.gt hR) ?_)
  refine J_callSiQ (cl := mX7_unless) [(0, ((Bool.toNat (decide (0 < n)) : Nat) : Int))] [(33, 0)] dX7_mean_5 mlX7_199 csX7_unless rfl rfl (by decide) (Nat.le_of_ble_eq_true rfl) rfl (ev_X7_unless (decide (0 < n)) M) ?_
  refine J_callViQ (cl := mX7_isRefused) [(0, (if (decide (0 < n)) = true then 0 else 1))] [] dX7_mean_8 mlX7_159 cvX7_isRefused rfl rfl rfl rfl rfl (by decide) (Nat.le_of_ble_eq_true rfl) rfl (ev_X7_isRefused (if (decide (0 < n)) = true then 0 else 1) (ifR _ (by decide) (by decide)) M) (J_top (v := ((Bool.toNat (!(decide (0 < n))) : Nat) : Int)) (rf_un _) ?_)
  refine J_ifn_eq (b := (decide (0 < n))) (tgt := 18) dX7_mean_11 rfl (fun h11 => ?_) (fun h11 => ?_)
  ·
    refine J_iconst dX7_mean_18 ?_
    refine J_istore_n (L' := [(33, 0), (0, 0), (9, 0)]) dX7_mean_19 (by decide) rfl rfl ?_
    refine J_iconst dX7_mean_20 ?_
    refine J_istore_n (L' := [(33, 0), (0, 0), (0, 0)]) dX7_mean_21 (by decide) rfl rfl ?_
    refine J_eq (L' := [(33, 0), (0, ((0 : Nat) : Int)), (0, ((0 : Nat) : Int))]) rfl rfl rfl ?_
    exact ev_X7_mean_L22 P D n F O tl tb fa tr wh M hS _ rfl h11 _ _ (by exact Nat.zero_le _) (Nat.lt_succ_self _)
  ·
    refine J_ldc2d (n := 13830554455654793216) dX7_mean_14 kdX7_284 ?_
    refine J_dreturn dX7_mean_17 rfl ?_
    exact ⟨by unfold A_mean bT; rw [h11]; rfl, by unfold u1 bT; exact ms_ref if01 hS, cm_ref⟩
set_option maxRecDepth 100000 in
set_option maxHeartbeats 4000000 in
theorem ev_X7_peeled_L76 (P D n : Nat) (F O : Nat → Nat) (tl : Nat) (tb : Nat → Nat) (fa tr wh : Int) (M : jM) (hS : MS P D n F O tl tb fa tr wh M) (k : Int) (hk : -2147483648 ≤ k ∧ k < 2147483648) (M1 : jM) (hM1 : M1 = (j_up (j_up (j_up M 23 0 0) 23 3 (-1)) 23 1 (if decide (0 < n) = true then (if decide (0 ≤ k ∧ k ≤ 65536) = true then 0 else 2) else 1))) (h19 : (decide (0 < n) && decide (0 ≤ k ∧ k ≤ 65536)) = true) (lf nw0 : Nat) (f2 : lf < 2 ^ n) (f4 : nw0 < 65537) (hne : ¬ cgN n F lf = 0) (K0 : J none 3 mX7_peeled 96 [(33, 0), (0, k), (0, ((lf : Nat) : Int)), (0, (((drw nw0) : Nat) : Int)), (0, (((dlB (cgN n F lf) (drw nw0 % popc (cgN n F lf))) : Nat) : Int)), (9, 0)] [] M1 (j_ret mX7_peeled (fun z M' => z = A_peeled n F k ∧ MS P D n F O tl tb fa (u2 (bT n) (b5 k)) 0 M' ∧ CM M M'))) : ∀ (fu : Nat) (c k2 : Nat) (g1 : dlB c k2 = (dlB (cgN n F lf) (drw nw0 % popc (cgN n F lf)))) (g2 : k2 < popc c) (g3 : c < 2147483648) (hfu : k2 < fu), J none 3 mX7_peeled 76 [(33, 0), (0, k), (0, ((lf : Nat) : Int)), (0, (((drw nw0) : Nat) : Int)), (0, ((c : Nat) : Int)), (0, ((k2 : Nat) : Int))] [] M1 (j_ret mX7_peeled (fun z M' => z = A_peeled n F k ∧ MS P D n F O tl tb fa (u2 (bT n) (b5 k)) 0 M' ∧ CM M M')) := by
  intro fu
  induction fu with
  | zero => intro c k2 g1 g2 g3 hfu; exact absurd hfu (Nat.not_lt_zero _)
  | succ fu ih =>
    intro c k2 g1 g2 g3 hfu
    have hR := hS.1
    have hn12 := MR.hn hR
    have hP7 := MR.hP hR
    have hD5 := MR.hD hR
    have hR1 : MR P D n F O M1 := by rw [hM1]; exact mr_upF (by decide) (mr_upF (by decide) (mr_upF (by decide) hR))
    refine J_iload dX7_peeled_76 rfl ?_
    refine J_if_le (tgt := 96) dX7_peeled_78 rfl (j_R (by have := popc_lt g3; omega)) (fun h78 => ?_) (fun h78 => ?_)
    ·
      refine J_eq (L' := [(33, 0), (0, k), (0, ((lf : Nat) : Int)), (0, (((drw nw0) : Nat) : Int)), (0, (((dlB (cgN n F lf) (drw nw0 % popc (cgN n F lf))) : Nat) : Int)), (0, ((k2 : Nat) : Int))]) (by rw [← g1, show k2 = 0 by omega]; rfl) rfl rfl ?_
      refine J_unset 5 (L' := [(33, 0), (0, k), (0, ((lf : Nat) : Int)), (0, (((drw nw0) : Nat) : Int)), (0, (((dlB (cgN n F lf) (drw nw0 % popc (cgN n F lf))) : Nat) : Int)), (9, 0)]) rfl ?_
      exact K0  
    ·
      refine J_iload dX7_peeled_81 rfl ?_
      refine J_iload dX7_peeled_83 rfl ?_
      refine J_iconst dX7_peeled_85 ?_
      refine J_isub dX7_peeled_86 (J_top (v := (((c - 1) : Nat) : Int)) (by have h0 : c ≠ 0 := (by intro e; rw [e, popc_zero] at g2; omega); omega) ?_)
      refine J_iand dX7_peeled_87 (J_top (v := (((c &&& (c - 1)) : Nat) : Int)) (j_andN rfl rfl g3 (by omega)) ?_)
      refine J_istore (L' := [(33, 0), (0, k), (0, ((lf : Nat) : Int)), (0, (((drw nw0) : Nat) : Int)), (0, (((c &&& (c - 1)) : Nat) : Int)), (0, ((k2 : Nat) : Int))]) dX7_peeled_88 (by decide) rfl rfl ?_
      refine J_iinc (v := (((k2 - 1) : Nat) : Int)) (L' := [(33, 0), (0, k), (0, ((lf : Nat) : Int)), (0, (((drw nw0) : Nat) : Int)), (0, (((c &&& (c - 1)) : Nat) : Int)), (0, (((k2 - 1) : Nat) : Int))]) dX7_peeled_90 rfl (by omega) (by decide) rfl rfl ?_
      refine J_goto (tgt := 76) dX7_peeled_93 rfl ?_
      exact ih _ _ (by rw [← g1]; obtain ⟨k3, rfl⟩ : ∃ k3, k2 = k3 + 1 := ⟨k2 - 1, by omega⟩; rfl) (by have := popc_pred (n := c) (by intro e; rw [e, popc_zero] at g2; omega); omega) (by exact nb_and g3) (by omega)
set_option maxRecDepth 100000 in
set_option maxHeartbeats 4000000 in
theorem ev_X7_peeled_L42 (P D n : Nat) (F O : Nat → Nat) (tl : Nat) (tb : Nat → Nat) (fa tr wh : Int) (M : jM) (hS : MS P D n F O tl tb fa tr wh M) (k : Int) (hk : -2147483648 ≤ k ∧ k < 2147483648) (M1 : jM) (hM1 : M1 = (j_up (j_up (j_up M 23 0 0) 23 3 (-1)) 23 1 (if decide (0 < n) = true then (if decide (0 ≤ k ∧ k ≤ 65536) = true then 0 else 2) else 1))) (h19 : (decide (0 < n) && decide (0 ≤ k ∧ k ≤ 65536)) = true) : ∀ (fu : Nat) (f lf nw0 : Nat) (f1 : pdN n F 12 (2 ^ n - 1) (Int.toNat k) = pdN n F f lf nw0) (f2 : lf < 2 ^ n) (f3 : popc lf ≤ f) (f4 : nw0 < 65537) (hfu : f < fu), J none 3 mX7_peeled 42 [(33, 0), (0, k), (0, ((lf : Nat) : Int)), (0, ((nw0 : Nat) : Int)), (0, (((cgN n F lf) : Nat) : Int)), (9, 0)] [] M1 (j_ret mX7_peeled (fun z M' => z = A_peeled n F k ∧ MS P D n F O tl tb fa (u2 (bT n) (b5 k)) 0 M' ∧ CM M M')) := by
  intro fu
  induction fu with
  | zero => intro f lf nw0 f1 f2 f3 f4 hfu; exact absurd hfu (Nat.not_lt_zero _)
  | succ fu ih =>
    intro f lf nw0 f1 f2 f3 f4 hfu
    have hR := hS.1
    have hn12 := MR.hn hR
    have hP7 := MR.hP hR
    have hD5 := MR.hD hR
    have hR1 : MR P D n F O M1 := by rw [hM1]; exact mr_upF (by decide) (mr_upF (by decide) (mr_upF (by decide) hR))
    refine J_iload_n dX7_peeled_42 rfl ?_
    refine J_callSiQ (cl := mX7_many) [(0, ((lf : Nat) : Int))] [] dX7_peeled_43 mlX7_136 csX7_many rfl rfl (by decide) (Nat.le_of_ble_eq_true rfl) rfl (ev_X7_many lf (p12 hn12 f2) M1) ?_
    refine J_iconst dX7_peeled_46 ?_
    refine J_icmp_le (tgt := 117) dX7_peeled_47 rfl (j_R (popc_lt (p12 hn12 f2))) (by decide) (fun h47 => ?_) (fun h47 => ?_)
    ·
      refine J_iload_n dX7_peeled_117 rfl ?_
      refine J_callSiQ (cl := mX7_many) [(0, ((lf : Nat) : Int))] [] dX7_peeled_118 mlX7_136 csX7_many rfl rfl (by decide) (Nat.le_of_ble_eq_true rfl) rfl (ev_X7_many lf (p12 hn12 f2) M1) ?_
      refine J_ireturn dX7_peeled_121 rfl ?_
      subst hM1
      exact ⟨by unfold A_peeled bT b5; rw [if_pos h19, f1, pd_stop (fun q => by omega)], by unfold u2 bT b5; exact ms_ref if02 hS, cm_ref⟩
    ·
      refine J_iload dX7_peeled_50 rfl ?_
      refine J_if_eq (tgt := 117) dX7_peeled_52 rfl (j_R (mskN_31 (by omega))) (fun h52 => ?_) (fun h52 => ?_)
      ·
        refine J_iload_n dX7_peeled_117 rfl ?_
        refine J_callSiQ (cl := mX7_many) [(0, ((lf : Nat) : Int))] [] dX7_peeled_118 mlX7_136 csX7_many rfl rfl (by decide) (Nat.le_of_ble_eq_true rfl) rfl (ev_X7_many lf (p12 hn12 f2) M1) ?_
        refine J_ireturn dX7_peeled_121 rfl ?_
        subst hM1
        exact ⟨by unfold A_peeled bT b5; rw [if_pos h19, f1, pd_stop (fun q => by exact q.2 (by omega))], by unfold u2 bT b5; exact ms_ref if02 hS, cm_ref⟩
      ·
        have hne : ¬ cgN n F lf = 0 := by omega
        refine J_bipush dX7_peeled_55 (by decide) ?_
        refine J_iload_n dX7_peeled_57 rfl ?_
        refine J_imul dX7_peeled_58 (J_top (v := (((75 * nw0) : Nat) : Int)) (Int.natCast_mul _ _).symm ?_)
        refine J_bipush dX7_peeled_59 (by decide) ?_
        refine J_iadd dX7_peeled_61 (J_top (v := ((((75 * nw0) + 74) : Nat) : Int)) (by omega) ?_)
        refine J_ldcw (n := 65537) dX7_peeled_62 kcX7_314 ?_
        refine J_irem dX7_peeled_65 (by decide) (by decide) (J_top (v := (((drw nw0) : Nat) : Int)) ((j_remN (x := 75 * nw0 + 74) (y := 65537) rfl rfl (by omega) (by decide)).trans rfl) ?_)
        refine J_istore_n (L' := [(33, 0), (0, k), (0, ((lf : Nat) : Int)), (0, (((drw nw0) : Nat) : Int)), (0, (((cgN n F lf) : Nat) : Int)), (9, 0)]) dX7_peeled_66 (by decide) rfl rfl ?_
        refine J_iload_n dX7_peeled_67 rfl ?_
        refine J_iload dX7_peeled_68 rfl ?_
        refine J_callSiQ (cl := mX7_many) [(0, (((cgN n F lf) : Nat) : Int))] [(0, (((drw nw0) : Nat) : Int))] dX7_peeled_70 mlX7_136 csX7_many rfl rfl (by decide) (Nat.le_of_ble_eq_true rfl) rfl (ev_X7_many (cgN n F lf) (mskN_31 (by omega)) M1) ?_
        refine J_irem dX7_peeled_73 (j_R (popc_lt (mskN_31 (by omega)))) (by have := popc_pos hne; omega) (J_top (v := ((((drw nw0) % (popc (cgN n F lf))) : Nat) : Int)) (j_remN rfl rfl (by have := Nat.mod_lt (75 * nw0 + 74) (show 0 < 65537 by decide); unfold drw; omega) (popc_lt (mskN_31 (by omega)))) ?_)
        refine J_istore (L' := [(33, 0), (0, k), (0, ((lf : Nat) : Int)), (0, (((drw nw0) : Nat) : Int)), (0, (((cgN n F lf) : Nat) : Int)), (0, ((((drw nw0) % (popc (cgN n F lf))) : Nat) : Int))]) dX7_peeled_74 (by decide) rfl rfl ?_
        refine ev_X7_peeled_L76 P D n F O tl tb fa tr wh M hS k hk M1 hM1 h19 lf nw0 f2 f4 hne ?_ _ _ _ (by rfl) (by exact Nat.mod_lt _ (popc_pos hne)) (by exact mskN_31 (by omega)) (Nat.lt_succ_self _)
        ·
          refine J_iload_n dX7_peeled_96 rfl ?_
          refine J_iload dX7_peeled_97 rfl ?_
          refine J_iload dX7_peeled_99 rfl ?_
          refine J_ineg dX7_peeled_101 ?_
          refine J_iand dX7_peeled_102 (J_top (v := (((lwb (dlB (cgN n F lf) (drw nw0 % popc (cgN n F lf)))) : Nat) : Int)) (j_lwbI rfl rfl (dl31 hne (by omega))) ?_)
          refine J_iconst dX7_peeled_103 ?_
          refine J_ixor dX7_peeled_104 (J_top (v := (-(((lwb (dlB (cgN n F lf) (drw nw0 % popc (cgN n F lf)))) : Nat) : Int) - 1)) (j_notN rfl (nb_ndf (dl31 hne (by omega)))) ?_)
          refine J_iand dX7_peeled_105 (J_top (v := (((ndf lf (lwb (dlB (cgN n F lf) (drw nw0 % popc (cgN n F lf))))) : Nat) : Int)) (j_ndfN rfl rfl (p12 hn12 f2)) ?_)
          refine J_istore_n (L' := [(33, 0), (0, k), (0, (((ndf lf (lwb (dlB (cgN n F lf) (drw nw0 % popc (cgN n F lf))))) : Nat) : Int)), (0, (((drw nw0) : Nat) : Int)), (0, (((dlB (cgN n F lf) (drw nw0 % popc (cgN n F lf))) : Nat) : Int)), (9, 0)]) dX7_peeled_106 (by decide) rfl rfl ?_
          refine J_aload_n dX7_peeled_107 rfl ?_
          refine J_iload_n dX7_peeled_108 rfl ?_
          refine J_callViQ (cl := mX7_canGo) [(0, (((ndf lf (lwb (dlB (cgN n F lf) (drw nw0 % popc (cgN n F lf))))) : Nat) : Int))] [] dX7_peeled_109 mlX7_311 cvX7_canGo rfl rfl rfl rfl rfl (by decide) (Nat.le_of_ble_eq_true rfl) rfl (ev_X7_canGo P D n F O M1 hR1 (ndf lf (lwb (dlB (cgN n F lf) (drw nw0 % popc (cgN n F lf))))) (nb_ndf f2)) ?_
          refine J_istore (L' := [(33, 0), (0, k), (0, (((ndf lf (lwb (dlB (cgN n F lf) (drw nw0 % popc (cgN n F lf))))) : Nat) : Int)), (0, (((drw nw0) : Nat) : Int)), (0, (((cgN n F (ndf lf (lwb (dlB (cgN n F lf) (drw nw0 % popc (cgN n F lf)))))) : Nat) : Int)), (9, 0)]) dX7_peeled_112 (by decide) rfl rfl ?_
          refine J_goto (tgt := 42) dX7_peeled_114 rfl ?_
          exact ih _ _ _ (by exact f1.trans (pd_step (by omega) hne f3)) (by exact nb_ndf f2) (by have h9 := pd_sub (now := nw0) hne; unfold pdX at h9; omega) (by exact Nat.mod_lt _ (by decide)) (by have := popc_pos hne; have := popc_le_of_lt f2; omega)
set_option maxRecDepth 100000 in
set_option maxHeartbeats 4000000 in
theorem ev_X7_peeled (P D n : Nat) (F O : Nat → Nat) (tl : Nat) (tb : Nat → Nat) (fa tr wh : Int) (M : jM) (hS : MS P D n F O tl tb fa tr wh M) (k : Int) (hk : -2147483648 ≤ k ∧ k < 2147483648) : Ev 3 mX7_peeled [(33, 0), (0, k)] M (fun z M' => z = A_peeled n F k ∧ MS P D n F O tl tb fa (u2 (bT n) (b5 k)) 0 M' ∧ CM M M') := by
  refine Ev_of (by decide +kernel) (Nat.le_of_ble_eq_true rfl) (L := [(33, 0), (0, k), (9, 0), (9, 0), (9, 0), (9, 0)]) rfl ?_
  have hR := hS.1
  have hn12 := MR.hn hR
  have hP7 := MR.hP hR
  have hD5 := MR.hD hR
  refine J_aload_n dX7_peeled_0 rfl ?_
  refine J_aload_n dX7_peeled_1 rfl ?_
  refine J_getI dX7_peeled_2 flX7_179 rfl rfl (J_top (v := ((Bool.toNat (decide (0 < n)) : Nat) : Int)) (MR.gt hR) ?_)
  refine J_iload_n dX7_peeled_5 rfl ?_
  refine J_iconst dX7_peeled_6 ?_
  refine J_ldcw (n := 65536) dX7_peeled_7 kcX7_310 ?_
  refine J_callSiQ (cl := mX7_in) [(0, k), (0, 0), (0, 65536)] [(0, ((Bool.toNat (decide (0 < n)) : Nat) : Int)), (33, 0)] dX7_peeled_10 mlX7_84 csX7_in rfl rfl (by decide) (Nat.le_of_ble_eq_true rfl) rfl (ev_X7_in k 0 65536 (by omega) (by decide) (by decide) M) ?_
  refine J_callSiQ (cl := mX7_unless_) [(0, ((Bool.toNat (decide (0 < n)) : Nat) : Int)), (0, ((Bool.toNat (decide (0 ≤ k ∧ k ≤ 65536)) : Nat) : Int))] [(33, 0)] dX7_peeled_13 mlX7_206 csX7_unless_ rfl rfl (by decide) (Nat.le_of_ble_eq_true rfl) rfl (ev_X7_unless_ (decide (0 < n)) (decide (0 ≤ k ∧ k ≤ 65536)) M) ?_
  refine J_callViQ (cl := mX7_isRefused) [(0, (if (decide (0 < n)) = true then (if (decide (0 ≤ k ∧ k ≤ 65536)) = true then 0 else 2) else 1))] [] dX7_peeled_16 mlX7_159 cvX7_isRefused rfl rfl rfl rfl rfl (by decide) (Nat.le_of_ble_eq_true rfl) rfl (ev_X7_isRefused (if (decide (0 < n)) = true then (if (decide (0 ≤ k ∧ k ≤ 65536)) = true then 0 else 2) else 1) (ifR _ (ifR _ (by decide) (by decide)) (by decide)) M) (J_top (v := ((Bool.toNat (!((decide (0 < n)) && (decide (0 ≤ k ∧ k ≤ 65536)))) : Nat) : Int)) (rf_un2 _ _) ?_)
  refine J_ifn_eq (b := ((decide (0 < n)) && (decide (0 ≤ k ∧ k ≤ 65536)))) (tgt := 24) dX7_peeled_19 rfl (fun h19 => ?_) (fun h19 => ?_)
  ·
    refine J_iconst dX7_peeled_24 ?_
    refine J_aload_n dX7_peeled_25 rfl ?_
    refine J_getI dX7_peeled_26 flX7_176 rfl rfl (J_top (v := ((n : Nat) : Int)) (MR.gn (mr_upF (by decide) (mr_upF (by decide) (mr_upF (by decide) hR)))) ?_)
    refine J_ishl dX7_peeled_29 (J_top (v := (((2 ^ n) : Nat) : Int)) (j_shl1 rfl rfl (by omega)) ?_)
    refine J_iconst dX7_peeled_30 ?_
    refine J_isub dX7_peeled_31 (J_top (v := (((2 ^ n - 1) : Nat) : Int)) (by have := Nat.two_pow_pos n; omega) ?_)
    refine J_istore_n (L' := [(33, 0), (0, k), (0, (((2 ^ n - 1) : Nat) : Int)), (9, 0), (9, 0), (9, 0)]) dX7_peeled_32 (by decide) rfl rfl ?_
    refine J_iload_n dX7_peeled_33 rfl (J_top (v := (((Int.toNat k) : Nat) : Int)) (by rw [Bool.and_eq_true] at h19; have := of_decide_eq_true h19.2; omega) ?_)
    refine J_istore_n (L' := [(33, 0), (0, k), (0, (((2 ^ n - 1) : Nat) : Int)), (0, (((Int.toNat k) : Nat) : Int)), (9, 0), (9, 0)]) dX7_peeled_34 (by decide) rfl rfl ?_
    refine J_aload_n dX7_peeled_35 rfl ?_
    refine J_iload_n dX7_peeled_36 rfl ?_
    refine J_callViQ (cl := mX7_canGo) [(0, (((2 ^ n - 1) : Nat) : Int))] [] dX7_peeled_37 mlX7_311 cvX7_canGo rfl rfl rfl rfl rfl (by decide) (Nat.le_of_ble_eq_true rfl) rfl (ev_X7_canGo P D n F O (j_up (j_up (j_up M 23 0 0) 23 3 (-1)) 23 1 (if (decide (0 < n)) = true then (if (decide (0 ≤ k ∧ k ≤ 65536)) = true then 0 else 2) else 1)) (mr_upF (by decide) (mr_upF (by decide) (mr_upF (by decide) hR))) (2 ^ n - 1) (by have := Nat.two_pow_pos n; omega)) ?_
    refine J_istore (L' := [(33, 0), (0, k), (0, (((2 ^ n - 1) : Nat) : Int)), (0, (((Int.toNat k) : Nat) : Int)), (0, (((cgN n F (2 ^ n - 1)) : Nat) : Int)), (9, 0)]) dX7_peeled_40 (by decide) rfl rfl ?_
    exact ev_X7_peeled_L42 P D n F O tl tb fa tr wh M hS k hk _ rfl h19 _ _ _ _ (by rfl) (by have := Nat.two_pow_pos n; omega) (by exact (by have := popc_le_of_lt (n := n) (s := 2 ^ n - 1) (by have := Nat.two_pow_pos n; omega); omega)) (by rw [Bool.and_eq_true] at h19; have := of_decide_eq_true h19.2; omega) (Nat.lt_succ_self _)
  ·
    refine J_iconst dX7_peeled_22 ?_
    refine J_ireturn dX7_peeled_23 rfl ?_
    exact ⟨by unfold A_peeled bT b5; rw [h19]; rfl, by unfold u2 bT b5; exact ms_ref if02 hS, cm_ref⟩
