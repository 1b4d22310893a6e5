def lkF (n : Nat) (F : Nat → Nat) (x : Nat) : Nat → Bool := isF (lkN n F x) (lkG n F x)
def evB (D n : Nat) (F : Nat → Nat) (x : Nat) : Bool := allN (D - popc x) (fun k => rdN (lkF n F x) k == 0)
theorem lkN_le (n : Nat) (F : Nat → Nat) (x : Nat) : lkN n F x ≤ n := cntN_le _ _
/-- the least one that may come next -/
def lsP (F : Nat → Nat) (n s : Nat) : Nat → Bool := fun k => !s.testBit k && decide (0 < won F n (s ||| 2 ^ k)) && jnS F k s
def lsF (F : Nat → Nat) (n s : Nat) : Int := fstN n (lsP F n s) (-1)
def lsA (F : Nat → Nat) (n : Nat) : Nat → Nat
  | 0 => 0
  | i + 1 => lsA F n i ||| 2 ^ (lsF F n (lsA F n i)).toNat
theorem smN_pos {n : Nat} {f : Nat → Nat} (h : 0 < smN n f) : ∃ k, k < n ∧ 0 < f k := by
  induction n with
  | zero => simp [smN] at h
  | succ n ih =>
    simp only [smN] at h
    by_cases h1 : 0 < smN n f
    · obtain ⟨k, h2, h3⟩ := ih h1
      exact ⟨k, by omega, h3⟩
    · exact ⟨n, by omega, by omega⟩
theorem popc_add {s k : Nat} (h : s.testBit k = false) : popc (s ||| 2 ^ k) = popc s + 1 := by
  have h1 : (s ||| 2 ^ k).testBit k = true := by rw [Nat.testBit_or, Nat.testBit_two_pow_self]; simp
  have h2 : ndf (s ||| 2 ^ k) (2 ^ k) = s := by
    apply Nat.eq_of_testBit_eq
    intro i
    rw [ndf_bit, Nat.testBit_or, Nat.testBit_two_pow]
    by_cases e : k = i
    · subst e; simp [h]
    · simp [e]
  have := popc_rem' h1
  rw [h2] at this
  omega
theorem popc_all (n : Nat) : popc (2 ^ n - 1) = n := by
  have h : 2 ^ n - 1 < 2 ^ n := by have := Nat.two_pow_pos n; omega
  rw [popc_cnt n _ h]
  have : ∀ m, m ≤ n → cntN m (fun i => (2 ^ n - 1).testBit i) = m := by
    intro m
    induction m with
    | zero => intro _; rfl
    | succ m ih =>
      intro hm
      rw [cntN_t (by rw [all_bit]; simp; omega), ih (by omega)]
  exact this n (Nat.le_refl n)
theorem fstN_get {n : Nat} {p : Nat → Bool} {z : Int} (h : anyN n p = true) : ∃ k : Nat, k < n ∧ p k = true ∧ fstN n p z = (k : Int) ∧ anyN k p = false := by
  induction n with
  | zero => simp [anyN] at h
  | succ n ih =>
    by_cases h1 : anyN n p = true
    · obtain ⟨k, a, b, c, e⟩ := ih h1
      refine ⟨k, by omega, b, ?_, e⟩
      simp only [fstN]
      rw [if_pos h1]
      exact c
    · have h2 : anyN n p = false := by cases q : anyN n p <;> simp_all
      have h3 : p n = true := by
        simp only [anyN, h2, Bool.false_or] at h
        exact h
      exact ⟨n, by omega, h3, by simp only [fstN]; rw [if_neg h1, if_pos h3], h2⟩
theorem ls_next {F : Nat → Nat} {n s : Nat} (hs : s < 2 ^ n) (hw : 0 < won F n s) (hp : popc s < n) : ∃ k : Nat, k < n ∧ lsF F n s = (k : Int) ∧ s.testBit k = false ∧ 0 < won F n (s ||| 2 ^ k) ∧ jnS F k s = true ∧ ∀ j, j < k → lsP F n s j = false := by
  have hne : ¬ s = 2 ^ n - 1 := by
    intro q
    rw [q, popc_all] at hp
    omega
  rw [won_eq hs, if_neg hne, Nat.zero_add] at hw
  obtain ⟨k, h1, h2⟩ := smN_pos hw
  have h3 : lsP F n s k = true := by
    unfold wnF at h2
    split at h2
    · rename_i q
      unfold lsP
      rw [q.1, q.2, decide_eq_true h2]
      rfl
    · omega
  obtain ⟨j, a, b, c, e⟩ := fstN_get (z := -1) (anyN_iff.mpr ⟨k, h1, h3⟩)
  have hb := b
  unfold lsP at hb
  simp only [Bool.and_eq_true, Bool.not_eq_true', decide_eq_true_eq] at hb
  exact ⟨j, a, c, hb.1.1, hb.1.2, hb.2, anyN_false.mp e⟩
theorem ls_eq {F : Nat → Nat} {n s t : Nat} {b : Int} (h : (b = -1 ∧ ∀ j, t ≤ j → j < n → lsP F n s j = false) ∨ ∃ c : Nat, b = (c : Int) ∧ t ≤ c ∧ c < n ∧ lsP F n s c = true ∧ ∀ j, t ≤ j → j < c → lsP F n s j = false) (ht : t = 0) : b = lsF F n s := by
  subst ht
  unfold lsF
  rcases h with ⟨h1, h2⟩ | ⟨c, h1, h2, h3, h4, h5⟩
  · rw [h1, fstN_none (anyN_false.mpr (fun k hk => h2 k (Nat.zero_le _) hk))]
  · rw [h1, fstN_hit (anyN_false.mpr (fun k hk => h5 k (Nat.zero_le _) hk)) h4 h3]
theorem lsA_ok {F : Nat → Nat} {n : Nat} (hw : 0 < won F n 0) : ∀ i, i ≤ n → lsA F n i < 2 ^ n ∧ 0 < won F n (lsA F n i) ∧ popc (lsA F n i) = i := by
  intro i
  induction i with
  | zero => intro _; exact ⟨Nat.two_pow_pos n, hw, popc_zero⟩
  | succ i ih =>
    intro hi
    obtain ⟨h1, h2, h3⟩ := ih (by omega)
    obtain ⟨k, k1, k2, k3, k4, -, -⟩ := ls_next h1 h2 (by omega)
    simp only [lsA]
    rw [k2, Int.toNat_natCast]
    exact ⟨or_bit_lt h1 k1, k4, by rw [popc_add k3, h3]⟩
set_option maxRecDepth 100000 in
set_option maxHeartbeats 4000000 in
theorem ev_X7_roundOf (G : Nat → Bool) (hcl : Cl G) (k : Nat) (hk : k ≤ 7) (M : jM) (hG : IA M G) : Ev 3 mX7_roundOf [(33, 0), (0, ((k : Nat) : Int))] M (fun z M' => z = rdN G k ∧ Ch [29, 30] M M') := by
  refine Ev_of (by decide +kernel) (Nat.le_of_ble_eq_true rfl) (L := [(33, 0), (0, ((k : Nat) : Int))]) rfl ?_
  refine J_aload_n dX7_roundOf_0 rfl ?_
  refine J_iload_n dX7_roundOf_1 rfl ?_
  refine J_callViQ (cl := mX7_facesOf) [(0, ((k : Nat) : Int))] [] dX7_roundOf_2 mlX7_189 cvX7_facesOf rfl rfl rfl rfl rfl (by decide) (Nat.le_of_ble_eq_true rfl) rfl (ev_X7_facesOf G ((k : Nat) : Int) (by omega) M hG) ?_
  refine J_aload_n dX7_roundOf_5 rfl ?_
  refine J_iload_n dX7_roundOf_6 rfl ?_
  refine J_callVi (cl := mX7_rankOf) [(0, ((k : Nat) : Int))] [(0, (((cntN 128 (fun s => G s && decide ((popc s : Int) = ((k : Nat) : Int)))) : Nat) : Int))] dX7_roundOf_7 mlX7_192 cvX7_rankOf rfl rfl rfl rfl rfl (by decide) (Nat.le_of_ble_eq_true rfl) rfl (ev_X7_rankOf G hcl k (by omega) M hG) (fun z7 M1 hq7 => ?_)
  obtain ⟨rfl, c1⟩ := hq7
  refine J_isub dX7_roundOf_10 ?_
  refine J_aload_n dX7_roundOf_11 rfl ?_
  refine J_iload_n dX7_roundOf_12 rfl ?_
  refine J_iconst dX7_roundOf_13 ?_
  refine J_iadd dX7_roundOf_14 (J_top (v := (((k + 1) : Nat) : Int)) (by omega) ?_)
  refine J_callVi (cl := mX7_rankOf) [(0, (((k + 1) : Nat) : Int))] [(0, ((((cntN 128 (fun s => G s && decide ((popc s : Int) = ((k : Nat) : Int)))) : Nat) : Int) - (((rkN G k) : Nat) : Int)))] dX7_roundOf_15 mlX7_192 cvX7_rankOf rfl rfl rfl rfl rfl (by decide) (Nat.le_of_ble_eq_true rfl) rfl (ev_X7_rankOf G hcl (k + 1) (by omega) M1 (ia_ch c1 (by decide) hG)) (fun z15 M2 hq15 => ?_)
  obtain ⟨rfl, c2⟩ := hq15
  refine J_isub dX7_roundOf_18 ?_
  refine J_ireturn dX7_roundOf_19 rfl ?_
  exact ⟨rfl, Ch_tr c1 c2⟩
set_option maxRecDepth 100000 in
set_option maxHeartbeats 4000000 in
theorem ev_X7_isAsked (P D n : Nat) (F O : Nat → Nat) (M : jM) (hR : MR P D n F O M) (b : Bool) : Ev 3 mX7_isAsked [(33, 0), (0, ((Bool.toNat (b) : Nat) : Int))] M (fun z M' => z = ((Bool.toNat (decide (0 < n) && b) : Nat) : Int) ∧ Ch [28] (j_up (j_up (j_up M 23 0 0) 23 3 (-1)) 23 1 (if (decide (0 < n) && b) = true then 0 else 1)) M' ∧ ((decide (0 < n) && b) = true → IA M' (isF n F))) := by
  refine Ev_of (by decide +kernel) (Nat.le_of_ble_eq_true rfl) (L := [(33, 0), (0, ((Bool.toNat (b) : Nat) : Int))]) rfl ?_
  have hn12 := MR.hn hR
  have hP7 := MR.hP hR
  have hD5 := MR.hD hR
  refine J_aload_n dX7_isAsked_0 rfl ?_
  refine J_aload_n dX7_isAsked_1 rfl ?_
  refine J_getI dX7_isAsked_2 flX7_179 rfl rfl (J_top (v := ((Bool.toNat (decide (0 < n)) : Nat) : Int)) (MR.gt hR) ?_)
  refine J_ifb_eq (tgt := 16) dX7_isAsked_5 rfl (fun h5 => ?_) (fun h5 => ?_)
  ·
    refine J_iconst dX7_isAsked_16 ?_
    refine J_callSiQ (cl := mX7_unless) [(0, ((Bool.toNat (false) : Nat) : Int))] [(33, 0)] dX7_isAsked_17 mlX7_199 csX7_unless rfl rfl (by decide) (Nat.le_of_ble_eq_true rfl) rfl (ev_X7_unless (false) M) ?_
    refine J_callViQ (cl := mX7_isRefused) [(0, (if (false) = true then 0 else 1))] [] dX7_isAsked_20 mlX7_159 cvX7_isRefused rfl rfl rfl rfl rfl (by decide) (Nat.le_of_ble_eq_true rfl) rfl (ev_X7_isRefused (if (false) = true then 0 else 1) (ifR _ (by decide) (by decide)) M) (J_top (v := ((Bool.toNat (!(false)) : Nat) : Int)) (rf_un _) ?_)
    refine J_ifn_eq (b := (false)) (tgt := 28) dX7_isAsked_23 rfl (fun h23 => ?_) (fun h23 => ?_)
    · exact absurd h23 (by decide)
    ·
      refine J_iconst dX7_isAsked_26 ?_
      refine J_zreturn dX7_isAsked_27 rfl (Or.inl rfl) ?_
      exact ⟨by rw [h5]; rfl, by rw [h5]; exact Ch_rf, fun q => by rw [h5] at q; exact absurd q (by simp)⟩
  ·
    refine J_iload_n dX7_isAsked_8 rfl ?_
    refine J_ifb_eq (tgt := 16) dX7_isAsked_9 rfl (fun h9 => ?_) (fun h9 => ?_)
    ·
      refine J_iconst dX7_isAsked_16 ?_
      refine J_callSiQ (cl := mX7_unless) [(0, ((Bool.toNat (false) : Nat) : Int))] [(33, 0)] dX7_isAsked_17 mlX7_199 csX7_unless rfl rfl (by decide) (Nat.le_of_ble_eq_true rfl) rfl (ev_X7_unless (false) M) ?_
      refine J_callViQ (cl := mX7_isRefused) [(0, (if (false) = true then 0 else 1))] [] dX7_isAsked_20 mlX7_159 cvX7_isRefused rfl rfl rfl rfl rfl (by decide) (Nat.le_of_ble_eq_true rfl) rfl (ev_X7_isRefused (if (false) = true then 0 else 1) (ifR _ (by decide) (by decide)) M) (J_top (v := ((Bool.toNat (!(false)) : Nat) : Int)) (rf_un _) ?_)
      refine J_ifn_eq (b := (false)) (tgt := 28) dX7_isAsked_23 rfl (fun h23 => ?_) (fun h23 => ?_)
      · exact absurd h23 (by decide)
      ·
        refine J_iconst dX7_isAsked_26 ?_
        refine J_zreturn dX7_isAsked_27 rfl (Or.inl rfl) ?_
        exact ⟨by rw [h9]; simp, by rw [h9, Bool.and_false]; exact Ch_rf, fun q => by rw [h9] at q; exact absurd q (by simp)⟩
    ·
      refine J_iconst dX7_isAsked_12 ?_
      refine J_goto (tgt := 17) dX7_isAsked_13 rfl ?_
      refine J_callSiQ (cl := mX7_unless) [(0, ((Bool.toNat (true) : Nat) : Int))] [(33, 0)] dX7_isAsked_17 mlX7_199 csX7_unless rfl rfl (by decide) (Nat.le_of_ble_eq_true rfl) rfl (ev_X7_unless (true) M) ?_
      refine J_callViQ (cl := mX7_isRefused) [(0, (if (true) = true then 0 else 1))] [] dX7_isAsked_20 mlX7_159 cvX7_isRefused rfl rfl rfl rfl rfl (by decide) (Nat.le_of_ble_eq_true rfl) rfl (ev_X7_isRefused (if (true) = true then 0 else 1) (ifR _ (by decide) (by decide)) M) (J_top (v := ((Bool.toNat (!(true)) : Nat) : Int)) (rf_un _) ?_)
      refine J_ifn_eq (b := (true)) (tgt := 28) dX7_isAsked_23 rfl (fun h23 => ?_) (fun h23 => ?_)
      ·
        refine J_aload_n dX7_isAsked_28 rfl ?_
        refine J_callVv (cl := mX7_laysOwn) [] [] dX7_isAsked_29 mlX7_203 cvX7_laysOwn rfl rfl rfl rfl rfl (by decide) (Nat.le_of_ble_eq_true rfl) rfl (ev_X7_laysOwn P D n F O (j_up (j_up (j_up M 23 0 0) 23 3 (-1)) 23 1 (if (true) = true then 0 else 1)) (mr_upF (by decide) (mr_upF (by decide) (mr_upF (by decide) hR)))) (fun M1 hq29 => ?_)
        obtain ⟨c1, c2⟩ := hq29
        refine J_iconst dX7_isAsked_32 ?_
        refine J_zreturn dX7_isAsked_33 rfl (Or.inr rfl) ?_
        exact ⟨by rw [h5, h9]; rfl, by rw [h5, h9]; exact c1, fun _ => c2⟩
      · exact absurd h23 (by decide)
set_option maxRecDepth 100000 in
set_option maxHeartbeats 4000000 in
theorem ev_X7_isSized (P D n : Nat) (F O : Nat → Nat) (M : jM) (hR : MR P D n F O M) (k : Int) (hk : -2147483648 ≤ k ∧ k < 2147483648) : Ev 3 mX7_isSized [(33, 0), (0, k)] M (fun z M' => z = ((Bool.toNat (decide (0 < n) && decide (0 ≤ k ∧ k ≤ ((D : Nat) : Int))) : Nat) : Int) ∧ Ch [28] (j_up (j_up (j_up M 23 0 0) 23 3 (-1)) 23 1 (if decide (0 < n) = true then (if decide (0 ≤ k ∧ k ≤ ((D : Nat) : Int)) = true then 0 else 2) else 1)) M' ∧ ((decide (0 < n) && decide (0 ≤ k ∧ k ≤ ((D : Nat) : Int))) = true → IA M' (isF n F))) := by
  refine Ev_of (by decide +kernel) (Nat.le_of_ble_eq_true rfl) (L := [(33, 0), (0, k)]) rfl ?_
  have hn12 := MR.hn hR
  have hP7 := MR.hP hR
  have hD5 := MR.hD hR
  refine J_aload_n dX7_isSized_0 rfl ?_
  refine J_aload_n dX7_isSized_1 rfl ?_
  refine J_getI dX7_isSized_2 flX7_179 rfl rfl (J_top (v := ((Bool.toNat (decide (0 < n)) : Nat) : Int)) (MR.gt hR) ?_)
  refine J_iload_n dX7_isSized_5 rfl ?_
  refine J_iconst dX7_isSized_6 ?_
  refine J_aload_n dX7_isSized_7 rfl ?_
  refine J_getI dX7_isSized_8 flX7_173 rfl rfl (J_top (v := ((D : Nat) : Int)) (MR.gD hR) ?_)
  refine J_callSiQ (cl := mX7_in) [(0, k), (0, 0), (0, ((D : Nat) : Int))] [(0, ((Bool.toNat (decide (0 < n)) : Nat) : Int)), (33, 0)] dX7_isSized_11 mlX7_84 csX7_in rfl rfl (by decide) (Nat.le_of_ble_eq_true rfl) rfl (ev_X7_in k 0 ((D : Nat) : Int) (by omega) (by decide) (j_R (by omega)) M) ?_
  refine J_callSiQ (cl := mX7_unless_) [(0, ((Bool.toNat (decide (0 < n)) : Nat) : Int)), (0, ((Bool.toNat (decide (0 ≤ k ∧ k ≤ ((D : Nat) : Int))) : Nat) : Int))] [(33, 0)] dX7_isSized_14 mlX7_206 csX7_unless_ rfl rfl (by decide) (Nat.le_of_ble_eq_true rfl) rfl (ev_X7_unless_ (decide (0 < n)) (decide (0 ≤ k ∧ k ≤ ((D : Nat) : Int))) M) ?_
  refine J_callViQ (cl := mX7_isRefused) [(0, (if (decide (0 < n)) = true then (if (decide (0 ≤ k ∧ k ≤ ((D : Nat) : Int))) = true then 0 else 2) else 1))] [] dX7_isSized_17 mlX7_159 cvX7_isRefused rfl rfl rfl rfl rfl (by decide) (Nat.le_of_ble_eq_true rfl) rfl (ev_X7_isRefused (if (decide (0 < n)) = true then (if (decide (0 ≤ k ∧ k ≤ ((D : Nat) : Int))) = true then 0 else 2) else 1) (ifR _ (ifR _ (by decide) (by decide)) (by decide)) M) (J_top (v := ((Bool.toNat (!((decide (0 < n)) && (decide (0 ≤ k ∧ k ≤ ((D : Nat) : Int))))) : Nat) : Int)) (rf_un2 _ _) ?_)
  refine J_ifn_eq (b := ((decide (0 < n)) && (decide (0 ≤ k ∧ k ≤ ((D : Nat) : Int))))) (tgt := 25) dX7_isSized_20 rfl (fun h20 => ?_) (fun h20 => ?_)
  ·
    refine J_aload_n dX7_isSized_25 rfl ?_
    refine J_callVv (cl := mX7_laysOwn) [] [] dX7_isSized_26 mlX7_203 cvX7_laysOwn rfl rfl rfl rfl rfl (by decide) (Nat.le_of_ble_eq_true rfl) rfl (ev_X7_laysOwn P D n F O (j_up (j_up (j_up M 23 0 0) 23 3 (-1)) 23 1 (if (decide (0 < n)) = true then (if (decide (0 ≤ k ∧ k ≤ ((D : Nat) : Int))) = true then 0 else 2) else 1)) (mr_upF (by decide) (mr_upF (by decide) (mr_upF (by decide) hR)))) (fun M1 hq26 => ?_)
    obtain ⟨c1, c2⟩ := hq26
    refine J_iconst dX7_isSized_29 ?_
    refine J_zreturn dX7_isSized_30 rfl (Or.inr rfl) ?_
    exact ⟨by rw [h20]; rfl, c1, fun _ => c2⟩
  ·
    refine J_iconst dX7_isSized_23 ?_
    refine J_zreturn dX7_isSized_24 rfl (Or.inl rfl) ?_
    exact ⟨by rw [h20]; rfl, Ch_rf, fun q => by rw [h20] at q; exact absurd q (by decide)⟩
set_option maxRecDepth 100000 in
set_option maxHeartbeats 4000000 in
theorem ev_X7_isLaid (P D n : Nat) (F O : Nat → Nat) (M : jM) (hR : MR P D n F O M) : Ev 3 mX7_isLaid [(33, 0)] M (fun z M' => z = ((Bool.toNat (decide (0 < n)) : Nat) : Int) ∧ Ch [33, 34] (j_up (j_up (j_up M 23 0 0) 23 3 (-1)) 23 1 (if decide (0 < n) = true then 0 else 1)) M' ∧ (decide (0 < n) = true → (∀ u : Nat, u < 2 ^ n → M' 33 (u : Int) = ((wto F n u : Nat) : Int)) ∧ ∀ u : Nat, u < 2 ^ n → M' 34 (u : Int) = ((won F n u : Nat) : Int))) := by
  refine Ev_of (by decide +kernel) (Nat.le_of_ble_eq_true rfl) (L := [(33, 0)]) rfl ?_
  have hn12 := MR.hn hR
  have hP7 := MR.hP hR
  have hD5 := MR.hD hR
  refine J_aload_n dX7_isLaid_0 rfl ?_
  refine J_aload_n dX7_isLaid_1 rfl ?_
  refine J_getI dX7_isLaid_2 flX7_179 rfl rfl (J_top (v := ((Bool.toNat (decide (0 < n)) : Nat) : Int)) (MR.gt hR) ?_)
  refine J_callSiQ (cl := mX7_unless) [(0, ((Bool.toNat (decide (0 < n)) : Nat) : Int))] [(33, 0)] dX7_isLaid_5 mlX7_199 csX7_unless rfl rfl (by decide) (Nat.le_of_ble_eq_true rfl) rfl (ev_X7_unless (decide (0 < n)) M) ?_
  refine J_callViQ (cl := mX7_isRefused) [(0, (if (decide (0 < n)) = true then 0 else 1))] [] dX7_isLaid_8 mlX7_159 cvX7_isRefused rfl rfl rfl rfl rfl (by decide) (Nat.le_of_ble_eq_true rfl) rfl (ev_X7_isRefused (if (decide (0 < n)) = true then 0 else 1) (ifR _ (by decide) (by decide)) M) (J_top (v := ((Bool.toNat (!(decide (0 < n))) : Nat) : Int)) (rf_un _) ?_)
  refine J_ifn_eq (b := (decide (0 < n))) (tgt := 16) dX7_isLaid_11 rfl (fun h11 => ?_) (fun h11 => ?_)
  ·
    refine J_aload_n dX7_isLaid_16 rfl ?_
    refine J_aload_n dX7_isLaid_17 rfl ?_
    refine J_getR dX7_isLaid_18 flX7_17 rfl rfl ?_
    refine J_aload_n dX7_isLaid_21 rfl ?_
    refine J_getI dX7_isLaid_22 flX7_176 rfl rfl (J_top (v := ((n : Nat) : Int)) (MR.gn (mr_upF (by decide) (mr_upF (by decide) (mr_upF (by decide) hR)))) ?_)
    refine J_callVv (cl := mX7_laysWays) [(35, 0), (0, ((n : Nat) : Int))] [] dX7_isLaid_25 mlX7_301 cvX7_laysWays rfl rfl rfl rfl rfl (by decide) (Nat.le_of_ble_eq_true rfl) rfl (ev_X7_laysWays_25 n (by omega) F (j_up (j_up (j_up M 23 0 0) 23 3 (-1)) 23 1 (if (decide (0 < n)) = true then 0 else 1)) (MR.row (mr_upF (by decide) (mr_upF (by decide) (mr_upF (by decide) hR))))) (fun M1 hq25 => ?_)
    obtain ⟨c1, c2, c3⟩ := hq25
    refine J_iconst dX7_isLaid_28 ?_
    refine J_zreturn dX7_isLaid_29 rfl (Or.inr rfl) ?_
    exact ⟨by rw [h11]; rfl, c1, fun _ => ⟨c2, c3⟩⟩
  ·
    refine J_iconst dX7_isLaid_14 ?_
    refine J_zreturn dX7_isLaid_15 rfl (Or.inl rfl) ?_
    exact ⟨by rw [h11]; rfl, Ch_rf, fun q => by rw [h11] at q; exact absurd q (by decide)⟩
set_option maxRecDepth 100000 in
set_option maxHeartbeats 4000000 in
theorem ev_X7_isEvenLink_L19 (P D n : Nat) (F O : Nat → Nat) (M : jM) (hR : MR P D n F O M) (x : Nat) (hx : x < 128)  : ∀ (fu : Nat) (M3 : jM) (k : Nat) (f1 : Fz [33] [28, 29, 30, 36] M M3) (f2 : IA M3 (lkF n F x)) (f3 : allN k (fun k => rdN (lkF n F x) k == 0) = true) (f4 : k ≤ D - popc x) (hfu : D - k < fu), J none 4 mX7_isEvenLink 19 [(33, 0), (0, ((x : Nat) : Int)), (0, ((k : Nat) : Int))] [] M3 (j_ret mX7_isEvenLink (fun z M' => z = ((Bool.toNat (evB D n F x) : Nat) : Int) ∧ Fz [33] [28, 29, 30, 36] M M')) := by
  intro fu
  induction fu with
  | zero => intro M3 k f1 f2 f3 f4 hfu; exact absurd hfu (Nat.not_lt_zero _)
  | succ fu ih =>
    intro M3 k f1 f2 f3 f4 hfu
    have hn12 := MR.hn hR
    have hP7 := MR.hP hR
    have hD5 := MR.hD hR
    have hlk := lkN_le n F x
    have hpx := popc_le x
    refine J_iload_n dX7_isEvenLink_19 rfl ?_
    refine J_aload_n dX7_isEvenLink_20 rfl ?_
    refine J_getI dX7_isEvenLink_21 flX7_173 rfl rfl (J_top (v := ((D : Nat) : Int)) (MR.gD (mr_fz f1 (by decide) (by decide) hR)) ?_)
    refine J_iload_n dX7_isEvenLink_24 rfl ?_
    refine J_callSiQ (cl := mX7_many) [(0, ((x : Nat) : Int))] [(0, ((D : Nat) : Int)), (0, ((k : Nat) : Int))] dX7_isEvenLink_25 mlX7_136 csX7_many rfl rfl (by decide) (Nat.le_of_ble_eq_true rfl) rfl (ev_X7_many x (by omega) M3) ?_
    refine J_isub dX7_isEvenLink_28 ?_
    refine J_icmp_ge (tgt := 48) dX7_isEvenLink_29 rfl (j_R (by omega)) (by omega) (fun h29 => ?_) (fun h29 => ?_)
    ·
      refine J_iconst dX7_isEvenLink_48 ?_
      refine J_zreturn dX7_isEvenLink_49 rfl (Or.inr rfl) ?_
      have : k = D - popc x := by omega
      exact ⟨bt (by unfold evB; rw [← this]; exact f3), f1⟩
    ·
      refine J_aload_n dX7_isEvenLink_32 rfl ?_
      refine J_iload_n dX7_isEvenLink_33 rfl ?_
      refine J_callVi (cl := mX7_roundOf) [(0, ((k : Nat) : Int))] [] dX7_isEvenLink_34 mlX7_250 cvX7_roundOf rfl rfl rfl rfl rfl (by decide) (Nat.le_of_ble_eq_true rfl) rfl (ev_X7_roundOf (lkF n F x) (isF_cl _ _) k (by omega) M3 f2) (fun z34 M4 hq34 => ?_)
      obtain ⟨rfl, c6⟩ := hq34
      refine J_if_eq (tgt := 42) dX7_isEvenLink_37 rfl (rdNR _ _) (fun h37 => ?_) (fun h37 => ?_)
      ·
        refine J_iinc (v := (((k + 1) : Nat) : Int)) (L' := [(33, 0), (0, ((x : Nat) : Int)), (0, (((k + 1) : Nat) : Int))]) dX7_isEvenLink_42 rfl (by omega) (by decide) rfl rfl ?_
        refine J_goto (tgt := 19) dX7_isEvenLink_45 rfl ?_
        exact ih _ _ (by exact Fz_tr f1 (Fz_ch (Ch_mo c6 (by decide)) (by decide))) (by exact ia_ch c6 (by decide) f2) (by rw [allN_t (by exact beq_iff_eq.mpr h37), f3]) (by omega) (by omega)
      ·
        refine J_iconst dX7_isEvenLink_40 ?_
        refine J_zreturn dX7_isEvenLink_41 rfl (Or.inl rfl) ?_
        exact ⟨bf (allN_no (k := k) (beq_eq_false_iff_ne.mpr h37) (by omega)), Fz_tr f1 (Fz_ch (Ch_mo c6 (by decide)) (by decide))⟩
set_option maxRecDepth 100000 in
set_option maxHeartbeats 4000000 in
theorem ev_X7_isEvenLink (P D n : Nat) (F O : Nat → Nat) (M : jM) (hR : MR P D n F O M) (x : Nat) (hx : x < 128) : Ev 4 mX7_isEvenLink [(33, 0), (0, ((x : Nat) : Int))] M (fun z M' => z = ((Bool.toNat (evB D n F x) : Nat) : Int) ∧ Fz [33] [28, 29, 30, 36] M M') := by
  refine Ev_of (by decide +kernel) (Nat.le_of_ble_eq_true rfl) (L := [(33, 0), (0, ((x : Nat) : Int)), (9, 0)]) rfl ?_
  have hn12 := MR.hn hR
  have hP7 := MR.hP hR
  have hD5 := MR.hD hR
  have hlk := lkN_le n F x
  have hpx := popc_le x
  refine J_aload_n dX7_isEvenLink_0 rfl ?_
  refine J_iload_n dX7_isEvenLink_1 rfl ?_
  refine J_callVv (cl := mX7_laysLink) [(0, ((x : Nat) : Int))] [] dX7_isEvenLink_2 mlX7_321 cvX7_laysLink rfl rfl rfl rfl rfl (by decide) (Nat.le_of_ble_eq_true rfl) rfl (ev_X7_laysLink P D n F O M hR x (by omega)) (fun M1 hq2 => ?_)
  obtain ⟨c1, c2, c3⟩ := hq2
  refine J_aload_n dX7_isEvenLink_5 rfl ?_
  refine J_aload_n dX7_isEvenLink_6 rfl ?_
  refine J_getR dX7_isEvenLink_7 flX7_52 rfl rfl ?_
  refine J_aload_n dX7_isEvenLink_10 rfl ?_
  refine J_getI dX7_isEvenLink_11 flX7_315 rfl rfl (J_top (v := (((lkN n F x) : Nat) : Int)) c2 ?_)
  refine J_callVv (cl := mX7_laysFaces) [(46, 0), (0, (((lkN n F x) : Nat) : Int))] [] dX7_isEvenLink_14 mlX7_195 cvX7_laysFaces rfl rfl rfl rfl rfl (by decide) (Nat.le_of_ble_eq_true rfl) rfl (ev_X7_laysFaces_36 (lkN n F x) (by omega) (lkG n F x) M1 c3) (fun M2 hq14 => ?_)
  obtain ⟨c4, c5⟩ := hq14
  refine J_iconst dX7_isEvenLink_17 ?_
  refine J_istore_n (L' := [(33, 0), (0, ((x : Nat) : Int)), (0, 0)]) dX7_isEvenLink_18 (by decide) rfl rfl ?_
  refine J_eq (L' := [(33, 0), (0, ((x : Nat) : Int)), (0, ((0 : Nat) : Int))]) rfl rfl rfl ?_
  exact ev_X7_isEvenLink_L19 P D n F O M hR x hx  _ _ _ (by exact Fz_tr (Fz_mo c1 (by decide) (by decide)) (Fz_ch (Ch_mo c4 (by decide)) (by decide))) (by exact c5) (by rfl) (by omega) (Nat.lt_succ_self _)
set_option maxRecDepth 100000 in
set_option maxHeartbeats 4000000 in
theorem ev_X7_laysLeast_L22 (P D n : Nat) (F O : Nat → Nat) (M : jM) (hR : MR P D n F O M) (hw : 0 < won F n 0) (hw2 : ∀ u : Nat, u < 2 ^ n → M 34 (u : Int) = ((won F n u : Nat) : Int)) (M1 : jM) (f1 : Ch [35] M M1) (i : Nat) (hi : i < n) (K0 : J none 2 mX7_laysLeast 76 [(33, 0), (0, (((lsA F n i) : Nat) : Int)), (0, ((i : Nat) : Int)), (0, (lsF F n (lsA F n i))), (9, 0)] [] M1 (j_ret mX7_laysLeast (fun z M' => Ch [35] M M' ∧ ∀ i : Nat, i < n → M' 35 (i : Int) = lsF F n (lsA F n i)))) : ∀ (fu : Nat) (b : Int) (t : Nat) (g1 : (b = -1 ∧ ∀ j, t ≤ j → j < n → lsP F n (lsA F n i) j = false) ∨ ∃ c : Nat, b = (c : Int) ∧ t ≤ c ∧ c < n ∧ lsP F n (lsA F n i) c = true ∧ ∀ j, t ≤ j → j < c → lsP F n (lsA F n i) j = false) (g2 : t ≤ n) (hfu : t < fu), J none 2 mX7_laysLeast 22 [(33, 0), (0, (((lsA F n i) : Nat) : Int)), (0, ((i : Nat) : Int)), (0, b), (0, (((t : Nat) : Int) - 1))] [] M1 (j_ret mX7_laysLeast (fun z M' => Ch [35] M M' ∧ ∀ i : Nat, i < n → M' 35 (i : Int) = lsF F n (lsA F n i))) := by
  intro fu
  induction fu with
  | zero => intro b t g1 g2 hfu; exact absurd hfu (Nat.not_lt_zero _)
  | succ fu ih =>
    intro b t g1 g2 hfu
    have hn12 := MR.hn hR
    have hP7 := MR.hP hR
    have hD5 := MR.hD hR
    refine J_iload dX7_laysLeast_22 rfl ?_
    refine J_if_lt (tgt := 76) dX7_laysLeast_24 rfl (by omega) (fun h24 => ?_) (fun h24 => ?_)
    ·
      refine J_eq (L' := [(33, 0), (0, (((lsA F n i) : Nat) : Int)), (0, ((i : Nat) : Int)), (0, (lsF F n (lsA F n i))), (0, (((t : Nat) : Int) - 1))]) (by rw [show b = lsF F n (lsA F n i) from ls_eq g1 (by omega)]) rfl rfl ?_
      refine J_unset 4 (L' := [(33, 0), (0, (((lsA F n i) : Nat) : Int)), (0, ((i : Nat) : Int)), (0, (lsF F n (lsA F n i))), (9, 0)]) rfl ?_
      exact K0  
    ·
      refine J_eq (L' := [(33, 0), (0, (((lsA F n i) : Nat) : Int)), (0, ((i : Nat) : Int)), (0, b), (0, (((t - 1) : Nat) : Int))]) (by rw [show ((t : Nat) : Int) - 1 = ((t - 1 : Nat) : Int) by omega]) rfl rfl ?_
      refine J_iload_n dX7_laysLeast_27 rfl ?_
      refine J_iload dX7_laysLeast_28 rfl ?_
      refine J_callSiQ (cl := mX7_has) [(0, (((lsA F n i) : Nat) : Int)), (0, (((t - 1) : Nat) : Int))] [] dX7_laysLeast_30 mlX7_132 csX7_has rfl rfl (by decide) (Nat.le_of_ble_eq_true rfl) rfl (ev_X7_has (lsA F n i) (t - 1) (by exact p12 hn12 (lsA_ok hw i (by omega)).1) (by omega) M1) ?_
      refine J_ifb_ne (tgt := 68) dX7_laysLeast_33 rfl (fun h33 => ?_) (fun h33 => ?_)
      ·
        refine J_iload_n dX7_laysLeast_68 rfl ?_
        refine J_istore_n (L' := [(33, 0), (0, (((lsA F n i) : Nat) : Int)), (0, ((i : Nat) : Int)), (0, b), (0, (((t - 1) : Nat) : Int))]) dX7_laysLeast_69 (by decide) rfl rfl ?_
        refine J_iinc (v := ((((t - 1) : Nat) : Int) - 1)) (L' := [(33, 0), (0, (((lsA F n i) : Nat) : Int)), (0, ((i : Nat) : Int)), (0, b), (0, ((((t - 1) : Nat) : Int) - 1))]) dX7_laysLeast_70 rfl (by omega) (by decide) rfl rfl ?_
        refine J_goto (tgt := 22) dX7_laysLeast_73 rfl ?_
        exact ih _ _ (by have hn : lsP F n (lsA F n i) (t - 1) = false := (by unfold lsP; rw [h33]; simp); rcases g1 with ⟨q1, q2⟩ | ⟨c, q1, q2, q3, q4, q5⟩; exact Or.inl ⟨q1, fun j h1 h2 => (by by_cases e : j = t - 1; rw [e]; exact hn; exact q2 j (by omega) h2)⟩; exact Or.inr ⟨c, q1, by omega, q3, q4, fun j h1 h2 => (by by_cases e : j = t - 1; rw [e]; exact hn; exact q5 j (by omega) h2)⟩) (by omega) (by omega)
      ·
        refine J_aload_n dX7_laysLeast_36 rfl ?_
        refine J_getR dX7_laysLeast_37 flX7_46 rfl rfl ?_
        refine J_iload_n dX7_laysLeast_40 rfl ?_
        refine J_iconst dX7_laysLeast_41 ?_
        refine J_iload dX7_laysLeast_42 rfl ?_
        refine J_ishl dX7_laysLeast_44 (J_top (v := (((2 ^ (t - 1)) : Nat) : Int)) (j_shl1 rfl rfl (by omega)) ?_)
        refine J_ior dX7_laysLeast_45 (J_top (v := ((((lsA F n i) ||| (2 ^ (t - 1))) : Nat) : Int)) (j_orN rfl rfl (by exact p12 hn12 (lsA_ok hw i (by omega)).1) (nb_p2 (by omega))) ?_)
        refine J_iald dX7_laysLeast_46 rfl (by decide) (by have := or_bit_lt (k := t - 1) (lsA_ok hw i (by omega)).1 (by omega); have := p4096 hn12; omega) (J_top (v := (((won F n (lsA F n i ||| 2 ^ (t - 1))) : Nat) : Int)) (by rw [f1 34 (by decide)]; exact hw2 _ (or_bit_lt (lsA_ok hw i (by omega)).1 (by omega))) ?_)
        refine J_if_le (tgt := 68) dX7_laysLeast_47 rfl (j_R (won31 F hn12 _)) (fun h47 => ?_) (fun h47 => ?_)
        ·
          refine J_iload_n dX7_laysLeast_68 rfl ?_
          refine J_istore_n (L' := [(33, 0), (0, (((lsA F n i) : Nat) : Int)), (0, ((i : Nat) : Int)), (0, b), (0, (((t - 1) : Nat) : Int))]) dX7_laysLeast_69 (by decide) rfl rfl ?_
          refine J_iinc (v := ((((t - 1) : Nat) : Int) - 1)) (L' := [(33, 0), (0, (((lsA F n i) : Nat) : Int)), (0, ((i : Nat) : Int)), (0, b), (0, ((((t - 1) : Nat) : Int) - 1))]) dX7_laysLeast_70 rfl (by omega) (by decide) rfl rfl ?_
          refine J_goto (tgt := 22) dX7_laysLeast_73 rfl ?_
          exact ih _ _ (by have hn : lsP F n (lsA F n i) (t - 1) = false := (by unfold lsP; rw [decide_eq_false (by omega : ¬ 0 < won F n (lsA F n i ||| 2 ^ (t - 1)))]; simp); rcases g1 with ⟨q1, q2⟩ | ⟨c, q1, q2, q3, q4, q5⟩; exact Or.inl ⟨q1, fun j h1 h2 => (by by_cases e : j = t - 1; rw [e]; exact hn; exact q2 j (by omega) h2)⟩; exact Or.inr ⟨c, q1, by omega, q3, q4, fun j h1 h2 => (by by_cases e : j = t - 1; rw [e]; exact hn; exact q5 j (by omega) h2)⟩) (by omega) (by omega)
        ·
          refine J_aload_n dX7_laysLeast_50 rfl ?_
          refine J_getR dX7_laysLeast_51 flX7_17 rfl rfl ?_
          refine J_iload dX7_laysLeast_54 rfl ?_
          refine J_iload_n dX7_laysLeast_56 rfl ?_
          refine J_callSiQ (cl := mX7_joinsSet) [(35, 0), (0, (((t - 1) : Nat) : Int)), (0, (((lsA F n i) : Nat) : Int))] [] dX7_laysLeast_57 mlX7_262 csX7_joinsSet rfl rfl (by decide) (Nat.le_of_ble_eq_true rfl) rfl (ev_X7_joinsSet_25 n (by omega) F M1 (MR.row (mr_ch f1 (by decide) (by decide) (by decide) hR)) (t - 1) (lsA F n i) (by omega) (lsA_ok hw i (by omega)).1) ?_
          refine J_ifb_eq (tgt := 68) dX7_laysLeast_60 rfl (fun h60 => ?_) (fun h60 => ?_)
          ·
            refine J_iload_n dX7_laysLeast_68 rfl ?_
            refine J_istore_n (L' := [(33, 0), (0, (((lsA F n i) : Nat) : Int)), (0, ((i : Nat) : Int)), (0, b), (0, (((t - 1) : Nat) : Int))]) dX7_laysLeast_69 (by decide) rfl rfl ?_
            refine J_iinc (v := ((((t - 1) : Nat) : Int) - 1)) (L' := [(33, 0), (0, (((lsA F n i) : Nat) : Int)), (0, ((i : Nat) : Int)), (0, b), (0, ((((t - 1) : Nat) : Int) - 1))]) dX7_laysLeast_70 rfl (by omega) (by decide) rfl rfl ?_
            refine J_goto (tgt := 22) dX7_laysLeast_73 rfl ?_
            exact ih _ _ (by have hn : lsP F n (lsA F n i) (t - 1) = false := (by unfold lsP; rw [h60]; simp); rcases g1 with ⟨q1, q2⟩ | ⟨c, q1, q2, q3, q4, q5⟩; exact Or.inl ⟨q1, fun j h1 h2 => (by by_cases e : j = t - 1; rw [e]; exact hn; exact q2 j (by omega) h2)⟩; exact Or.inr ⟨c, q1, by omega, q3, q4, fun j h1 h2 => (by by_cases e : j = t - 1; rw [e]; exact hn; exact q5 j (by omega) h2)⟩) (by omega) (by omega)
          ·
            refine J_iload dX7_laysLeast_63 rfl ?_
            refine J_goto (tgt := 69) dX7_laysLeast_65 rfl ?_
            refine J_istore_n (L' := [(33, 0), (0, (((lsA F n i) : Nat) : Int)), (0, ((i : Nat) : Int)), (0, (((t - 1) : Nat) : Int)), (0, (((t - 1) : Nat) : Int))]) dX7_laysLeast_69 (by decide) rfl rfl ?_
            refine J_iinc (v := ((((t - 1) : Nat) : Int) - 1)) (L' := [(33, 0), (0, (((lsA F n i) : Nat) : Int)), (0, ((i : Nat) : Int)), (0, (((t - 1) : Nat) : Int)), (0, ((((t - 1) : Nat) : Int) - 1))]) dX7_laysLeast_70 rfl (by omega) (by decide) rfl rfl ?_
            refine J_goto (tgt := 22) dX7_laysLeast_73 rfl ?_
            exact ih _ _ (by exact Or.inr ⟨t - 1, rfl, Nat.le_refl _, by omega, by unfold lsP; rw [h33, h60, decide_eq_true (by omega : 0 < won F n (lsA F n i ||| 2 ^ (t - 1)))]; rfl, fun j h1 h2 => absurd h2 (by omega)⟩) (by omega) (by omega)
set_option maxRecDepth 100000 in
set_option maxHeartbeats 4000000 in
theorem ev_X7_laysLeast_L4 (P D n : Nat) (F O : Nat → Nat) (M : jM) (hR : MR P D n F O M) (hw : 0 < won F n 0) (hw2 : ∀ u : Nat, u < 2 ^ n → M 34 (u : Int) = ((won F n u : Nat) : Int))  : ∀ (fu : Nat) (M1 : jM) (i : Nat) (f1 : Ch [35] M M1) (f2 : ∀ j : Nat, j < i → M1 35 (j : Int) = lsF F n (lsA F n j)) (f3 : i ≤ n) (hfu : n - i < fu), J none 2 mX7_laysLeast 4 [(33, 0), (0, (((lsA F n i) : Nat) : Int)), (0, ((i : Nat) : Int)), (9, 0), (9, 0)] [] M1 (j_ret mX7_laysLeast (fun z M' => Ch [35] M M' ∧ ∀ i : Nat, i < n → M' 35 (i : Int) = lsF F n (lsA F n i))) := by
  intro fu
  induction fu with
  | zero => intro M1 i f1 f2 f3 hfu; exact absurd hfu (Nat.not_lt_zero _)
  | succ fu ih =>
    intro M1 i f1 f2 f3 hfu
    have hn12 := MR.hn hR
    have hP7 := MR.hP hR
    have hD5 := MR.hD hR
    refine J_iload_n dX7_laysLeast_4 rfl ?_
    refine J_aload_n dX7_laysLeast_5 rfl ?_
    refine J_getI dX7_laysLeast_6 flX7_176 rfl rfl (J_top (v := ((n : Nat) : Int)) (MR.gn (mr_ch f1 (by decide) (by decide) (by decide) hR)) ?_)
    refine J_icmp_ge (tgt := 95) dX7_laysLeast_9 rfl (j_R (by omega)) (j_R (by omega)) (fun h9 => ?_) (fun h9 => ?_)
    ·
      refine J_return dX7_laysLeast_95 rfl ?_
      have : i = n := by omega
      subst this
      exact ⟨f1, f2⟩
    ·
      refine J_iconst dX7_laysLeast_12 ?_
      refine J_istore_n (L' := [(33, 0), (0, (((lsA F n i) : Nat) : Int)), (0, ((i : Nat) : Int)), (0, (-1)), (9, 0)]) dX7_laysLeast_13 (by decide) rfl rfl ?_
      refine J_aload_n dX7_laysLeast_14 rfl ?_
      refine J_getI dX7_laysLeast_15 flX7_176 rfl rfl (J_top (v := ((n : Nat) : Int)) (MR.gn (mr_ch f1 (by decide) (by decide) (by decide) hR)) ?_)
      refine J_iconst dX7_laysLeast_18 ?_
      refine J_isub dX7_laysLeast_19 (J_top (v := (((n : Nat) : Int) - 1)) rfl ?_)
      refine J_istore (L' := [(33, 0), (0, (((lsA F n i) : Nat) : Int)), (0, ((i : Nat) : Int)), (0, (-1)), (0, (((n : Nat) : Int) - 1))]) dX7_laysLeast_20 (by decide) rfl rfl ?_
      refine ev_X7_laysLeast_L22 P D n F O M hR hw hw2 M1 f1 i (by omega) ?_ _ _ _ (by exact Or.inl ⟨rfl, fun j h1 h2 => absurd h2 (by omega)⟩) (by exact Nat.le_refl _) (Nat.lt_succ_self _)
      ·
        refine J_aload_n dX7_laysLeast_76 rfl ?_
        refine J_getR dX7_laysLeast_77 flX7_49 rfl rfl ?_
        refine J_iload_n dX7_laysLeast_80 rfl ?_
        refine J_iload_n dX7_laysLeast_81 rfl ?_
        refine J_iast dX7_laysLeast_82 rfl (by decide) (by omega) ?_
        refine J_iload_n dX7_laysLeast_83 rfl ?_
        refine J_iconst dX7_laysLeast_84 ?_
        refine J_iload_n dX7_laysLeast_85 rfl (J_top (v := (((lsF F n (lsA F n i)).toNat : Nat) : Int)) (by obtain ⟨k9, q1, q2, -⟩ := ls_next (lsA_ok hw i (by omega)).1 (lsA_ok hw i (by omega)).2.1 (by rw [(lsA_ok hw i (by omega)).2.2]; omega); rw [q2]; rfl) ?_)
        refine J_ishl dX7_laysLeast_86 (J_top (v := (((2 ^ (lsF F n (lsA F n i)).toNat) : Nat) : Int)) (j_shl1 rfl rfl (by obtain ⟨k9, q1, q2, -⟩ := ls_next (lsA_ok hw i (by omega)).1 (lsA_ok hw i (by omega)).2.1 (by rw [(lsA_ok hw i (by omega)).2.2]; omega); rw [q2, Int.toNat_natCast]; omega)) ?_)
        refine J_ior dX7_laysLeast_87 (J_top (v := ((((lsA F n i) ||| (2 ^ (lsF F n (lsA F n i)).toNat)) : Nat) : Int)) (j_orN rfl rfl (by exact p12 hn12 (lsA_ok hw i (by omega)).1) (nb_p2 (by obtain ⟨k9, q1, q2, -⟩ := ls_next (lsA_ok hw i (by omega)).1 (lsA_ok hw i (by omega)).2.1 (by rw [(lsA_ok hw i (by omega)).2.2]; omega); rw [q2, Int.toNat_natCast]; omega))) ?_)
        refine J_istore_n (L' := [(33, 0), (0, ((((lsA F n i) ||| (2 ^ (lsF F n (lsA F n i)).toNat)) : Nat) : Int)), (0, ((i : Nat) : Int)), (0, (lsF F n (lsA F n i))), (9, 0)]) dX7_laysLeast_88 (by decide) rfl rfl ?_
        refine J_iinc (v := (((i + 1) : Nat) : Int)) (L' := [(33, 0), (0, ((((lsA F n i) ||| (2 ^ (lsF F n (lsA F n i)).toNat)) : Nat) : Int)), (0, (((i + 1) : Nat) : Int)), (0, (lsF F n (lsA F n i))), (9, 0)]) dX7_laysLeast_89 rfl (by omega) (by decide) rfl rfl ?_
        refine J_goto (tgt := 4) dX7_laysLeast_92 rfl ?_
        refine J_unset 3 (L' := [(33, 0), (0, ((((lsA F n i) ||| (2 ^ (lsF F n (lsA F n i)).toNat)) : Nat) : Int)), (0, (((i + 1) : Nat) : Int)), (9, 0), (9, 0)]) rfl ?_
        exact ih _ _ (by exact Ch_up (by decide) f1) (by intro j hj; by_cases e : j = i; rw [e, j_up_eq]; rw [j_up_nz (by omega)]; exact f2 j (by omega)) (by omega) (by omega)
set_option maxRecDepth 100000 in
set_option maxHeartbeats 4000000 in
theorem ev_X7_laysLeast (P D n : Nat) (F O : Nat → Nat) (M : jM) (hR : MR P D n F O M) (hw : 0 < won F n 0) (hw2 : ∀ u : Nat, u < 2 ^ n → M 34 (u : Int) = ((won F n u : Nat) : Int)) : Ev 2 mX7_laysLeast [(33, 0)] M (fun z M' => Ch [35] M M' ∧ ∀ i : Nat, i < n → M' 35 (i : Int) = lsF F n (lsA F n i)) := by
  refine Ev_of (by decide +kernel) (Nat.le_of_ble_eq_true rfl) (L := [(33, 0), (9, 0), (9, 0), (9, 0), (9, 0)]) rfl ?_
  have hn12 := MR.hn hR
  have hP7 := MR.hP hR
  have hD5 := MR.hD hR
  refine J_iconst dX7_laysLeast_0 ?_
  refine J_istore_n (L' := [(33, 0), (0, 0), (9, 0), (9, 0), (9, 0)]) dX7_laysLeast_1 (by decide) rfl rfl ?_
  refine J_iconst dX7_laysLeast_2 ?_
  refine J_istore_n (L' := [(33, 0), (0, 0), (0, 0), (9, 0), (9, 0)]) dX7_laysLeast_3 (by decide) rfl rfl ?_
  refine J_eq (L' := [(33, 0), (0, ((0 : Nat) : Int)), (0, ((0 : Nat) : Int)), (9, 0), (9, 0)]) rfl rfl rfl ?_
  exact ev_X7_laysLeast_L4 P D n F O M hR hw hw2  _ _ _ (by exact Ch_rf) (by intro j hj; omega) (by omega) (Nat.lt_succ_self _)
