/-! the class's whole state -/
def KS (P D n : Nat) (F O : Nat → Nat) (tl : Nat) (tb : Nat → Nat) (fa tr wh : Int) (M : jM) : Prop := KR P D n F O M ∧ M 0 6 = tr ∧ (M 1 2 = fa ∧ (tr = 4 → M 1 3 = wh) ∧ M 1 1 = (tl : Int) ∧ tl ≤ 200 ∧ ∀ i : Nat, i < tl → M 2 (i : Int) = (tb i : Int) ∧ tb i < 256) ∧ CC M ∧ OQ F n M ∧ SQ P n F M
def KM (M M' : jM) : Prop := ∀ k : Nat, 23 ≤ k → M' k = M k
theorem km_rf {M : jM} : KM M M := fun _ _ => rfl
theorem km_tr {M M1 M2 : jM} (h1 : KM M M1) (h2 : KM M1 M2) : KM M M2 := fun k hk => (h2 k hk).trans (h1 k hk)
theorem km_up {M M1 : jM} {k : Nat} {z v : Int} (hk : k < 23) (h : KM M M1) : KM M (j_up M1 k z v) := fun j hj => by rw [j_up_ne (by omega)]; exact h j hj
theorem km_ch {ks : List Nat} {M M' : jM} (h : Ch ks M M') (hk : ks.all (fun k => decide (k < 23)) = true) : KM M M' := by
  intro k hk'
  refine h k (fun q => ?_)
  have := List.all_eq_true.mp hk k q
  rw [decide_eq_true_eq] at this
  omega
theorem j_up2 {M : jM} {k : Nat} {z a b : Int} : j_up (j_up M k z a) k z b = j_up M k z b := by
  funext k' z'
  unfold j_up
  by_cases h : k' = k
  · subst h
    simp only [if_true]
    by_cases h2 : z' = z
    · simp [h2]
    · simp [h2]
  · simp [h]
section KSS
variable {P D n : Nat} {F O : Nat → Nat} {tl : Nat} {tb : Nat → Nat} {fa tr wh : Int} {M M' : jM}
theorem ks_tr {w : Int} (hw : w ≠ 4) (h : KS P D n F O tl tb fa tr wh M) : KS P D n F O tl tb fa w 0 (j_up M 0 6 w) := by
  obtain ⟨h1, h2, ⟨h3, h4, h5, h6, h7⟩, h8, h9, h10⟩ := h
  refine ⟨kr_up (by decide) h1, j_up_eq, ⟨ru_ne (by decide) h3, fun q => absurd q hw, ru_ne (by decide) h5, h6, fun i hi => ⟨ru_ne (by decide) (h7 i hi).1, (h7 i hi).2⟩⟩, cc_ch ch1 (by decide) h8, oq_ch ch1 (by decide) h9, sq_ch ch1 (by decide) h10⟩
theorem ks_ch {ks : List Nat} (hc : Ch ks M M') (hk : ((4 ∉ ks ∧ 5 ∉ ks ∧ 10 ∉ ks) ∧ 6 ∉ ks ∧ 7 ∉ ks ∧ 8 ∉ ks) ∧ (0 ∉ ks ∧ 1 ∉ ks ∧ 2 ∉ ks ∧ 12 ∉ ks)) (ho : OQ F n M') (hq : SQ P n F M') (h : KS P D n F O tl tb fa tr wh M) : KS P D n F O tl tb fa tr wh M' := by
  obtain ⟨h1, h2, h3, h8, h9, h10⟩ := h
  refine ⟨kr_ch hc hk.1 h1, by rw [hc 0 hk.2.1]; exact h2, ?_, cc_ch hc hk.2.2.2.2 h8, ho, hq⟩
  rw [hc 1 hk.2.2.1, hc 2 hk.2.2.2.1]
  exact h3
theorem ks_hv {ks : List Nat} (hc : Ch ks M M') (hk : (((4 ∉ ks ∧ 5 ∉ ks ∧ 10 ∉ ks) ∧ 6 ∉ ks ∧ 7 ∉ ks ∧ 8 ∉ ks) ∧ (0 ∉ ks ∧ 1 ∉ ks ∧ 2 ∉ ks ∧ 12 ∉ ks)) ∧ (16 ∉ ks ∧ 17 ∉ ks ∧ 18 ∉ ks ∧ 19 ∉ ks) ∧ (20 ∉ ks ∧ 21 ∉ ks ∧ 22 ∉ ks)) (h : KS P D n F O tl tb fa tr wh M) : KS P D n F O tl tb fa tr wh M' := ks_ch hc hk.1 (oq_ch hc hk.2.1 h.2.2.2.2.1) (sq_ch hc hk.2.2 h.2.2.2.2.2) h
theorem ks_or (hc : Ch [16, 17, 18, 19] M M') (ho : ORD F n M') (h : KS P D n F O tl tb fa tr wh M) : KS P D n F O tl tb fa tr wh M' := ks_ch hc (by decide) (Or.inr ho) (sq_ch hc (by decide) h.2.2.2.2.2) h
theorem ks_sh (hc : Ch [20, 21, 22] M M') (hq : SHD P n F M') (h : KS P D n F O tl tb fa tr wh M) : KS P D n F O tl tb fa tr wh M' := ks_ch hc (by decide) (oq_ch hc (by decide) h.2.2.2.2.1) (Or.inr hq) h
theorem KS.kr (h : KS P D n F O tl tb fa tr wh M) : KR P D n F O M := h.1
theorem KS.cc (h : KS P D n F O tl tb fa tr wh M) : CC M := h.2.2.2.1
theorem KS.oq (h : KS P D n F O tl tb fa tr wh M) : OQ F n M := h.2.2.2.2.1
theorem KS.sq (h : KS P D n F O tl tb fa tr wh M) : SQ P n F M := h.2.2.2.2.2
end KSS
theorem u1_4 {b : Bool} : u1 b ≠ 4 := by cases b <;> decide
theorem u2_4 {b c : Bool} : u2 b c ≠ 4 := by cases b <;> cases c <;> decide
theorem u2_f1 {b c : Bool} (h : b = false) : u2 b c = 1 := by rw [h]; rfl
theorem u2_f2 {b c : Bool} (h : b = true) (h2 : c = false) : u2 b c = 2 := by rw [h, h2]; rfl
theorem u2_t2 {b c : Bool} (h : b = true) (h2 : c = true) : u2 b c = 0 := by rw [h, h2]; rfl
set_option maxRecDepth 100000 in
set_option maxHeartbeats 4000000 in
theorem ev_X6_refusedT (k : Int) (M : jM) : Ev 0 mX6_refused [(10, 0), (0, ((Bool.toNat (true) : Nat) : Int)), (0, k)] M (fun z M' => z = ((Bool.toNat true : Nat) : Int) ∧ M' = j_up M 0 6 k) := by
  refine Ev_of (by decide +kernel) (Nat.le_of_ble_eq_true rfl) (L := [(10, 0), (0, ((Bool.toNat (true) : Nat) : Int)), (0, k)]) rfl ?_
  refine J_aload_n dX6_refused_0 rfl ?_
  refine J_iload_n dX6_refused_1 rfl ?_
  refine J_ifb_eq (tgt := 9) dX6_refused_2 rfl (fun h2 => ?_) (fun h2 => ?_)
  · exact absurd h2 (by decide)
  ·
    refine J_iload_n dX6_refused_5 rfl ?_
    refine J_goto (tgt := 10) dX6_refused_6 rfl ?_
    refine J_putI dX6_refused_10 flX6_51 rfl rfl (Or.inl rfl) ?_
    refine J_iload_n dX6_refused_13 rfl ?_
    refine J_zreturn dX6_refused_14 rfl (b01 _) ?_
    exact ⟨rfl, rfl⟩
set_option maxRecDepth 100000 in
set_option maxHeartbeats 4000000 in
theorem ev_X6_refusedF (k : Int) (M : jM) : Ev 0 mX6_refused [(10, 0), (0, ((Bool.toNat (false) : Nat) : Int)), (0, k)] M (fun z M' => z = ((Bool.toNat false : Nat) : Int) ∧ M' = j_up M 0 6 0) := by
  refine Ev_of (by decide +kernel) (Nat.le_of_ble_eq_true rfl) (L := [(10, 0), (0, ((Bool.toNat (false) : Nat) : Int)), (0, k)]) rfl ?_
  refine J_aload_n dX6_refused_0 rfl ?_
  refine J_iload_n dX6_refused_1 rfl ?_
  refine J_ifb_eq (tgt := 9) dX6_refused_2 rfl (fun h2 => ?_) (fun h2 => ?_)
  ·
    refine J_iconst dX6_refused_9 ?_
    refine J_putI dX6_refused_10 flX6_51 rfl rfl (Or.inl rfl) ?_
    refine J_iload_n dX6_refused_13 rfl ?_
    refine J_zreturn dX6_refused_14 rfl (b01 _) ?_
    exact ⟨rfl, rfl⟩
  · exact absurd h2 (by decide)
set_option maxRecDepth 100000 in
set_option maxHeartbeats 4000000 in
theorem ev_X6_refusedB (b : Bool) (k : Int) (M : jM) : Ev 0 mX6_refused [(10, 0), (0, ((Bool.toNat (b) : Nat) : Int)), (0, k)] M (fun z M' => z = ((Bool.toNat b : Nat) : Int) ∧ M' = j_up M 0 6 (if b = true then k else 0)) := by
  refine Ev_of (by decide +kernel) (Nat.le_of_ble_eq_true rfl) (L := [(10, 0), (0, ((Bool.toNat (b) : Nat) : Int)), (0, k)]) rfl ?_
  refine J_aload_n dX6_refused_0 rfl ?_
  refine J_iload_n dX6_refused_1 rfl ?_
  refine J_ifb_eq (tgt := 9) dX6_refused_2 rfl (fun h2 => ?_) (fun h2 => ?_)
  ·
    refine J_iconst dX6_refused_9 ?_
    refine J_putI dX6_refused_10 flX6_51 rfl rfl (Or.inl rfl) ?_
    refine J_iload_n dX6_refused_13 rfl ?_
    refine J_zreturn dX6_refused_14 rfl (b01 _) ?_
    exact ⟨rfl, by rw [h2]; rfl⟩
  ·
    refine J_iload_n dX6_refused_5 rfl ?_
    refine J_goto (tgt := 10) dX6_refused_6 rfl ?_
    refine J_putI dX6_refused_10 flX6_51 rfl rfl (Or.inl rfl) ?_
    refine J_iload_n dX6_refused_13 rfl ?_
    refine J_zreturn dX6_refused_14 rfl (b01 _) ?_
    exact ⟨rfl, by rw [h2]; rfl⟩
set_option maxRecDepth 100000 in
set_option maxHeartbeats 4000000 in
theorem ev_X6_isEmpty (P D n : Nat) (F O : Nat → Nat) (M : jM) (hR : KR P D n F O M) : Ev 0 mX6_isEmpty [(10, 0)] M (fun z M' => z = ((Bool.toNat (!bT n) : Nat) : Int) ∧ M' = M) := by
  refine Ev_of (by decide +kernel) (Nat.le_of_ble_eq_true rfl) (L := [(10, 0)]) rfl ?_
  have hn12 := KR.hn hR
  have hP7 := KR.hP hR
  have hD5 := KR.hD hR
  have h2P : 2 ^ P ≤ 128 := Nat.pow_le_pow_right (n := 2) (by decide) hP7
  have h2p := Nat.two_pow_pos P
  refine J_aload_n dX6_isEmpty_0 rfl ?_
  refine J_getR dX6_isEmpty_1 flX6_19 rfl rfl ?_
  refine J_getI dX6_isEmpty_4 flX6_84 rfl rfl (J_top (v := ((n : Nat) : Int)) (KR.gn hR) ?_)
  refine J_if_ne (tgt := 14) dX6_isEmpty_7 rfl (j_R (by omega)) (fun h7 => ?_) (fun h7 => ?_)
  ·
    refine J_iconst dX6_isEmpty_14 ?_
    refine J_zreturn dX6_isEmpty_15 rfl (Or.inl rfl) ?_
    exact ⟨by unfold bT; rw [decide_eq_true (by omega)]; rfl, rfl⟩
  ·
    refine J_iconst dX6_isEmpty_10 ?_
    refine J_goto (tgt := 15) dX6_isEmpty_11 rfl ?_
    refine J_zreturn dX6_isEmpty_15 rfl (Or.inr rfl) ?_
    exact ⟨by unfold bT; rw [decide_eq_false (by omega)]; rfl, rfl⟩
set_option maxRecDepth 100000 in
set_option maxHeartbeats 4000000 in
theorem ev_X6_refusesEmpty (P D n : Nat) (F O : Nat → Nat) (M : jM) (hR : KR P D n F O M) : Ev 1 mX6_refusesEmpty [(10, 0)] M (fun z M' => z = ((Bool.toNat (!bT n) : Nat) : Int) ∧ M' = j_up M 0 6 (u1 (bT n))) := by
  refine Ev_of (by decide +kernel) (Nat.le_of_ble_eq_true rfl) (L := [(10, 0)]) rfl ?_
  have hn12 := KR.hn hR
  have hP7 := KR.hP hR
  have hD5 := KR.hD hR
  have h2P : 2 ^ P ≤ 128 := Nat.pow_le_pow_right (n := 2) (by decide) hP7
  have h2p := Nat.two_pow_pos P
  refine J_aload_n dX6_refusesEmpty_0 rfl ?_
  refine J_aload_n dX6_refusesEmpty_1 rfl ?_
  refine J_callViQ (cl := mX6_isEmpty) [] [(10, 0)] dX6_refusesEmpty_2 mlX6_93 cvX6_isEmpty rfl rfl rfl rfl rfl (by decide) (Nat.le_of_ble_eq_true rfl) rfl (ev_X6_isEmpty P D n F O M hR ) ?_
  refine J_iconst dX6_refusesEmpty_5 ?_
  refine J_callViQ (cl := mX6_refused) [(0, ((Bool.toNat (!bT n) : Nat) : Int)), (0, 1)] [] dX6_refusesEmpty_6 mlX6_66 cvX6_refused rfl rfl rfl rfl rfl (by decide) (Nat.le_of_ble_eq_true rfl) rfl (ev_X6_refusedB (!bT n) 1 M) ?_
  refine J_zreturn dX6_refusesEmpty_9 rfl (b01 _) ?_
  exact ⟨rfl, by unfold u1; cases bT n <;> rfl⟩
set_option maxRecDepth 100000 in
set_option maxHeartbeats 4000000 in
theorem ev_X6_refusesUpTo (P D n : Nat) (F O : Nat → Nat) (M : jM) (hR : KR P D n F O M) (k : Int) (hk : -2147483648 ≤ k ∧ k < 2147483648) (m : Nat) (hm : m < 2147483648) : Ev 2 mX6_refusesUpTo [(10, 0), (0, k), (0, ((m : Nat) : Int))] M (fun z M' => z = ((Bool.toNat (!(bT n && bK m k)) : Nat) : Int) ∧ M' = j_up M 0 6 (u2 (bT n) (bK m k))) := by
  refine Ev_of (by decide +kernel) (Nat.le_of_ble_eq_true rfl) (L := [(10, 0), (0, k), (0, ((m : Nat) : Int))]) rfl ?_
  have hn12 := KR.hn hR
  have hP7 := KR.hP hR
  have hD5 := KR.hD hR
  have h2P : 2 ^ P ≤ 128 := Nat.pow_le_pow_right (n := 2) (by decide) hP7
  have h2p := Nat.two_pow_pos P
  refine J_aload_n dX6_refusesUpTo_0 rfl ?_
  refine J_callViQ (cl := mX6_refusesEmpty) [] [] dX6_refusesUpTo_1 mlX6_146 cvX6_refusesEmpty rfl rfl rfl rfl rfl (by decide) (Nat.le_of_ble_eq_true rfl) rfl (ev_X6_refusesEmpty P D n F O M hR) ?_
  refine J_ifn_ne (b := bT n) (tgt := 29) dX6_refusesUpTo_4 rfl (fun h4 => ?_) (fun h4 => ?_)
  ·
    refine J_iconst dX6_refusesUpTo_29 ?_
    refine J_goto (tgt := 34) dX6_refusesUpTo_30 rfl ?_
    refine J_zreturn dX6_refusesUpTo_34 rfl (Or.inr rfl) ?_
    exact ⟨by rw [h4]; rfl, by rw [u2_f1 h4, u1_f h4]⟩
  ·
    refine J_aload_n dX6_refusesUpTo_7 rfl ?_
    refine J_iload_n dX6_refusesUpTo_8 rfl ?_
    refine J_if_lt (tgt := 17) dX6_refusesUpTo_9 rfl (by omega) (fun h9 => ?_) (fun h9 => ?_)
    ·
      refine J_iconst dX6_refusesUpTo_17 ?_
      refine J_goto (tgt := 22) dX6_refusesUpTo_18 rfl ?_
      refine J_iconst dX6_refusesUpTo_22 ?_
      refine J_callViQ (cl := mX6_refused) [(0, ((Bool.toNat (true) : Nat) : Int)), (0, 2)] [] dX6_refusesUpTo_23 mlX6_66 cvX6_refused rfl rfl rfl rfl rfl (by decide) (Nat.le_of_ble_eq_true rfl) rfl (ev_X6_refusedT 2 (j_up M 0 6 (u1 (bT n)))) ?_
      refine J_ifb_eq (tgt := 33) dX6_refusesUpTo_26 rfl (fun h26 => ?_) (fun h26 => ?_)
      · exact absurd h26 (by decide)
      ·
        refine J_iconst dX6_refusesUpTo_29 ?_
        refine J_goto (tgt := 34) dX6_refusesUpTo_30 rfl ?_
        refine J_zreturn dX6_refusesUpTo_34 rfl (Or.inr rfl) ?_
        have e : bK m k = false := decide_eq_false (by omega)
        exact ⟨by rw [e, Bool.and_false]; rfl, by rw [u2_f2 h4 e, j_up2]⟩
    ·
      refine J_iload_n dX6_refusesUpTo_12 rfl ?_
      refine J_iload_n dX6_refusesUpTo_13 rfl ?_
      refine J_icmp_le (tgt := 21) dX6_refusesUpTo_14 rfl (by omega) (j_R (by omega)) (fun h14 => ?_) (fun h14 => ?_)
      ·
        refine J_iconst dX6_refusesUpTo_21 ?_
        refine J_iconst dX6_refusesUpTo_22 ?_
        refine J_callViQ (cl := mX6_refused) [(0, ((Bool.toNat (false) : Nat) : Int)), (0, 2)] [] dX6_refusesUpTo_23 mlX6_66 cvX6_refused rfl rfl rfl rfl rfl (by decide) (Nat.le_of_ble_eq_true rfl) rfl (ev_X6_refusedF 2 (j_up M 0 6 (u1 (bT n)))) ?_
        refine J_ifb_eq (tgt := 33) dX6_refusesUpTo_26 rfl (fun h26 => ?_) (fun h26 => ?_)
        ·
          refine J_iconst dX6_refusesUpTo_33 ?_
          refine J_zreturn dX6_refusesUpTo_34 rfl (Or.inl rfl) ?_
          have e : bK m k = true := decide_eq_true (by omega)
          exact ⟨by rw [h4, e]; rfl, by rw [u2_t2 h4 e, j_up2]⟩
        · exact absurd h26 (by decide)
      ·
        refine J_iconst dX6_refusesUpTo_17 ?_
        refine J_goto (tgt := 22) dX6_refusesUpTo_18 rfl ?_
        refine J_iconst dX6_refusesUpTo_22 ?_
        refine J_callViQ (cl := mX6_refused) [(0, ((Bool.toNat (true) : Nat) : Int)), (0, 2)] [] dX6_refusesUpTo_23 mlX6_66 cvX6_refused rfl rfl rfl rfl rfl (by decide) (Nat.le_of_ble_eq_true rfl) rfl (ev_X6_refusedT 2 (j_up M 0 6 (u1 (bT n)))) ?_
        refine J_ifb_eq (tgt := 33) dX6_refusesUpTo_26 rfl (fun h26 => ?_) (fun h26 => ?_)
        · exact absurd h26 (by decide)
        ·
          refine J_iconst dX6_refusesUpTo_29 ?_
          refine J_goto (tgt := 34) dX6_refusesUpTo_30 rfl ?_
          refine J_zreturn dX6_refusesUpTo_34 rfl (Or.inr rfl) ?_
          have e : bK m k = false := decide_eq_false (by omega)
          exact ⟨by rw [e, Bool.and_false]; rfl, by rw [u2_f2 h4 e, j_up2]⟩
set_option maxRecDepth 100000 in
set_option maxHeartbeats 4000000 in
theorem ev_X6_refusesSet (P D n : Nat) (F O : Nat → Nat) (M : jM) (hR : KR P D n F O M) (i : Int) (hi : -2147483648 ≤ i ∧ i < 2147483648) : Ev 2 mX6_refusesSet [(10, 0), (0, i)] M (fun z M' => z = ((Bool.toNat (!(bT n && bS P i)) : Nat) : Int) ∧ M' = j_up M 0 6 (u2 (bT n) (bS P i))) := by
  refine Ev_of (by decide +kernel) (Nat.le_of_ble_eq_true rfl) (L := [(10, 0), (0, i)]) rfl ?_
  have hn12 := KR.hn hR
  have hP7 := KR.hP hR
  have hD5 := KR.hD hR
  have h2P : 2 ^ P ≤ 128 := Nat.pow_le_pow_right (n := 2) (by decide) hP7
  have h2p := Nat.two_pow_pos P
  refine J_aload_n dX6_refusesSet_0 rfl ?_
  refine J_callViQ (cl := mX6_refusesEmpty) [] [] dX6_refusesSet_1 mlX6_146 cvX6_refusesEmpty rfl rfl rfl rfl rfl (by decide) (Nat.le_of_ble_eq_true rfl) rfl (ev_X6_refusesEmpty P D n F O M hR) ?_
  refine J_ifn_ne (b := bT n) (tgt := 31) dX6_refusesSet_4 rfl (fun h4 => ?_) (fun h4 => ?_)
  ·
    refine J_iconst dX6_refusesSet_31 ?_
    refine J_goto (tgt := 36) dX6_refusesSet_32 rfl ?_
    refine J_zreturn dX6_refusesSet_36 rfl (Or.inr rfl) ?_
    exact ⟨by rw [h4]; rfl, by rw [u2_f1 h4, u1_f h4]⟩
  ·
    refine J_aload_n dX6_refusesSet_7 rfl ?_
    refine J_aload_n dX6_refusesSet_8 rfl ?_
    refine J_getR dX6_refusesSet_9 flX6_19 rfl rfl ?_
    refine J_iload_n dX6_refusesSet_12 rfl ?_
    refine J_callViQ (cl := mX0_isSet) [(0, i)] [(10, 0)] dX6_refusesSet_13 mlX6_287 cvX0_isSet rfl rfl rfl rfl rfl (by decide) (Nat.le_of_ble_eq_true rfl) rfl (ev_X0_isSet P D n F O (j_up M 0 6 (u1 (bT n))) (kr_up (by decide) hR) i (by omega)) ?_
    refine J_ifb_ne (tgt := 23) dX6_refusesSet_16 rfl (fun h16 => ?_) (fun h16 => ?_)
    ·
      refine J_iconst dX6_refusesSet_23 ?_
      refine J_iconst dX6_refusesSet_24 ?_
      refine J_callViQ (cl := mX6_refused) [(0, ((Bool.toNat (false) : Nat) : Int)), (0, 2)] [] dX6_refusesSet_25 mlX6_66 cvX6_refused rfl rfl rfl rfl rfl (by decide) (Nat.le_of_ble_eq_true rfl) rfl (ev_X6_refusedF 2 (j_up M 0 6 (u1 (bT n)))) ?_
      refine J_ifb_eq (tgt := 35) dX6_refusesSet_28 rfl (fun h28 => ?_) (fun h28 => ?_)
      ·
        refine J_iconst dX6_refusesSet_35 ?_
        refine J_zreturn dX6_refusesSet_36 rfl (Or.inl rfl) ?_
        exact ⟨by rw [h4, h16]; rfl, by rw [u2_t2 h4 h16, j_up2]⟩
      · exact absurd h28 (by decide)
    ·
      refine J_iconst dX6_refusesSet_19 ?_
      refine J_goto (tgt := 24) dX6_refusesSet_20 rfl ?_
      refine J_iconst dX6_refusesSet_24 ?_
      refine J_callViQ (cl := mX6_refused) [(0, ((Bool.toNat (true) : Nat) : Int)), (0, 2)] [] dX6_refusesSet_25 mlX6_66 cvX6_refused rfl rfl rfl rfl rfl (by decide) (Nat.le_of_ble_eq_true rfl) rfl (ev_X6_refusedT 2 (j_up M 0 6 (u1 (bT n)))) ?_
      refine J_ifb_eq (tgt := 35) dX6_refusesSet_28 rfl (fun h28 => ?_) (fun h28 => ?_)
      · exact absurd h28 (by decide)
      ·
        refine J_iconst dX6_refusesSet_31 ?_
        refine J_goto (tgt := 36) dX6_refusesSet_32 rfl ?_
        refine J_zreturn dX6_refusesSet_36 rfl (Or.inr rfl) ?_
        exact ⟨by rw [h4, h16]; rfl, by rw [u2_f2 h4 h16, j_up2]⟩
set_option maxRecDepth 100000 in
set_option maxHeartbeats 4000000 in
theorem ev_X6_refusesFace (P D n : Nat) (F O : Nat → Nat) (M : jM) (hR : KR P D n F O M) (i : Int) (hi : -2147483648 ≤ i ∧ i < 2147483648) : Ev 3 mX6_refusesFace [(10, 0), (0, i)] M (fun z M' => z = ((Bool.toNat (decide (¬ lkW P n F i = 0)) : Nat) : Int) ∧ M' = j_up M 0 6 (lkW P n F i)) := by
  refine Ev_of (by decide +kernel) (Nat.le_of_ble_eq_true rfl) (L := [(10, 0), (0, i)]) rfl ?_
  have hn12 := KR.hn hR
  have hP7 := KR.hP hR
  have hD5 := KR.hD hR
  have h2P : 2 ^ P ≤ 128 := Nat.pow_le_pow_right (n := 2) (by decide) hP7
  have h2p := Nat.two_pow_pos P
  refine J_aload_n dX6_refusesFace_0 rfl ?_
  refine J_iload_n dX6_refusesFace_1 rfl ?_
  refine J_callViQ (cl := mX6_refusesSet) [(0, i)] [] dX6_refusesFace_2 mlX6_122 cvX6_refusesSet rfl rfl rfl rfl rfl (by decide) (Nat.le_of_ble_eq_true rfl) rfl (ev_X6_refusesSet P D n F O M hR i (by omega)) ?_
  refine J_ifn_ne (b := (bT n && bS P i)) (tgt := 32) dX6_refusesFace_5 rfl (fun h5 => ?_) (fun h5 => ?_)
  ·
    refine J_iconst dX6_refusesFace_32 ?_
    refine J_goto (tgt := 37) dX6_refusesFace_33 rfl ?_
    refine J_zreturn dX6_refusesFace_37 rfl (Or.inr rfl) ?_
    have e : lkW P n F i = u2 (bT n) (bS P i) ∧ ¬ u2 (bT n) (bS P i) = 0 := by
      unfold lkW
      cases e1 : bT n
      · have := of_decide_eq_false e1
        rw [if_pos (by omega)]
        exact ⟨rfl, by rw [u2_f1 rfl]; decide⟩
      · have := of_decide_eq_true e1
        cases e2 : bS P i
        · rw [if_neg (by omega), if_pos (of_decide_eq_false e2)]
          exact ⟨rfl, by rw [u2_f2 rfl rfl]; decide⟩
        · rw [e1, e2] at h5
          exact absurd h5 (by decide)
    exact ⟨by rw [e.1, decide_eq_true e.2]; rfl, by rw [e.1]⟩
  ·
    refine J_aload_n dX6_refusesFace_8 rfl ?_
    refine J_aload_n dX6_refusesFace_9 rfl ?_
    refine J_getR dX6_refusesFace_10 flX6_19 rfl rfl ?_
    refine J_iload_n dX6_refusesFace_13 rfl (J_top (v := (((Int.toNat i) : Nat) : Int)) (by rw [Bool.and_eq_true] at h5; have := of_decide_eq_true h5.2; omega) ?_)
    refine J_callViQ (cl := mX0_isFace) [(0, (((Int.toNat i) : Nat) : Int))] [(10, 0)] dX6_refusesFace_14 mlX6_216 cvX0_isFace rfl rfl rfl rfl rfl (by decide) (Nat.le_of_ble_eq_true rfl) rfl (ev_X0_isFace P D n F O (j_up M 0 6 (u2 (bT n) (bS P i))) (kr_up (by decide) hR) (Int.toNat i) (by rw [Bool.and_eq_true] at h5; have := of_decide_eq_true h5.2; omega)) ?_
    refine J_ifb_ne (tgt := 24) dX6_refusesFace_17 rfl (fun h17 => ?_) (fun h17 => ?_)
    ·
      refine J_iconst dX6_refusesFace_24 ?_
      refine J_iconst dX6_refusesFace_25 ?_
      refine J_callViQ (cl := mX6_refused) [(0, ((Bool.toNat (false) : Nat) : Int)), (0, 5)] [] dX6_refusesFace_26 mlX6_66 cvX6_refused rfl rfl rfl rfl rfl (by decide) (Nat.le_of_ble_eq_true rfl) rfl (ev_X6_refusedF 5 (j_up M 0 6 (u2 (bT n) (bS P i)))) ?_
      refine J_ifb_eq (tgt := 36) dX6_refusesFace_29 rfl (fun h29 => ?_) (fun h29 => ?_)
      ·
        refine J_iconst dX6_refusesFace_36 ?_
        refine J_zreturn dX6_refusesFace_37 rfl (Or.inl rfl) ?_
        rw [Bool.and_eq_true] at h5
        have g1 := of_decide_eq_true h5.1
        have g2 := of_decide_eq_true h5.2
        have g3 := lyg_isF n F (Int.toNat i)
        rw [h17] at g3
        have g4 := of_decide_eq_true g3.symm
        have e : lkW P n F i = 0 := by unfold lkW; rw [if_neg (by omega), if_neg (fun q => q g2), if_neg g4]
        exact ⟨by rw [e]; rfl, by rw [e, j_up2]⟩
      · exact absurd h29 (by decide)
    ·
      refine J_iconst dX6_refusesFace_20 ?_
      refine J_goto (tgt := 25) dX6_refusesFace_21 rfl ?_
      refine J_iconst dX6_refusesFace_25 ?_
      refine J_callViQ (cl := mX6_refused) [(0, ((Bool.toNat (true) : Nat) : Int)), (0, 5)] [] dX6_refusesFace_26 mlX6_66 cvX6_refused rfl rfl rfl rfl rfl (by decide) (Nat.le_of_ble_eq_true rfl) rfl (ev_X6_refusedT 5 (j_up M 0 6 (u2 (bT n) (bS P i)))) ?_
      refine J_ifb_eq (tgt := 36) dX6_refusesFace_29 rfl (fun h29 => ?_) (fun h29 => ?_)
      · exact absurd h29 (by decide)
      ·
        refine J_iconst dX6_refusesFace_32 ?_
        refine J_goto (tgt := 37) dX6_refusesFace_33 rfl ?_
        refine J_zreturn dX6_refusesFace_37 rfl (Or.inr rfl) ?_
        rw [Bool.and_eq_true] at h5
        have g1 := of_decide_eq_true h5.1
        have g2 := of_decide_eq_true h5.2
        have g3 := lyg_isF n F (Int.toNat i)
        rw [h17] at g3
        have g4 := of_decide_eq_false g3.symm
        have e : lkW P n F i = 5 := by unfold lkW; rw [if_neg (by omega), if_neg (fun q => q g2), if_pos (Decidable.not_not.mp g4)]
        exact ⟨by rw [e]; rfl, by rw [e, j_up2]⟩
set_option maxRecDepth 100000 in
set_option maxHeartbeats 4000000 in
theorem ev_X6_refusesPlace (P D n : Nat) (F O : Nat → Nat) (M : jM) (hR : KR P D n F O M) (i : Int) (hi : -2147483648 ≤ i ∧ i < 2147483648) : Ev 1 mX6_refusesPlace [(10, 0), (0, i)] M (fun z M' => z = ((Bool.toNat (!bI n i) : Nat) : Int) ∧ M' = j_up M 0 6 (u1 (bI n i))) := by
  refine Ev_of (by decide +kernel) (Nat.le_of_ble_eq_true rfl) (L := [(10, 0), (0, i)]) rfl ?_
  have hn12 := KR.hn hR
  have hP7 := KR.hP hR
  have hD5 := KR.hD hR
  have h2P : 2 ^ P ≤ 128 := Nat.pow_le_pow_right (n := 2) (by decide) hP7
  have h2p := Nat.two_pow_pos P
  refine J_aload_n dX6_refusesPlace_0 rfl ?_
  refine J_aload_n dX6_refusesPlace_1 rfl ?_
  refine J_getR dX6_refusesPlace_2 flX6_26 rfl rfl ?_
  refine J_aload_n dX6_refusesPlace_5 rfl ?_
  refine J_getR dX6_refusesPlace_6 flX6_19 rfl rfl ?_
  refine J_iload_n dX6_refusesPlace_9 rfl ?_
  refine J_callViQ (cl := mX3_isPlace) [(14, 0), (0, i)] [(10, 0)] dX6_refusesPlace_10 mlX6_225 cvX3_isPlace rfl rfl rfl rfl rfl (by decide) (Nat.le_of_ble_eq_true rfl) rfl (ev_X3_isPlace P D n F O M hR i (by omega)) ?_
  refine J_ifb_ne (tgt := 20) dX6_refusesPlace_13 rfl (fun h13 => ?_) (fun h13 => ?_)
  ·
    refine J_iconst dX6_refusesPlace_20 ?_
    refine J_iconst dX6_refusesPlace_21 ?_
    refine J_callViQ (cl := mX6_refused) [(0, ((Bool.toNat (false) : Nat) : Int)), (0, 1)] [] dX6_refusesPlace_22 mlX6_66 cvX6_refused rfl rfl rfl rfl rfl (by decide) (Nat.le_of_ble_eq_true rfl) rfl (ev_X6_refusedF 1 M) ?_
    refine J_zreturn dX6_refusesPlace_25 rfl (b01 _) ?_
    exact ⟨by rw [h13]; rfl, by rw [u1_t h13]⟩
  ·
    refine J_iconst dX6_refusesPlace_16 ?_
    refine J_goto (tgt := 21) dX6_refusesPlace_17 rfl ?_
    refine J_iconst dX6_refusesPlace_21 ?_
    refine J_callViQ (cl := mX6_refused) [(0, ((Bool.toNat (true) : Nat) : Int)), (0, 1)] [] dX6_refusesPlace_22 mlX6_66 cvX6_refused rfl rfl rfl rfl rfl (by decide) (Nat.le_of_ble_eq_true rfl) rfl (ev_X6_refusedT 1 M) ?_
    refine J_zreturn dX6_refusesPlace_25 rfl (b01 _) ?_
    exact ⟨by rw [h13]; rfl, by rw [u1_f h13]⟩
set_option maxRecDepth 100000 in
set_option maxHeartbeats 4000000 in
theorem ev_X6_renew (n : Nat) (F : Nat → Nat) (M : jM) (hB : KB n F M) : Ev 4 mX6_renew [(10, 0)] M (fun z M' => Ch [6, 7, 8, 16, 20] M M' ∧ KT n F M' ∧ M' 16 0 = 0 ∧ M' 20 0 = 0) := by
  refine Ev_of (by decide +kernel) (Nat.le_of_ble_eq_true rfl) (L := [(10, 0)]) rfl ?_
  refine J_aload_n dX6_renew_0 rfl ?_
  refine J_getR dX6_renew_1 flX6_19 rfl rfl ?_
  refine J_callVv (cl := mX0_recount) [] [] dX6_renew_4 mlX6_320 cvX0_recount rfl rfl rfl rfl rfl (by decide) (Nat.le_of_ble_eq_true rfl) rfl (ev_X0_recount n F M hB) (fun Ma hq4 => ?_)
  obtain ⟨a1, a2⟩ := hq4
  refine J_aload_n dX6_renew_7 rfl ?_
  refine J_getR dX6_renew_8 flX6_40 rfl rfl ?_
  refine J_iconst dX6_renew_11 ?_
  refine J_putI dX6_renew_12 flX6_323 rfl rfl (Or.inr ⟨rfl, Or.inl rfl⟩) ?_
  refine J_aload_n dX6_renew_15 rfl ?_
  refine J_getR dX6_renew_16 flX6_47 rfl rfl ?_
  refine J_iconst dX6_renew_19 ?_
  refine J_putI dX6_renew_20 flX6_327 rfl rfl (Or.inr ⟨rfl, Or.inl rfl⟩) ?_
  refine J_return dX6_renew_23 rfl ?_
  refine ⟨Ch_up (by decide) (Ch_up (by decide) (Ch_mo a1 (by decide))), ⟨?_, ?_, ?_⟩, ru_ne (by decide) j_up_eq, j_up_eq⟩
  · intro p hp; rw [j_up_ne (by decide), j_up_ne (by decide)]; exact a2.1 p hp
  · intro s hs; rw [j_up_ne (by decide), j_up_ne (by decide)]; exact a2.2.1 s hs
  · intro i p hi hp; rw [j_up_ne (by decide), j_up_ne (by decide)]; exact a2.2.2 i p hi hp
set_option maxRecDepth 100000 in
set_option maxHeartbeats 4000000 in
theorem ev_X6_allOrders (P D n : Nat) (F O : Nat → Nat) (M : jM) (hR : KR P D n F O M) (hO : OQ F n M) : Ev 8 mX6_allOrders [(10, 0)] M (fun z M' => z = 16 ∧ ORD F n M' ∧ Ch [16, 17, 18, 19] M M') := by
  refine Ev_of (by decide +kernel) (Nat.le_of_ble_eq_true rfl) (L := [(10, 0)]) rfl ?_
  refine J_aload_n dX6_allOrders_0 rfl ?_
  refine J_getR dX6_allOrders_1 flX6_40 rfl rfl ?_
  refine J_aload_n dX6_allOrders_4 rfl ?_
  refine J_getR dX6_allOrders_5 flX6_19 rfl rfl ?_
  refine J_callVv (cl := mX2_fill) [(14, 0)] [] dX6_allOrders_8 mlX6_333 cvX2_fill rfl rfl rfl rfl rfl (by decide) (Nat.le_of_ble_eq_true rfl) rfl (ev_X2_fill P D n F O M hR hO) (fun Ma hq8 => ?_)
  obtain ⟨a1, a2⟩ := hq8
  refine J_aload_n dX6_allOrders_11 rfl ?_
  refine J_getR dX6_allOrders_12 flX6_40 rfl rfl ?_
  refine J_areturn dX6_allOrders_15 rfl ?_
  exact ⟨rfl, a1, a2⟩
set_option maxRecDepth 100000 in
set_option maxHeartbeats 4000000 in
theorem ev_X6_allSheddings (P D n : Nat) (F O : Nat → Nat) (M : jM) (hR : KR P D n F O M) (hQ : SQ P n F M) : Ev 1 mX6_allSheddings [(10, 0)] M (fun z M' => z = 20 ∧ SHD P n F M' ∧ Ch [20, 21, 22] M M') := by
  refine Ev_of (by decide +kernel) (Nat.le_of_ble_eq_true rfl) (L := [(10, 0)]) rfl ?_
  refine J_aload_n dX6_allSheddings_0 rfl ?_
  refine J_getR dX6_allSheddings_1 flX6_47 rfl rfl ?_
  refine J_callVv (cl := mX4_begin) [] [] dX6_allSheddings_4 mlX6_336 cvX4_begin rfl rfl rfl rfl rfl (by decide) (Nat.le_of_ble_eq_true rfl) rfl (ev_X4_begin P n (KR.hn hR) F M hQ) (fun Ma hq4 => ?_)
  obtain ⟨a1, a2⟩ := hq4
  refine J_aload_n dX6_allSheddings_7 rfl ?_
  refine J_getR dX6_allSheddings_8 flX6_47 rfl rfl ?_
  refine J_areturn dX6_allSheddings_11 rfl ?_
  exact ⟨rfl, a1, a2⟩
