theorem rnT_all (q : Nat → Bool) (n p : Nat) : ∀ j, p ≤ j → j < rnT q n p → q j = true := by
  intro j h1 h2
  by_cases h : p < n
  · by_cases hq : q p = true
    · by_cases e : j = p
      · rw [e]; exact hq
      · rw [rnT_step h hq] at h2
        exact rnT_all q n (p + 1) j (by omega) h2
    · rw [rnT_stop (by simpa using hq)] at h2
      omega
  · rw [rnT_end (by omega)] at h2
    omega
termination_by n - p
theorem tk_word {n : Nat} {tb : Nat → Nat} {s : Nat} (h : tkK n tb s = 2) : tkN n tb s - tkP n tb s ≤ 7 ∧ ∀ j, tkP n tb s ≤ j → j < tkN n tb s → 97 ≤ tb j ∧ tb j ≤ 122 := by
  unfold tkK at h
  split at h
  · omega
  rename_i h0
  split at h
  · rename_i h1
    refine ⟨by split at h <;> omega, fun j h2 h3 => ?_⟩
    unfold tkN at h3
    rw [if_neg h0, if_pos h1] at h3
    exact of_decide_eq_true (rnT_all (ltB tb) n _ j h2 h3)
  · split at h
    · split at h <;> omega
    · split at h <;> omega
theorem cur_upF {n : Nat} {tb : Nat → Nat} {s : Nat} {M : jM} {z v : Int} (hz : z ≠ 12 ∧ z ≠ 13 ∧ z ≠ 14 ∧ z ≠ 15 ∧ z ≠ 16) (h : Cur n tb s M) : Cur n tb s (j_up M 23 z v) :=
  ⟨rm_upF (fun q => hz.1 q.symm) h.1, h.2.1, ru_nz (fun q => hz.2.1 q.symm) h.2.2.1, ru_nz (fun q => hz.2.2.1 q.symm) h.2.2.2.1, ru_nz (fun q => hz.2.2.2.1 q.symm) h.2.2.2.2.1, fun w => ru_nz (fun q => hz.2.2.2.2 q.symm) (h.2.2.2.2.2 w)⟩
theorem cur_upA {n : Nat} {tb : Nat → Nat} {s : Nat} {M : jM} {k : Nat} {z v : Int} (hk : 23 ≠ k ∧ 24 ≠ k) (h : Cur n tb s M) : Cur n tb s (j_up M k z v) :=
  ⟨rm_upA hk h.1, h.2.1, ru_ne hk.1 h.2.2.1, ru_ne hk.1 h.2.2.2.1, ru_ne hk.1 h.2.2.2.2.1, fun w => ru_ne hk.1 (h.2.2.2.2.2 w)⟩
theorem lns_fz {n : Nat} {tb : Nat → Nat} {s s' P D m : Nat} {R : Nat → Nat} {M M' : jM} {zs : List Int} (h : LnS n tb s P D m R M) (hc : Cur n tb s' M') (hf : Fz zs [] M M') (hz : (19 : Int) ∉ zs ∧ (20 : Int) ∉ zs ∧ (21 : Int) ∉ zs) : LnS n tb s' P D m R M' := by
  obtain ⟨h1, h2, h3, h4, h5, h6⟩ := h
  refine ⟨hc, by rw [hf.2 19 hz.1]; exact h2, fun q => by rw [hf.2 20 hz.2.1]; exact h3 q, by rw [hf.2 21 hz.2.2]; exact h4, h5, fun j hj => ?_⟩
  rw [hf.1 27 (by decide)]
  exact h6 j hj
set_option maxRecDepth 100000 in
set_option maxHeartbeats 4000000 in
theorem ev_X7_pointsOf_L7 (n : Nat) (tb : Nat → Nat) (s : Nat) (M : jM) (hC : Cur n tb s M) (P D : Nat) (hP7 : P ≤ 7) (hD5 : D ≤ 5) (hp : M 23 19 = (P : Int)) (hd : M 23 20 = (D : Int)) (hw : tkK n tb s = 2)  : ∀ (fu : Nat) (k : Nat) (f1 : wsO P tb (tkP n tb s) k = true) (f2 : k ≤ tkN n tb s - (tkP n tb s)) (hfu : tkN n tb s - (tkP n tb s) - k < fu), J none 1 mX7_pointsOf 7 [(33, 0), (0, (((wsB tb (tkP n tb s) k) : Nat) : Int)), (0, (((tkP n tb s + k) : Nat) : Int)), (9, 0)] [] M (j_ret mX7_pointsOf (fun z M' => z = (if wsK P D tb (tkP n tb s) (tkN n tb s) = true then ((fcS n tb s : Nat) : Int) else -1) ∧ M' = M)) := by
  intro fu
  induction fu with
  | zero => intro k f1 f2 hfu; exact absurd hfu (Nat.not_lt_zero _)
  | succ fu ih =>
    intro k f1 f2 hfu
    have hM := hC.1
    have hn2 := hC.1.1
    have hsn := hC.2.1
    have hN := tkN_le (tb := tb) hC.2.1
    have hPN := tkN_ge n tb s
    have hK := tkK_le n tb s
    obtain ⟨w7, wl⟩ := tk_word hw
    refine J_iload_n dX7_pointsOf_7 rfl ?_
    refine J_aload_n dX7_pointsOf_8 rfl ?_
    refine J_getI dX7_pointsOf_9 flX7_71 rfl rfl (J_top (v := (((tkN n tb s) : Nat) : Int)) hC.2.2.2.1 ?_)
    refine J_icmp_ge (tgt := 55) dX7_pointsOf_12 rfl (j_R (by omega)) (j_R (by omega)) (fun h12 => ?_) (fun h12 => ?_)
    ·
      refine J_iload_n dX7_pointsOf_55 rfl ?_
      refine J_callSiQ (cl := mX7_many) [(0, (((wsB tb (tkP n tb s) k) : Nat) : Int))] [] dX7_pointsOf_56 mlX7_136 csX7_many rfl rfl (by decide) (Nat.le_of_ble_eq_true rfl) rfl (ev_X7_many (wsB tb (tkP n tb s) k) (p12 (by omega) (wsB_lt k f1)) M) ?_
      refine J_aload_n dX7_pointsOf_59 rfl ?_
      refine J_getI dX7_pointsOf_60 flX7_129 rfl rfl (J_top (v := ((D : Nat) : Int)) hd ?_)
      refine J_icmp_ne (tgt := 70) dX7_pointsOf_63 rfl (j_R (popc_lt (p12 (by omega) (wsB_lt k f1)))) (j_R (by omega)) (fun h63 => ?_) (fun h63 => ?_)
      ·
        refine J_iconst dX7_pointsOf_70 ?_
        refine J_ireturn dX7_pointsOf_71 rfl ?_
        have hk : k = tkN n tb s - tkP n tb s := by omega
        exact ⟨by rw [if_neg]; intro q; unfold wsK at q; rw [← hk, Bool.and_eq_true, beq_iff_eq] at q; omega, rfl⟩
      ·
        refine J_iload_n dX7_pointsOf_66 rfl ?_
        refine J_goto (tgt := 71) dX7_pointsOf_67 rfl ?_
        refine J_ireturn dX7_pointsOf_71 rfl ?_
        have hk : k = tkN n tb s - tkP n tb s := by omega
        exact ⟨by rw [if_pos]; unfold fcS; rw [← hk]; unfold wsK; rw [← hk, f1, beq_iff_eq.mpr (by omega)]; rfl, rfl⟩
    ·
      refine J_aload_n dX7_pointsOf_15 rfl ?_
      refine J_getR dX7_pointsOf_16 flX7_13 rfl rfl ?_
      refine J_iload_n dX7_pointsOf_19 rfl ?_
      refine J_iald dX7_pointsOf_20 rfl (by decide) (by have := hM.1; omega) (J_top (v := (((tb (tkP n tb s + k)) : Nat) : Int)) (hC.1.2.2 (tkP n tb s + k) (by omega)).1 ?_)
      refine J_bipush dX7_pointsOf_21 (by decide) ?_
      refine J_isub dX7_pointsOf_23 (J_top (v := (((tb (tkP n tb s + k) - 97) : Nat) : Int)) (by have := wl (tkP n tb s + k) (by omega) (by omega); omega) ?_)
      refine J_istore_n (L' := [(33, 0), (0, (((wsB tb (tkP n tb s) k) : Nat) : Int)), (0, (((tkP n tb s + k) : Nat) : Int)), (0, (((tb (tkP n tb s + k) - 97) : Nat) : Int))]) dX7_pointsOf_24 (by decide) rfl rfl ?_
      refine J_iload_n dX7_pointsOf_25 rfl ?_
      refine J_aload_n dX7_pointsOf_26 rfl ?_
      refine J_getI dX7_pointsOf_27 flX7_118 rfl rfl (J_top (v := ((P : Nat) : Int)) hp ?_)
      refine J_icmp_ge (tgt := 41) dX7_pointsOf_30 rfl (j_R (by have := wl (tkP n tb s + k) (by omega) (by omega); omega)) (j_R (by omega)) (fun h30 => ?_) (fun h30 => ?_)
      ·
        refine J_iconst dX7_pointsOf_41 ?_
        refine J_ireturn dX7_pointsOf_42 rfl ?_
        exact ⟨by rw [if_neg]; intro q; unfold wsK at q; rw [Bool.and_eq_true] at q; have q2 := wsO_dn (k := k + 1) q.1 (by omega); simp only [wsO, Bool.and_eq_true, decide_eq_true_eq] at q2; omega, rfl⟩
      ·
        refine J_iload_n dX7_pointsOf_33 rfl ?_
        refine J_iload_n dX7_pointsOf_34 rfl ?_
        refine J_callSiQ (cl := mX7_has) [(0, (((wsB tb (tkP n tb s) k) : Nat) : Int)), (0, (((tb (tkP n tb s + k) - 97) : Nat) : Int))] [] dX7_pointsOf_35 mlX7_132 csX7_has rfl rfl (by decide) (Nat.le_of_ble_eq_true rfl) rfl (ev_X7_has (wsB tb (tkP n tb s) k) (tb (tkP n tb s + k) - 97) (p12 (by omega) (wsB_lt k f1)) (by omega) M) ?_
        refine J_ifb_eq (tgt := 43) dX7_pointsOf_38 rfl (fun h38 => ?_) (fun h38 => ?_)
        ·
          refine J_iload_n dX7_pointsOf_43 rfl ?_
          refine J_iconst dX7_pointsOf_44 ?_
          refine J_iload_n dX7_pointsOf_45 rfl ?_
          refine J_ishl dX7_pointsOf_46 (J_top (v := (((2 ^ (tb (tkP n tb s + k) - 97)) : Nat) : Int)) (j_shl1 rfl rfl (by omega)) ?_)
          refine J_ior dX7_pointsOf_47 (J_top (v := ((((wsB tb (tkP n tb s) k) ||| (2 ^ (tb (tkP n tb s + k) - 97))) : Nat) : Int)) (j_orN rfl rfl (p12 (by omega) (wsB_lt k f1)) (nb_p2 (by omega))) ?_)
          refine J_istore_n (L' := [(33, 0), (0, ((((wsB tb (tkP n tb s) k) ||| (2 ^ (tb (tkP n tb s + k) - 97))) : Nat) : Int)), (0, (((tkP n tb s + k) : Nat) : Int)), (0, (((tb (tkP n tb s + k) - 97) : Nat) : Int))]) dX7_pointsOf_48 (by decide) rfl rfl ?_
          refine J_iinc (v := ((((tkP n tb s + k) + 1) : Nat) : Int)) (L' := [(33, 0), (0, ((((wsB tb (tkP n tb s) k) ||| (2 ^ (tb (tkP n tb s + k) - 97))) : Nat) : Int)), (0, ((((tkP n tb s + k) + 1) : Nat) : Int)), (0, (((tb (tkP n tb s + k) - 97) : Nat) : Int))]) dX7_pointsOf_49 rfl (by omega) (by decide) rfl rfl ?_
          refine J_goto (tgt := 7) dX7_pointsOf_52 rfl ?_
          refine J_unset 3 (L' := [(33, 0), (0, ((((wsB tb (tkP n tb s) k) ||| (2 ^ (tb (tkP n tb s + k) - 97))) : Nat) : Int)), (0, ((((tkP n tb s + k) + 1) : Nat) : Int)), (9, 0)]) rfl ?_
          exact ih (k + 1) (by simp only [wsO]; rw [f1, decide_eq_true (by omega : tb (tkP n tb s + k) - 97 < P), h38]; rfl) (by omega) (by omega)
        ·
          refine J_iconst dX7_pointsOf_41 ?_
          refine J_ireturn dX7_pointsOf_42 rfl ?_
          exact ⟨by rw [if_neg]; intro q; unfold wsK at q; rw [Bool.and_eq_true] at q; have q2 := wsO_dn (k := k + 1) q.1 (by omega); simp only [wsO, Bool.and_eq_true, decide_eq_true_eq] at q2; rw [h38] at q2; exact absurd q2.2.2 (by decide), rfl⟩
set_option maxRecDepth 100000 in
set_option maxHeartbeats 4000000 in
theorem ev_X7_pointsOf (n : Nat) (tb : Nat → Nat) (s : Nat) (M : jM) (hC : Cur n tb s M) (P D : Nat) (hP7 : P ≤ 7) (hD5 : D ≤ 5) (hp : M 23 19 = (P : Int)) (hd : M 23 20 = (D : Int)) (hw : tkK n tb s = 2) : Ev 1 mX7_pointsOf [(33, 0)] M (fun z M' => z = (if wsK P D tb (tkP n tb s) (tkN n tb s) = true then ((fcS n tb s : Nat) : Int) else -1) ∧ M' = M) := by
  refine Ev_of (by decide +kernel) (Nat.le_of_ble_eq_true rfl) (L := [(33, 0), (9, 0), (9, 0), (9, 0)]) rfl ?_
  have hM := hC.1
  have hn2 := hC.1.1
  have hsn := hC.2.1
  have hN := tkN_le (tb := tb) hC.2.1
  have hPN := tkN_ge n tb s
  have hK := tkK_le n tb s
  obtain ⟨w7, wl⟩ := tk_word hw
  refine J_iconst dX7_pointsOf_0 ?_
  refine J_istore_n (L' := [(33, 0), (0, 0), (9, 0), (9, 0)]) dX7_pointsOf_1 (by decide) rfl rfl ?_
  refine J_aload_n dX7_pointsOf_2 rfl ?_
  refine J_getI dX7_pointsOf_3 flX7_78 rfl rfl (J_top (v := (((tkP n tb s + 0) : Nat) : Int)) hC.2.2.1 ?_)
  refine J_istore_n (L' := [(33, 0), (0, 0), (0, (((tkP n tb s + 0) : Nat) : Int)), (9, 0)]) dX7_pointsOf_6 (by decide) rfl rfl ?_
  refine J_eq (L' := [(33, 0), (0, ((0 : Nat) : Int)), (0, (((tkP n tb s + 0) : Nat) : Int)), (9, 0)]) rfl rfl rfl ?_
  exact ev_X7_pointsOf_L7 n tb s M hC P D hP7 hD5 hp hd hw  _ _ (by rfl) (by omega) (Nat.lt_succ_self _)
