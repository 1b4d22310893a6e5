theorem lnq_fz {n : Nat} {tb : Nat → Nat} {M M1 M' : jM} {r : LnR} {z : Int} (hf : Fz [13, 14, 15, 16, 17, 18, 19, 20, 21] [27] M M1) (h : LnQ n tb M1 r z M') : LnQ n tb M r z M' := ⟨Fz_tr hf h.1, h.2⟩
theorem lnq01 {n : Nat} {tb : Nat → Nat} {M M' : jM} {r : LnR} {z : Int} (h : LnQ n tb M r z M') : z = 0 ∨ z = 1 := by
  obtain ⟨-, h⟩ := h
  match r, h with
  | .inl (f, p), h => exact Or.inl h.1
  | .inr (s, P, D, m, R), h => exact Or.inr h.1
theorem fcS_lt {n P D : Nat} {tb : Nat → Nat} {s : Nat} (h : wsK P D tb (tkP n tb s) (tkN n tb s) = true) : fcS n tb s < 2 ^ P := by
  unfold wsK at h
  rw [Bool.and_eq_true] at h
  exact wsB_lt _ h.1
set_option maxRecDepth 100000 in
set_option maxHeartbeats 4000000 in
theorem ev_X7_readComplex (n : Nat) (tb : Nat → Nat) (s P D m : Nat) (R : Nat → Nat) (M : jM) (hL : LnS n tb s P D m R M) : Ev 6 mX7_readComplex [(33, 0)] M (fun z M' => LnQ n tb M (hdR n tb s P m R) z M') := by
  refine Ev_of (by decide +kernel) (Nat.le_of_ble_eq_true rfl) (L := [(33, 0), (9, 0)]) rfl ?_
  have hC := hL.1
  have hM := hC.1
  have hn2 := hC.1.1
  have hsn := hC.2.1
  have hN := tkN_le (tb := tb) hC.2.1
  have hPN := tkN_ge n tb s
  have hK := tkK_le n tb s
  have hPm := hL.2.2.2.2.1
  refine J_aload_n dX7_readComplex_0 rfl ?_
  refine J_getI dX7_readComplex_1 flX7_118 rfl rfl (J_top (v := ((P : Nat) : Int)) hL.2.1 ?_)
  refine J_if_le (tgt := 13) dX7_readComplex_4 rfl (j_R (by omega)) (fun h4 => ?_) (fun h4 => ?_)
  ·
    refine J_aload_n dX7_readComplex_13 rfl ?_
    refine J_callVv (cl := mX7_goesOn) [] [] dX7_readComplex_14 mlX7_111 cvX7_goesOn rfl rfl rfl rfl rfl (by decide) (Nat.le_of_ble_eq_true rfl) rfl (ev_X7_goesOn n tb M hC.1 (tkN n tb s) (tkN_le hC.2.1) hC.2.2.2.1) (fun M1 hq14 => ?_)
    obtain ⟨a1, a2⟩ := hq14
    refine J_aload_n dX7_readComplex_17 rfl ?_
    refine J_ldcT (z := 2) (i := 2) (tx := "points") dX7_readComplex_18 (by decide) rfl ?_
    refine J_iconst dX7_readComplex_20 ?_
    refine J_bipush dX7_readComplex_21 (by decide) ?_
    refine J_callVi (cl := mX7_after) [(4, 2), (0, 1), (0, 7)] [] dX7_readComplex_23 mlX7_123 cvX7_after rfl rfl rfl rfl rfl (by decide) (Nat.le_of_ble_eq_true rfl) rfl (ev_X7_after n tb (tkN n tb s) M1 a1 2 7 (by decide) (by decide)) (fun z23 M2 hq23 => ?_)
    have hq23 := hq23
    refine J_istore_n (L' := [(33, 0), (0, z23)]) dX7_readComplex_26 (by decide) rfl rfl ?_
    refine J_iload_n dX7_readComplex_27 rfl ?_
    refine J_iconst dX7_readComplex_28 ?_
    refine J_icmp_ne (tgt := 34) dX7_readComplex_29 rfl (AfQ_R hq23 (by decide)) (by decide) (fun h29 => ?_) (fun h29 => ?_)
    ·
      obtain ⟨q1, q2, q3, q4, q5⟩ := AfQ_ok hq23 (by omega)
      refine J_eq (L' := [(33, 0), (0, (((tkW n tb (tkN n tb (tkN n tb s))) : Nat) : Int))]) (by rw [q2]) rfl rfl ?_
      refine J_aload_n dX7_readComplex_34 rfl ?_
      refine J_aload_n dX7_readComplex_35 rfl ?_
      refine J_ldcT (z := 3) (i := 3) (tx := "size") dX7_readComplex_36 (by decide) rfl ?_
      refine J_iconst dX7_readComplex_38 ?_
      refine J_iload_n dX7_readComplex_39 rfl ?_
      refine J_iconst dX7_readComplex_40 ?_
      refine J_icmp_ge (tgt := 48) dX7_readComplex_41 rfl (j_R (by omega)) (by decide) (fun h41 => ?_) (fun h41 => ?_)
      ·
        refine J_iconst dX7_readComplex_48 ?_
        refine J_callVi (cl := mX7_after) [(4, 3), (0, 1), (0, 5)] [(33, 0)] dX7_readComplex_49 mlX7_123 cvX7_after rfl rfl rfl rfl rfl (by decide) (Nat.le_of_ble_eq_true rfl) rfl (ev_X7_after n tb (tkN n tb (tkN n tb (tkN n tb s))) M2 q4 3 5 (by decide) (by omega)) (fun z49 M3 hq49 => ?_)
        have hq49 := hq49
        refine J_putI dX7_readComplex_52 flX7_129 rfl rfl (Or.inl rfl) ?_
        refine J_aload_n dX7_readComplex_55 rfl ?_
        refine J_getI dX7_readComplex_56 flX7_129 rfl rfl (J_top (v := z49) j_up_eq ?_)
        refine J_iconst dX7_readComplex_59 ?_
        refine J_icmp_ne (tgt := 65) dX7_readComplex_60 rfl (AfQ_R hq49 (by omega)) (by decide) (fun h60 => ?_) (fun h60 => ?_)
        ·
          refine J_aload_n dX7_readComplex_65 rfl ?_
          refine J_iload_n dX7_readComplex_66 rfl ?_
          refine J_putI dX7_readComplex_67 flX7_118 rfl rfl (Or.inl rfl) ?_
          refine J_iconst dX7_readComplex_70 ?_
          refine J_zreturn dX7_readComplex_71 rfl (Or.inr rfl) ?_
          obtain ⟨r1, r2, r3, r4, r5⟩ := AfQ_ok hq49 h60
          have hm : min (tkW n tb (tkN n tb (tkN n tb s))) 5 = 5 := by omega
          have hr : hdR n tb s P m R = .inr ((tkN n tb (tkN n tb (tkN n tb (tkN n tb (tkN n tb s))))), (tkW n tb (tkN n tb (tkN n tb s))), tkW n tb (tkN n tb (tkN n tb (tkN n tb (tkN n tb s)))), m, R) := by unfold hdR; rw [if_neg (by omega), if_pos q1, hm, if_pos r1]
          rw [hr]
          have hF := Fz_tr (Fz_tr (Fz_mo a2 (zs' := [13, 14, 15, 16, 17, 18]) (by decide) (by decide)) q5) r5
          refine ⟨Fz_upz (by decide) (Fz_upz (by decide) (Fz_mo hF (by decide) (by decide))), rfl, ⟨cur_upF (by decide) (cur_upF (by decide) r4), j_up_eq, fun _ => ru_nz (by decide) (by rw [j_up_eq, r2]), ?_, by omega, ?_⟩, by omega⟩
          · rw [j_up_nz (by decide), j_up_nz (by decide), hF.2 21 (by decide)]; exact hL.2.2.2.1
          · intro j hj; rw [j_up_ne (by decide), j_up_ne (by decide), hF.1 27 (by decide)]; exact hL.2.2.2.2.2 j hj
        ·
          refine J_iconst dX7_readComplex_63 ?_
          refine J_zreturn dX7_readComplex_64 rfl (Or.inl rfl) ?_
          obtain ⟨r1, r2, r3, r4⟩ := AfQ_no hq49 h60
          have hm : min (tkW n tb (tkN n tb (tkN n tb s))) 5 = 5 := by omega
          have hr : hdR n tb s P m R = .inl (afF n tb (tkN n tb (tkN n tb (tkN n tb s))) 3, afP n tb (tkN n tb (tkN n tb (tkN n tb s))) 3) := by unfold hdR; rw [if_neg (by omega), if_pos q1, hm, if_neg (by rw [r1]; decide)]
          rw [hr]
          exact ⟨Fz_upz (by decide) (Fz_tr (Fz_tr (Fz_mo a2 (by decide) (by decide)) (Fz_mo q5 (by decide) (by decide))) (Fz_mo r4 (by decide) (by decide))), rfl, ru_nz (by decide) r2, ru_nz (by decide) r3⟩
      ·
        refine J_iload_n dX7_readComplex_44 rfl ?_
        refine J_goto (tgt := 49) dX7_readComplex_45 rfl ?_
        refine J_callVi (cl := mX7_after) [(4, 3), (0, 1), (0, (((tkW n tb (tkN n tb (tkN n tb s))) : Nat) : Int))] [(33, 0)] dX7_readComplex_49 mlX7_123 cvX7_after rfl rfl rfl rfl rfl (by decide) (Nat.le_of_ble_eq_true rfl) rfl (ev_X7_after n tb (tkN n tb (tkN n tb (tkN n tb s))) M2 q4 3 (tkW n tb (tkN n tb (tkN n tb s))) (by decide) (by omega)) (fun z49 M3 hq49 => ?_)
        have hq49 := hq49
        refine J_putI dX7_readComplex_52 flX7_129 rfl rfl (Or.inl rfl) ?_
        refine J_aload_n dX7_readComplex_55 rfl ?_
        refine J_getI dX7_readComplex_56 flX7_129 rfl rfl (J_top (v := z49) j_up_eq ?_)
        refine J_iconst dX7_readComplex_59 ?_
        refine J_icmp_ne (tgt := 65) dX7_readComplex_60 rfl (AfQ_R hq49 (by omega)) (by decide) (fun h60 => ?_) (fun h60 => ?_)
        ·
          refine J_aload_n dX7_readComplex_65 rfl ?_
          refine J_iload_n dX7_readComplex_66 rfl ?_
          refine J_putI dX7_readComplex_67 flX7_118 rfl rfl (Or.inl rfl) ?_
          refine J_iconst dX7_readComplex_70 ?_
          refine J_zreturn dX7_readComplex_71 rfl (Or.inr rfl) ?_
          obtain ⟨r1, r2, r3, r4, r5⟩ := AfQ_ok hq49 h60
          have hm : min (tkW n tb (tkN n tb (tkN n tb s))) 5 = (tkW n tb (tkN n tb (tkN n tb s))) := by omega
          have hr : hdR n tb s P m R = .inr ((tkN n tb (tkN n tb (tkN n tb (tkN n tb (tkN n tb s))))), (tkW n tb (tkN n tb (tkN n tb s))), tkW n tb (tkN n tb (tkN n tb (tkN n tb (tkN n tb s)))), m, R) := by unfold hdR; rw [if_neg (by omega), if_pos q1, hm, if_pos r1]
          rw [hr]
          have hF := Fz_tr (Fz_tr (Fz_mo a2 (zs' := [13, 14, 15, 16, 17, 18]) (by decide) (by decide)) q5) r5
          refine ⟨Fz_upz (by decide) (Fz_upz (by decide) (Fz_mo hF (by decide) (by decide))), rfl, ⟨cur_upF (by decide) (cur_upF (by decide) r4), j_up_eq, fun _ => ru_nz (by decide) (by rw [j_up_eq, r2]), ?_, by omega, ?_⟩, by omega⟩
          · rw [j_up_nz (by decide), j_up_nz (by decide), hF.2 21 (by decide)]; exact hL.2.2.2.1
          · intro j hj; rw [j_up_ne (by decide), j_up_ne (by decide), hF.1 27 (by decide)]; exact hL.2.2.2.2.2 j hj
        ·
          refine J_iconst dX7_readComplex_63 ?_
          refine J_zreturn dX7_readComplex_64 rfl (Or.inl rfl) ?_
          obtain ⟨r1, r2, r3, r4⟩ := AfQ_no hq49 h60
          have hm : min (tkW n tb (tkN n tb (tkN n tb s))) 5 = (tkW n tb (tkN n tb (tkN n tb s))) := by omega
          have hr : hdR n tb s P m R = .inl (afF n tb (tkN n tb (tkN n tb (tkN n tb s))) 3, afP n tb (tkN n tb (tkN n tb (tkN n tb s))) 3) := by unfold hdR; rw [if_neg (by omega), if_pos q1, hm, if_neg (by rw [r1]; decide)]
          rw [hr]
          exact ⟨Fz_upz (by decide) (Fz_tr (Fz_tr (Fz_mo a2 (by decide) (by decide)) (Fz_mo q5 (by decide) (by decide))) (Fz_mo r4 (by decide) (by decide))), rfl, ru_nz (by decide) r2, ru_nz (by decide) r3⟩
    ·
      refine J_iconst dX7_readComplex_32 ?_
      refine J_zreturn dX7_readComplex_33 rfl (Or.inl rfl) ?_
      obtain ⟨q1, q2, q3, q4⟩ := AfQ_no hq23 h29
      have hr : hdR n tb s P m R = .inl (afF n tb (tkN n tb s) 2, afP n tb (tkN n tb s) 2) := by unfold hdR; rw [if_neg (by omega), if_neg (by rw [q1]; decide)]
      rw [hr]
      exact ⟨Fz_tr (Fz_mo a2 (by decide) (by decide)) (Fz_mo q4 (by decide) (by decide)), rfl, q2, q3⟩
  ·
    refine J_aload_n dX7_readComplex_7 rfl ?_
    refine J_iconst dX7_readComplex_8 ?_
    refine J_callViQ (cl := mX7_errs) [(0, 4)] [] dX7_readComplex_9 mlX7_114 cvX7_errs rfl rfl rfl rfl rfl (by decide) (Nat.le_of_ble_eq_true rfl) rfl (ev_X7_errs 4 (((tkP n tb s) : Nat) : Int) M hC.2.2.1) ?_
    refine J_zreturn dX7_readComplex_12 rfl (Or.inl rfl) ?_
    have hr : hdR n tb s P m R = .inl (4, tkP n tb s) := by unfold hdR; rw [if_pos (by omega)]
    rw [hr]
    exact ⟨Fz_upz (by decide) (Fz_upz (by decide) Fz_rf), rfl, by rw [j_up_nz (by decide), j_up_eq]; rfl, by rw [j_up_eq]⟩
set_option maxRecDepth 100000 in
set_option maxHeartbeats 4000000 in
theorem ev_X7_readFacet_L65 (n : Nat) (tb : Nat → Nat) (s P D m : Nat) (R : Nat → Nat) (M : jM) (hL : LnS n tb s P D m R M) (M1 : jM) (a1 : Cur n tb (tkN n tb s) M1) (a2 : Fz [13, 14, 15, 16] [] M M1) (e1 : ¬ m = 12) (e2 : ¬ P = 0) (e3 : tkK n tb (tkN n tb s) = 2) (hwk : wsK P D tb (tkP n tb (tkN n tb s)) (tkN n tb (tkN n tb s)) = true) : ∀ (fu : Nat) (k : Nat) (f1 : anyN k (fun k => R k == (fcS n tb (tkN n tb s))) = false) (f2 : k ≤ m) (hfu : m - k < fu), J none 6 mX7_readFacet 65 [(33, 0), (0, (((fcS n tb (tkN n tb s)) : Nat) : Int)), (0, ((k : Nat) : Int))] [] M1 (j_ret mX7_readFacet (fun z M' => LnQ n tb M (fcR n tb s P D m R) z M')) := by
  intro fu
  induction fu with
  | zero => intro k f1 f2 hfu; exact absurd hfu (Nat.not_lt_zero _)
  | succ fu ih =>
    intro k f1 f2 hfu
    have hC := hL.1
    have hM := hC.1
    have hn2 := hC.1.1
    have hsn := hC.2.1
    have hN := tkN_le (tb := tb) hC.2.1
    have hPN := tkN_ge n tb s
    have hK := tkK_le n tb s
    have hPm := hL.2.2.2.2.1
    refine J_iload_n dX7_readFacet_65 rfl ?_
    refine J_aload_n dX7_readFacet_66 rfl ?_
    refine J_getI dX7_readFacet_67 flX7_139 rfl rfl (J_top (v := ((m : Nat) : Int)) (by rw [a2.2 21 (by decide)]; exact hL.2.2.2.1) ?_)
    refine J_icmp_ge (tgt := 95) dX7_readFacet_70 rfl (j_R (by omega)) (j_R (by omega)) (fun h70 => ?_) (fun h70 => ?_)
    ·
      refine J_aload_n dX7_readFacet_95 rfl ?_
      refine J_getR dX7_readFacet_96 flX7_23 rfl rfl ?_
      refine J_aload_n dX7_readFacet_99 rfl ?_
      refine J_getI dX7_readFacet_100 flX7_139 rfl rfl (J_top (v := ((m : Nat) : Int)) (by rw [a2.2 21 (by decide)]; exact hL.2.2.2.1) ?_)
      refine J_iload_n dX7_readFacet_103 rfl ?_
      refine J_iast dX7_readFacet_104 rfl (by decide) (by omega) ?_
      refine J_aload_n dX7_readFacet_105 rfl ?_
      refine J_dup dX7_readFacet_106 rfl ?_
      refine J_getI dX7_readFacet_107 flX7_139 rfl rfl (J_top (v := ((m : Nat) : Int)) (ru_ne (by decide) (by rw [a2.2 21 (by decide)]; exact hL.2.2.2.1)) ?_)
      refine J_iconst dX7_readFacet_110 ?_
      refine J_iadd dX7_readFacet_111 (J_top (v := (((m + 1) : Nat) : Int)) (by omega) ?_)
      refine J_putI dX7_readFacet_112 flX7_139 rfl rfl (Or.inl rfl) ?_
      refine J_aload_n dX7_readFacet_115 rfl ?_
      refine J_callVv (cl := mX7_goesOn) [] [] dX7_readFacet_116 mlX7_111 cvX7_goesOn rfl rfl rfl rfl rfl (by decide) (Nat.le_of_ble_eq_true rfl) rfl (ev_X7_goesOn n tb (j_up (j_up M1 27 ((m : Nat) : Int) (((fcS n tb (tkN n tb s)) : Nat) : Int)) 23 21 (((m + 1) : Nat) : Int)) (rm_upF (by decide) (rm_upA (by decide) a1.1)) (tkN n tb (tkN n tb s)) (tkN_le a1.2.1) (ru_nz (by decide) (ru_ne (by decide) a1.2.2.2.1))) (fun M5 hq116 => ?_)
      obtain ⟨b1, b2⟩ := hq116
      refine J_iconst dX7_readFacet_119 ?_
      refine J_zreturn dX7_readFacet_120 rfl (Or.inr rfl) ?_
      have hk : k = m := by omega
      subst hk
      have hr : fcR n tb s P D k R = .inr ((tkN n tb (tkN n tb s)), P, D, k + 1, fun j => if j = k then (fcS n tb (tkN n tb s)) else R j) := by unfold fcR; rw [if_neg e1, if_neg e2, if_neg (by omega), if_neg (by rw [hwk]; decide), if_neg (by rw [f1]; decide)]
      rw [hr]
      refine ⟨Fz_tr (Fz_upz (by decide) (Fz_upk (by decide) (by decide) (Fz_mo a2 (by decide) (by decide)))) (Fz_mo b2 (by decide) (by decide)), rfl, ⟨b1, ?_, ?_, ?_, by omega, ?_⟩, by omega⟩
      · rw [b2.2 19 (by decide)]; exact ru_nz (by decide) (ru_ne (by decide) (by rw [a2.2 19 (by decide)]; exact hL.2.1))
      · intro q; rw [b2.2 20 (by decide)]; exact ru_nz (by decide) (ru_ne (by decide) (by rw [a2.2 20 (by decide)]; exact hL.2.2.1 q))
      · rw [b2.2 21 (by decide), j_up_eq]
      · intro j hj
        rw [b2.1 27 (by decide), j_up_ne (by decide)]
        by_cases e : j = k
        · dsimp only; rw [if_pos e, e, j_up_eq]; exact ⟨rfl, by have := fcS_lt hwk; have := Nat.pow_le_pow_right (n := 2) (by decide) hPm.1; omega⟩
        · dsimp only; rw [if_neg e, j_up_nz (by omega), a2.1 27 (by decide)]; exact hL.2.2.2.2.2 j (by omega)
    ·
      refine J_aload_n dX7_readFacet_73 rfl ?_
      refine J_getR dX7_readFacet_74 flX7_23 rfl rfl ?_
      refine J_iload_n dX7_readFacet_77 rfl ?_
      refine J_iald dX7_readFacet_78 rfl (by decide) (by omega) (J_top (v := (((R k) : Nat) : Int)) (by rw [a2.1 27 (by decide)]; exact (hL.2.2.2.2.2 k (by omega)).1) ?_)
      refine J_iload_n dX7_readFacet_79 rfl ?_
      refine J_icmp_ne (tgt := 89) dX7_readFacet_80 rfl (j_R (by have := (hL.2.2.2.2.2 k (by omega)).2; omega)) (j_R (by have := fcS_lt hwk; have := Nat.pow_le_pow_right (n := 2) (by decide) hPm.1; omega)) (fun h80 => ?_) (fun h80 => ?_)
      ·
        refine J_iinc (v := (((k + 1) : Nat) : Int)) (L' := [(33, 0), (0, (((fcS n tb (tkN n tb s)) : Nat) : Int)), (0, (((k + 1) : Nat) : Int))]) dX7_readFacet_89 rfl (by omega) (by decide) rfl rfl ?_
        refine J_goto (tgt := 65) dX7_readFacet_92 rfl ?_
        exact ih _ (by rw [anyN_f (by exact beq_eq_false_iff_ne.mpr (by omega)), f1]) (by omega) (by omega)
      ·
        refine J_aload_n dX7_readFacet_83 rfl ?_
        refine J_iconst dX7_readFacet_84 ?_
        refine J_callViQ (cl := mX7_errs) [(0, 4)] [] dX7_readFacet_85 mlX7_114 cvX7_errs rfl rfl rfl rfl rfl (by decide) (Nat.le_of_ble_eq_true rfl) rfl (ev_X7_errs 4 (((tkP n tb (tkN n tb s)) : Nat) : Int) M1 a1.2.2.1) ?_
        refine J_zreturn dX7_readFacet_88 rfl (Or.inl rfl) ?_
        have hr : fcR n tb s P D m R = .inl (4, tkP n tb (tkN n tb s)) := by unfold fcR; rw [if_neg e1, if_neg e2, if_neg (by omega), if_neg (by rw [hwk]; decide), if_pos (anyN_iff (n := m) (p := fun k => R k == fcS n tb (tkN n tb s)) |>.mpr ⟨k, by omega, beq_iff_eq.mpr (by omega)⟩)]
        rw [hr]
        exact ⟨Fz_upz (by decide) (Fz_upz (by decide) (Fz_mo a2 (by decide) (by decide))), rfl, by rw [j_up_nz (by decide), j_up_eq]; rfl, by rw [j_up_eq]⟩
set_option maxRecDepth 100000 in
set_option maxHeartbeats 4000000 in
theorem ev_X7_readFacet (n : Nat) (tb : Nat → Nat) (s P D m : Nat) (R : Nat → Nat) (M : jM) (hL : LnS n tb s P D m R M) : Ev 6 mX7_readFacet [(33, 0)] M (fun z M' => LnQ n tb M (fcR n tb s P D m R) z M') := by
  refine Ev_of (by decide +kernel) (Nat.le_of_ble_eq_true rfl) (L := [(33, 0), (9, 0), (9, 0)]) rfl ?_
  have hC := hL.1
  have hM := hC.1
  have hn2 := hC.1.1
  have hsn := hC.2.1
  have hN := tkN_le (tb := tb) hC.2.1
  have hPN := tkN_ge n tb s
  have hK := tkK_le n tb s
  have hPm := hL.2.2.2.2.1
  refine J_aload_n dX7_readFacet_0 rfl ?_
  refine J_getI dX7_readFacet_1 flX7_139 rfl rfl (J_top (v := ((m : Nat) : Int)) hL.2.2.2.1 ?_)
  refine J_bipush dX7_readFacet_4 (by decide) ?_
  refine J_icmp_ne (tgt := 15) dX7_readFacet_6 rfl (j_R (by omega)) (by decide) (fun h6 => ?_) (fun h6 => ?_)
  ·
    refine J_aload_n dX7_readFacet_15 rfl ?_
    refine J_getI dX7_readFacet_16 flX7_118 rfl rfl (J_top (v := ((P : Nat) : Int)) hL.2.1 ?_)
    refine J_if_ne (tgt := 29) dX7_readFacet_19 rfl (j_R (by omega)) (fun h19 => ?_) (fun h19 => ?_)
    ·
      refine J_aload_n dX7_readFacet_29 rfl ?_
      refine J_callVv (cl := mX7_goesOn) [] [] dX7_readFacet_30 mlX7_111 cvX7_goesOn rfl rfl rfl rfl rfl (by decide) (Nat.le_of_ble_eq_true rfl) rfl (ev_X7_goesOn n tb M hC.1 (tkN n tb s) (tkN_le hC.2.1) hC.2.2.2.1) (fun M1 hq30 => ?_)
      obtain ⟨a1, a2⟩ := hq30
      refine J_aload_n dX7_readFacet_33 rfl ?_
      refine J_getI dX7_readFacet_34 flX7_81 rfl rfl (J_top (v := (((tkK n tb (tkN n tb s)) : Nat) : Int)) a1.2.2.2.2.1 ?_)
      refine J_iconst dX7_readFacet_37 ?_
      refine J_icmp_eq (tgt := 47) dX7_readFacet_38 rfl (by have := tkK_le n tb (tkN n tb s); omega) (by decide) (fun h38 => ?_) (fun h38 => ?_)
      ·
        refine J_aload_n dX7_readFacet_47 rfl ?_
        refine J_callViQ (cl := mX7_pointsOf) [] [] dX7_readFacet_48 mlX7_142 cvX7_pointsOf rfl rfl rfl rfl rfl (by decide) (Nat.le_of_ble_eq_true rfl) rfl (ev_X7_pointsOf n tb (tkN n tb s) M1 a1 P D (by omega) (by omega) (by rw [a2.2 19 (by decide)]; exact hL.2.1) (by rw [a2.2 20 (by decide)]; exact hL.2.2.1 (by omega)) (by omega)) ?_
        refine J_istore_n (L' := [(33, 0), (0, (if wsK P D tb (tkP n tb (tkN n tb s)) (tkN n tb (tkN n tb s)) = true then (((fcS n tb (tkN n tb s)) : Nat) : Int) else -1)), (9, 0)]) dX7_readFacet_51 (by decide) rfl rfl ?_
        refine J_iload_n dX7_readFacet_52 rfl ?_
        refine J_iconst dX7_readFacet_53 ?_
        refine J_icmp_ne (tgt := 63) dX7_readFacet_54 rfl (by split; rename_i hwk; have := fcS_lt hwk; have := Nat.pow_le_pow_right (n := 2) (by decide) hPm.1; omega; decide) (by decide) (fun h54 => ?_) (fun h54 => ?_)
        ·
          have hwk : wsK P D tb (tkP n tb (tkN n tb s)) (tkN n tb (tkN n tb s)) = true := by
            rcases Bool.eq_false_or_eq_true (wsK P D tb (tkP n tb (tkN n tb s)) (tkN n tb (tkN n tb s))) with q | q
            · exact q
            · rw [q] at h54; exact absurd rfl h54
          refine J_eq (L' := [(33, 0), (0, (((fcS n tb (tkN n tb s)) : Nat) : Int)), (9, 0)]) (by rw [if_pos hwk]) rfl rfl ?_
          refine J_iconst dX7_readFacet_63 ?_
          refine J_istore_n (L' := [(33, 0), (0, (((fcS n tb (tkN n tb s)) : Nat) : Int)), (0, 0)]) dX7_readFacet_64 (by decide) rfl rfl ?_
          refine J_eq (L' := [(33, 0), (0, (((fcS n tb (tkN n tb s)) : Nat) : Int)), (0, ((0 : Nat) : Int))]) rfl rfl rfl ?_
          exact ev_X7_readFacet_L65 n tb s P D m R M hL M1 a1 a2 (by omega) (by omega) (by omega) hwk _ _ (by rfl) (by omega) (Nat.lt_succ_self _)
        ·
          refine J_aload_n dX7_readFacet_57 rfl ?_
          refine J_iconst dX7_readFacet_58 ?_
          refine J_callViQ (cl := mX7_errs) [(0, 3)] [] dX7_readFacet_59 mlX7_114 cvX7_errs rfl rfl rfl rfl rfl (by decide) (Nat.le_of_ble_eq_true rfl) rfl (ev_X7_errs 3 (((tkP n tb (tkN n tb s)) : Nat) : Int) M1 a1.2.2.1) ?_
          refine J_zreturn dX7_readFacet_62 rfl (Or.inl rfl) ?_
          have hwk : wsK P D tb (tkP n tb (tkN n tb s)) (tkN n tb (tkN n tb s)) = false := by
            rcases Bool.eq_false_or_eq_true (wsK P D tb (tkP n tb (tkN n tb s)) (tkN n tb (tkN n tb s))) with q | q
            · rw [if_pos q] at h54; omega
            · exact q
          have hr : fcR n tb s P D m R = .inl (3, tkP n tb (tkN n tb s)) := by unfold fcR; rw [if_neg (by omega), if_neg (by omega), if_neg (by omega), if_pos hwk]
          rw [hr]
          exact ⟨Fz_upz (by decide) (Fz_upz (by decide) (Fz_mo a2 (by decide) (by decide))), rfl, by rw [j_up_nz (by decide), j_up_eq]; rfl, by rw [j_up_eq]⟩
      ·
        refine J_aload_n dX7_readFacet_41 rfl ?_
        refine J_iconst dX7_readFacet_42 ?_
        refine J_callViQ (cl := mX7_errs) [(0, 1)] [] dX7_readFacet_43 mlX7_114 cvX7_errs rfl rfl rfl rfl rfl (by decide) (Nat.le_of_ble_eq_true rfl) rfl (ev_X7_errs 1 (((tkP n tb (tkN n tb s)) : Nat) : Int) M1 a1.2.2.1) ?_
        refine J_zreturn dX7_readFacet_46 rfl (Or.inl rfl) ?_
        have hr : fcR n tb s P D m R = .inl (1, tkP n tb (tkN n tb s)) := by unfold fcR; rw [if_neg (by omega), if_neg (by omega), if_pos (by omega)]
        rw [hr]
        exact ⟨Fz_upz (by decide) (Fz_upz (by decide) (Fz_mo a2 (by decide) (by decide))), rfl, by rw [j_up_nz (by decide), j_up_eq]; rfl, by rw [j_up_eq]⟩
    ·
      refine J_aload_n dX7_readFacet_22 rfl ?_
      refine J_bipush dX7_readFacet_23 (by decide) ?_
      refine J_callViQ (cl := mX7_errs) [(0, 6)] [] dX7_readFacet_25 mlX7_114 cvX7_errs rfl rfl rfl rfl rfl (by decide) (Nat.le_of_ble_eq_true rfl) rfl (ev_X7_errs 6 (((tkP n tb s) : Nat) : Int) M hC.2.2.1) ?_
      refine J_zreturn dX7_readFacet_28 rfl (Or.inl rfl) ?_
      have hr : fcR n tb s P D m R = .inl (6, tkP n tb s) := by unfold fcR; rw [if_neg (by omega), if_pos (by omega)]
      rw [hr]
      exact ⟨Fz_upz (by decide) (Fz_upz (by decide) Fz_rf), rfl, by rw [j_up_nz (by decide), j_up_eq]; rfl, by rw [j_up_eq]⟩
  ·
    refine J_aload_n dX7_readFacet_9 rfl ?_
    refine J_iconst dX7_readFacet_10 ?_
    refine J_callViQ (cl := mX7_errs) [(0, 5)] [] dX7_readFacet_11 mlX7_114 cvX7_errs rfl rfl rfl rfl rfl (by decide) (Nat.le_of_ble_eq_true rfl) rfl (ev_X7_errs 5 (((tkP n tb s) : Nat) : Int) M hC.2.2.1) ?_
    refine J_zreturn dX7_readFacet_14 rfl (Or.inl rfl) ?_
    have hr : fcR n tb s P D m R = .inl (5, tkP n tb s) := by unfold fcR; rw [if_pos (by omega)]
    rw [hr]
    exact ⟨Fz_upz (by decide) (Fz_upz (by decide) Fz_rf), rfl, by rw [j_up_nz (by decide), j_up_eq]; rfl, by rw [j_up_eq]⟩
