theorem lnR_gt {n : Nat} {tb : Nat → Nat} {s P D m s' P' D' m' : Nat} {R R' : Nat → Nat} (hs : s ≤ n) (h : lnR n tb s P D m R = .inr (s', P', D', m', R')) : s ≤ s' ∧ s' ≤ n := lnR_ge hs h
def PkQ (M : jM) (r : LnR) (z : Int) (M' : jM) : Prop := Tz [1, 2, 3, 5, 6, 7, 8, 9, 10, 11, 12] [3] M M' ∧ M' 1 1 = 0 ∧ match r with
  | .inl (f, p) => z = 0 ∧ M' 1 2 = (f : Int) ∧ M' 1 3 = (p : Int)
  | .inr (_, P, D, m, R) => z = 1 ∧ M' 1 2 = 0 ∧ M' 1 5 = (P : Int) ∧ M' 1 6 = (D : Int) ∧ M' 1 7 = (m : Int) ∧ (P ≤ 7 ∧ D ≤ 5 ∧ m ≤ 12) ∧ ∀ j : Nat, j < m → M' 3 (j : Int) = (R j : Int) ∧ R j < 128
theorem pkq01 {M M' : jM} {r : LnR} {z : Int} (h : PkQ M r z M') : z = 0 ∨ z = 1 := by
  obtain ⟨-, -, h⟩ := h
  match r, h with
  | .inl (f, p), h => exact Or.inl h.1
  | .inr (s, P, D, m, R), h => exact Or.inr h.1
def TkS (tl : Nat) (tb : Nat → Nat) (M : jM) : Prop := M 1 1 = (tl : Int) ∧ ∀ i : Nat, i < tl → M 2 (i : Int) = (tb i : Int) ∧ tb i < 256
set_option maxRecDepth 100000 in
set_option maxHeartbeats 4000000 in
theorem ev_X5_readAll_L53 (n tl : Nat) (tb : Nat → Nat) (hnt : n ≤ tl) (htl : tl ≤ 200) (M : jM) (hT : TkS tl tb M)  : ∀ (fu : Nat) (M2 : jM) (l s P D m : Nat) (R : Nat → Nat) (g1 : Tz [2, 3, 5, 6, 7, 9, 10, 11, 12] [3] (j_up (j_up (j_up (j_up (j_up (j_up (j_up (j_up M 1 8 ((n : Nat) : Int)) 1 11 0) 1 1 0) 1 2 0) 1 3 (-1)) 1 5 0) 1 6 0) 1 7 0) M2) (g2 : TM n tb M2 ∧ s ≤ n ∧ M2 1 11 = (s : Int)) (g3 : M2 1 1 = 0) (g4 : M2 1 2 = 0) (hL : LkR P D m R M2) (g5 : l ≤ s ∧ l ≤ 201) (g6 : psR n tb 202 0 0 0 0 (fun _ => 0) = psR n tb (202 - l) s P D m R) (hfu : 201 - l < fu), J none 8 mX5_readAll 53 [(11, 0), (0, ((n : Nat) : Int)), (0, ((l : Nat) : Int))] [] M2 (j_ret mX5_readAll (fun z M' => PkQ M (psR n tb 202 0 0 0 0 (fun _ => 0)) z M')) := by
  intro fu
  induction fu with
  | zero => intro M2 l s P D m R g1 g2 g3 g4 hL g5 g6 hfu; exact absurd hfu (Nat.not_lt_zero _)
  | succ fu ih =>
    intro M2 l s P D m R g1 g2 g3 g4 hL g5 g6 hfu
    refine J_iload_n dX5_readAll_53 rfl ?_
    refine J_sipush dX5_readAll_54 (by decide) ?_
    refine J_icmp_gt (tgt := 122) dX5_readAll_57 rfl (j_R (by omega)) (by decide) (fun h57 => ?_) (fun h57 => ?_)
    · have := g2.1.1; omega
    ·
      refine J_aload_n dX5_readAll_60 rfl ?_
      refine J_callVi (cl := mX5_readLine) [] [] dX5_readAll_61 mlX5_52 cvX5_readLine rfl rfl rfl rfl rfl (by decide) (Nat.le_of_ble_eq_true rfl) rfl (ev_X5_readLine n tb s P D m R M2 g2.1 g2.2.1 g2.2.2 hL) (fun z61 Mb hq61 => ?_)
      have hq61 := hq61
      refine J_if_ne (tgt := 69) dX5_readAll_64 rfl (by rcases lkq01 hq61 with q | q <;> omega) (fun h64 => ?_) (fun h64 => ?_)
      ·
        obtain ⟨s', P', D', m', R', r1, r2, r3, r4, r5⟩ := lkq_inr hq61 h64
        have hps : psR n tb (202 - l) s P D m R = psB n tb (psR n tb (201 - l)) s' P' D' m' R' := by rw [show 202 - l = (201 - l) + 1 by omega, psR, r1]
        refine J_aload_n dX5_readAll_69 rfl ?_
        refine J_callVv (cl := mX5_step) [] [] dX5_readAll_70 mlX5_56 cvX5_step rfl rfl rfl rfl rfl (by decide) (Nat.le_of_ble_eq_true rfl) rfl (ev_X5_step n tb Mb r2.1 s' r2.2.1 r2.2.2) (fun Mc hq70 => ?_)
        obtain ⟨c1, c2⟩ := hq70
        have o1 : Mc 1 1 = 0 := by rw [c2.2 1 (by decide), hq61.1.2 1 (by decide)]; exact g3
        have o2 : Mc 1 2 = 0 := by rw [c2.2 2 (by decide), r5]; exact g4
        have oz : Tz [2, 3, 5, 6, 7, 9, 10, 11, 12] [3] (j_up (j_up (j_up (j_up (j_up (j_up (j_up (j_up M 1 8 ((n : Nat) : Int)) 1 11 0) 1 1 0) 1 2 0) 1 3 (-1)) 1 5 0) 1 6 0) 1 7 0) Mc := Tz_tr (Tz_tr g1 hq61.1) (Tz_mo c2 (by decide) (by decide))
        refine J_aload_n dX5_readAll_73 rfl ?_
        refine J_getI dX5_readAll_74 flX5_59 rfl rfl (J_top (v := (((kn (tkK n tb s')) : Nat) : Int)) c1.2.2.2.2 ?_)
        refine J_if_ne (tgt := 102) dX5_readAll_77 rfl (j_R (by have := kn_le (tkK n tb s'); omega)) (fun h77 => ?_) (fun h77 => ?_)
        ·
          refine J_aload_n dX5_readAll_102 rfl ?_
          refine J_getI dX5_readAll_103 flX5_59 rfl rfl (J_top (v := (((kn (tkK n tb s')) : Nat) : Int)) c1.2.2.2.2 ?_)
          refine J_iconst dX5_readAll_106 ?_
          refine J_icmp_eq (tgt := 116) dX5_readAll_107 rfl (j_R (by have := kn_le (tkK n tb s'); omega)) (by decide) (fun h107 => ?_) (fun h107 => ?_)
          ·
            have hkk : tkK n tb s' = 59 := kn3.mp (by omega)
            refine J_iinc (v := (((l + 1) : Nat) : Int)) (L' := [(11, 0), (0, ((n : Nat) : Int)), (0, (((l + 1) : Nat) : Int))]) dX5_readAll_116 rfl (by omega) (by decide) rfl rfl ?_
            refine J_goto (tgt := 53) dX5_readAll_119 rfl ?_
            exact ih _ _ (tkN n tb s') P' D' m' R' (by exact oz) (by exact ⟨c1.1, tkN_le c1.2.1, c1.2.2.2.1⟩) (by exact o1) (by exact o2) (by exact lk_tz c2 (by decide) (by decide) r3) (by have h8 := tkN_gt (n := n) (tb := tb) (s := s') (by omega); have h9 := tkP_ge n tb s'; have h7 := lnR_ge g2.2.1 r1; omega) (by rw [g6, hps]; unfold psB; rw [if_pos hkk, show 202 - (l + 1) = 201 - l by omega]) (by omega)
          ·
            refine J_aload_n dX5_readAll_110 rfl ?_
            refine J_iconst dX5_readAll_111 ?_
            refine J_callViQ (cl := mX5_failed) [(0, 1)] [] dX5_readAll_112 mlX5_62 cvX5_failed rfl rfl rfl rfl rfl (by decide) (Nat.le_of_ble_eq_true rfl) rfl (ev_X5_failed 1 (((tkP n tb s') : Nat) : Int) Mc c1.2.2.1) ?_
            refine J_zreturn dX5_readAll_115 rfl (Or.inl rfl) ?_
            have h1 : ¬ tkK n tb s' = 59 := fun q => absurd (kn3.mpr q) (by omega)
            have h0 : ¬ tkK n tb s' = 0 := fun q => absurd (kn0.mpr q) (by omega)
            have hr : psR n tb 202 0 0 0 0 (fun _ => 0) = .inl (1, tkP n tb s') := by rw [g6, hps]; unfold psB; rw [if_neg h1, if_pos h0]
            rw [hr]
            exact ⟨Tz_tr (Tz_upz (by decide) (Tz_upz (by decide) (Tz_upz (by decide) (Tz_upz (by decide) (Tz_upz (by decide) (Tz_upz (by decide) (Tz_upz (by decide) (Tz_upz (by decide) Tz_rf)))))))) (Tz_mo (Tz_upz (by decide) (Tz_upz (by decide) oz)) (by decide) (by decide)), ru_nz (by decide) (ru_nz (by decide) o1), rfl, by rw [j_up_nz (by decide), j_up_eq]; rfl, by rw [j_up_eq]⟩
        ·
          refine J_aload_n dX5_readAll_80 rfl ?_
          refine J_getI dX5_readAll_81 flX5_49 rfl rfl (J_top (v := ((m' : Nat) : Int)) (by rw [c2.2 7 (by decide)]; exact r3.2.2.1) ?_)
          refine J_if_gt (tgt := 96) dX5_readAll_84 rfl (j_R (by have := r3.2.2.2.1; omega)) (fun h84 => ?_) (fun h84 => ?_)
          ·
            refine J_iconst dX5_readAll_96 ?_
            refine J_goto (tgt := 101) dX5_readAll_97 rfl ?_
            refine J_zreturn dX5_readAll_101 rfl (Or.inr rfl) ?_
            have hkk : tkK n tb s' = 0 := kn0.mp (by omega)
            have hr : psR n tb 202 0 0 0 0 (fun _ => 0) = .inr (s', P', D', m', R') := by rw [g6, hps]; unfold psB; rw [if_neg (by omega), if_neg (fun q => q hkk), if_pos (by omega)]
            rw [hr]
            exact ⟨Tz_tr (Tz_upz (by decide) (Tz_upz (by decide) (Tz_upz (by decide) (Tz_upz (by decide) (Tz_upz (by decide) (Tz_upz (by decide) (Tz_upz (by decide) (Tz_upz (by decide) Tz_rf)))))))) (Tz_mo oz (by decide) (by decide)), o1, rfl, o2, by rw [c2.2 5 (by decide)]; exact r3.1, by rw [c2.2 6 (by decide)]; exact (r3.2.1 r4).1, by rw [c2.2 7 (by decide)]; exact r3.2.2.1, r3.2.2.2.1, fun j hj => by rw [c2.1 3 (by decide)]; exact r3.2.2.2.2.2 j hj⟩
          ·
            refine J_aload_n dX5_readAll_87 rfl ?_
            refine J_bipush dX5_readAll_88 (by decide) ?_
            refine J_callViQ (cl := mX5_failed) [(0, 6)] [] dX5_readAll_90 mlX5_62 cvX5_failed rfl rfl rfl rfl rfl (by decide) (Nat.le_of_ble_eq_true rfl) rfl (ev_X5_failed 6 (((tkP n tb s') : Nat) : Int) Mc c1.2.2.1) ?_
            refine J_if_eq (tgt := 100) dX5_readAll_93 rfl (by decide) (fun h93 => ?_) (fun h93 => ?_)
            ·
              refine J_iconst dX5_readAll_100 ?_
              refine J_zreturn dX5_readAll_101 rfl (Or.inl rfl) ?_
              have hkk : tkK n tb s' = 0 := kn0.mp (by omega)
              have hr : psR n tb 202 0 0 0 0 (fun _ => 0) = .inl (6, tkP n tb s') := by rw [g6, hps]; unfold psB; rw [if_neg (by omega), if_neg (fun q => q hkk), if_neg (by omega)]
              rw [hr]
              exact ⟨Tz_tr (Tz_upz (by decide) (Tz_upz (by decide) (Tz_upz (by decide) (Tz_upz (by decide) (Tz_upz (by decide) (Tz_upz (by decide) (Tz_upz (by decide) (Tz_upz (by decide) Tz_rf)))))))) (Tz_mo (Tz_upz (by decide) (Tz_upz (by decide) oz)) (by decide) (by decide)), ru_nz (by decide) (ru_nz (by decide) o1), rfl, by rw [j_up_nz (by decide), j_up_eq]; rfl, by rw [j_up_eq]⟩
            · exact absurd h93 (by decide)
      ·
        refine J_iconst dX5_readAll_67 ?_
        refine J_zreturn dX5_readAll_68 rfl (Or.inl rfl) ?_
        obtain ⟨f, p, r1, r2, r3⟩ := lkq_inl hq61 h64
        have hr : psR n tb 202 0 0 0 0 (fun _ => 0) = .inl (f, p) := by rw [g6, show 202 - l = (201 - l) + 1 by omega, psR, r1]
        rw [hr]
        exact ⟨Tz_tr (Tz_upz (by decide) (Tz_upz (by decide) (Tz_upz (by decide) (Tz_upz (by decide) (Tz_upz (by decide) (Tz_upz (by decide) (Tz_upz (by decide) (Tz_upz (by decide) Tz_rf)))))))) (Tz_mo (Tz_tr g1 hq61.1) (by decide) (by decide)), by rw [hq61.1.2 1 (by decide)]; exact g3, rfl, r2, r3⟩
set_option maxRecDepth 100000 in
set_option maxHeartbeats 4000000 in
theorem ev_X5_readAll (n tl : Nat) (tb : Nat → Nat) (hnt : n ≤ tl) (htl : tl ≤ 200) (M : jM) (hT : TkS tl tb M) : Ev 8 mX5_readAll [(11, 0), (0, ((n : Nat) : Int))] M (fun z M' => PkQ M (psR n tb 202 0 0 0 0 (fun _ => 0)) z M') := by
  refine Ev_of (by decide +kernel) (Nat.le_of_ble_eq_true rfl) (L := [(11, 0), (0, ((n : Nat) : Int)), (9, 0)]) rfl ?_
  refine J_aload_n dX5_readAll_0 rfl ?_
  refine J_iconst dX5_readAll_1 ?_
  refine J_iload_n dX5_readAll_2 rfl ?_
  refine J_aload_n dX5_readAll_3 rfl ?_
  refine J_getI dX5_readAll_4 flX5_18 rfl rfl (J_top (v := ((tl : Nat) : Int)) hT.1 ?_)
  refine J_mmin dX5_readAll_7 mlX5_22 (by decide) (Nat.le_of_ble_eq_true rfl) (j_R (by omega)) (j_R (by omega)) (z := ((n : Nat) : Int)) (by split <;> omega) ?_
  refine J_mmax dX5_readAll_10 mlX5_28 (by decide) (Nat.le_of_ble_eq_true rfl) (by decide) (j_R (by omega)) (z := ((n : Nat) : Int)) (by split <;> omega) ?_
  refine J_putI dX5_readAll_13 flX5_31 rfl rfl (Or.inl rfl) ?_
  refine J_aload_n dX5_readAll_16 rfl ?_
  refine J_iconst dX5_readAll_17 ?_
  refine J_putI dX5_readAll_18 flX5_34 rfl rfl (Or.inl rfl) ?_
  refine J_aload_n dX5_readAll_21 rfl ?_
  refine J_iconst dX5_readAll_22 ?_
  refine J_putI dX5_readAll_23 flX5_18 rfl rfl (Or.inl rfl) ?_
  refine J_aload_n dX5_readAll_26 rfl ?_
  refine J_iconst dX5_readAll_27 ?_
  refine J_putI dX5_readAll_28 flX5_37 rfl rfl (Or.inl rfl) ?_
  refine J_aload_n dX5_readAll_31 rfl ?_
  refine J_iconst dX5_readAll_32 ?_
  refine J_putI dX5_readAll_33 flX5_40 rfl rfl (Or.inl rfl) ?_
  refine J_aload_n dX5_readAll_36 rfl ?_
  refine J_iconst dX5_readAll_37 ?_
  refine J_putI dX5_readAll_38 flX5_43 rfl rfl (Or.inl rfl) ?_
  refine J_aload_n dX5_readAll_41 rfl ?_
  refine J_iconst dX5_readAll_42 ?_
  refine J_putI dX5_readAll_43 flX5_46 rfl rfl (Or.inl rfl) ?_
  refine J_aload_n dX5_readAll_46 rfl ?_
  refine J_iconst dX5_readAll_47 ?_
  refine J_putI dX5_readAll_48 flX5_49 rfl rfl (Or.inl rfl) ?_
  refine J_iconst dX5_readAll_51 ?_
  refine J_istore_n (L' := [(11, 0), (0, ((n : Nat) : Int)), (0, 0)]) dX5_readAll_52 (by decide) rfl rfl ?_
  refine J_eq (L' := [(11, 0), (0, ((n : Nat) : Int)), (0, ((0 : Nat) : Int))]) rfl rfl rfl ?_
  exact ev_X5_readAll_L53 n tl tb hnt htl M hT  _ _ _ 0 0 0 0 (fun _ => 0) (by exact Tz_rf) (by exact ⟨⟨by omega, (ru_nz (by decide) (ru_nz (by decide) (ru_nz (by decide) (ru_nz (by decide) (ru_nz (by decide) (ru_nz (by decide) (ru_nz (by decide) j_up_eq))))))), fun i hi => ⟨(ru_ne (by decide) (ru_ne (by decide) (ru_ne (by decide) (ru_ne (by decide) (ru_ne (by decide) (ru_ne (by decide) (ru_ne (by decide) (ru_ne (by decide) (hT.2 i (by omega)).1)))))))), (hT.2 i (by omega)).2⟩⟩, Nat.zero_le _, (ru_nz (by decide) (ru_nz (by decide) (ru_nz (by decide) (ru_nz (by decide) (ru_nz (by decide) (ru_nz (by decide) j_up_eq))))))⟩) (by exact (ru_nz (by decide) (ru_nz (by decide) (ru_nz (by decide) (ru_nz (by decide) (ru_nz (by decide) j_up_eq)))))) (by exact (ru_nz (by decide) (ru_nz (by decide) (ru_nz (by decide) (ru_nz (by decide) j_up_eq))))) (by exact ⟨(ru_nz (by decide) (ru_nz (by decide) j_up_eq)), fun q => absurd q (by decide), j_up_eq, by decide, fun _ => rfl, fun j hj => absurd hj (by omega)⟩) (by omega) (by rfl) (Nat.lt_succ_self _)
set_option maxRecDepth 100000 in
set_option maxHeartbeats 4000000 in
theorem ev_X5_hasRoom (tl : Nat) (htl : tl ≤ 200) (M : jM) (h1 : M 1 1 = (tl : Int)) : Ev 0 mX5_hasRoom [(11, 0)] M (fun z M' => z = ((Bool.toNat (decide (tl ≤ 180)) : Nat) : Int) ∧ M' = M) := by
  refine Ev_of (by decide +kernel) (Nat.le_of_ble_eq_true rfl) (L := [(11, 0)]) rfl ?_
  refine J_aload_n dX5_hasRoom_0 rfl ?_
  refine J_getI dX5_hasRoom_1 flX5_18 rfl rfl (J_top (v := ((tl : Nat) : Int)) h1 ?_)
  refine J_bipush dX5_hasRoom_4 (by decide) ?_
  refine J_iadd dX5_hasRoom_6 (J_top (v := (((tl + 20) : Nat) : Int)) (by omega) ?_)
  refine J_sipush dX5_hasRoom_7 (by decide) ?_
  refine J_icmp_gt (tgt := 17) dX5_hasRoom_10 rfl (j_R (by omega)) (by decide) (fun h10 => ?_) (fun h10 => ?_)
  ·
    refine J_iconst dX5_hasRoom_17 ?_
    refine J_zreturn dX5_hasRoom_18 rfl (Or.inl rfl) ?_
    exact ⟨df (by omega), rfl⟩
  ·
    refine J_iconst dX5_hasRoom_13 ?_
    refine J_goto (tgt := 18) dX5_hasRoom_14 rfl ?_
    refine J_zreturn dX5_hasRoom_18 rfl (Or.inr rfl) ?_
    exact ⟨dt (by omega), rfl⟩
set_option maxRecDepth 100000 in
set_option maxHeartbeats 4000000 in
theorem ev_X5_takeFour_L3 (tl : Nat) (tb : Nat → Nat) (hl : tl ≤ 196) (M : jM) (hT : TkS tl tb M) (v : Int) (hv : -2147483648 ≤ v ∧ v < 2147483648)  : ∀ (fu : Nat) (M1 : jM) (k : Nat) (f1 : Tz [1] [2] M M1) (f2 : M1 1 1 = ((tl + k : Nat) : Int)) (f3 : ∀ i : Nat, i < tl + k → M1 2 (i : Int) = (apd tb tl v i : Int) ∧ apd tb tl v i < 256) (f4 : k ≤ 4) (hfu : 4 - k < fu), J none 0 mX5_takeFour 3 [(11, 0), (0, v), (0, (24 - 8 * ((k : Nat) : Int)))] [] M1 (j_ret mX5_takeFour (fun z M' => TkS (tl + 4) (apd tb tl v) M' ∧ Tz [1] [2] M M')) := by
  intro fu
  induction fu with
  | zero => intro M1 k f1 f2 f3 f4 hfu; exact absurd hfu (Nat.not_lt_zero _)
  | succ fu ih =>
    intro M1 k f1 f2 f3 f4 hfu
    refine J_iload_n dX5_takeFour_3 rfl ?_
    refine J_if_lt (tgt := 49) dX5_takeFour_4 rfl (by omega) (fun h4 => ?_) (fun h4 => ?_)
    ·
      refine J_return dX5_takeFour_49 rfl ?_
      have : k = 4 := by omega
      subst this
      exact ⟨⟨f2, f3⟩, f1⟩
    ·
      refine J_aload_n dX5_takeFour_7 rfl ?_
      refine J_getI dX5_takeFour_8 flX5_18 rfl rfl (J_top (v := (((tl + k) : Nat) : Int)) f2 ?_)
      refine J_sipush dX5_takeFour_11 (by decide) ?_
      refine J_icmp_ge (tgt := 43) dX5_takeFour_14 rfl (j_R (by omega)) (by decide) (fun h14 => ?_) (fun h14 => ?_)
      · omega
      ·
        refine J_aload_n dX5_takeFour_17 rfl ?_
        refine J_getR dX5_takeFour_18 flX5_11 rfl rfl ?_
        refine J_aload_n dX5_takeFour_21 rfl ?_
        refine J_getI dX5_takeFour_22 flX5_18 rfl rfl (J_top (v := (((tl + k) : Nat) : Int)) f2 ?_)
        refine J_iload_n dX5_takeFour_25 rfl ?_
        refine J_iload_n dX5_takeFour_26 rfl (J_top (v := (((24 - 8 * k) : Nat) : Int)) (by omega) ?_)
        refine J_iushr dX5_takeFour_27 ?_
        refine J_sipush dX5_takeFour_28 (by decide) ?_
        refine J_iand dX5_takeFour_31 (J_top (v := (((byt v k) : Nat) : Int)) ((j_u255 (by omega)).trans (byt_eq v k)) ?_)
        refine J_iast dX5_takeFour_32 rfl (by decide) (by omega) ?_
        refine J_aload_n dX5_takeFour_33 rfl ?_
        refine J_dup dX5_takeFour_34 rfl ?_
        refine J_getI dX5_takeFour_35 flX5_18 rfl rfl (J_top (v := (((tl + k) : Nat) : Int)) (ru_ne (by decide) f2) ?_)
        refine J_iconst dX5_takeFour_38 ?_
        refine J_iadd dX5_takeFour_39 (J_top (v := ((((tl + k) + 1) : Nat) : Int)) (by omega) ?_)
        refine J_putI dX5_takeFour_40 flX5_18 rfl rfl (Or.inl rfl) ?_
        refine J_iinc (v := (24 - 8 * (((k + 1) : Nat) : Int))) (L' := [(11, 0), (0, v), (0, (24 - 8 * (((k + 1) : Nat) : Int)))]) dX5_takeFour_43 rfl (by omega) (by decide) rfl rfl ?_
        refine J_goto (tgt := 3) dX5_takeFour_46 rfl ?_
        exact ih _ _ (by exact Tz_upz (by decide) (Tz_upk (by decide) (by decide) f1)) (by exact j_up_eq) (by intro i hi; rw [j_up_ne (by decide)]; by_cases e : i = tl + k; rw [e, j_up_eq]; unfold apd; rw [if_neg (by omega), show tl + k - tl = k by omega]; exact ⟨rfl, byt_lt v k⟩; rw [j_up_nz (by omega)]; exact f3 i (by omega)) (by omega) (by omega)
set_option maxRecDepth 100000 in
set_option maxHeartbeats 4000000 in
theorem ev_X5_takeFour (tl : Nat) (tb : Nat → Nat) (hl : tl ≤ 196) (M : jM) (hT : TkS tl tb M) (v : Int) (hv : -2147483648 ≤ v ∧ v < 2147483648) : Ev 0 mX5_takeFour [(11, 0), (0, v)] M (fun z M' => TkS (tl + 4) (apd tb tl v) M' ∧ Tz [1] [2] M M') := by
  refine Ev_of (by decide +kernel) (Nat.le_of_ble_eq_true rfl) (L := [(11, 0), (0, v), (9, 0)]) rfl ?_
  refine J_bipush dX5_takeFour_0 (by decide) (J_top (v := (24 - 8 * ((0 : Nat) : Int))) (by decide) ?_)
  refine J_istore_n (L' := [(11, 0), (0, v), (0, (24 - 8 * ((0 : Nat) : Int)))]) dX5_takeFour_2 (by decide) rfl rfl ?_
  exact ev_X5_takeFour_L3 tl tb hl M hT v hv  _ _ 0 (by exact Tz_rf) (by exact hT.1) (by intro i hi; unfold apd; rw [if_pos (by omega)]; exact hT.2 i (by omega)) (by omega) (Nat.lt_succ_self _)
