theorem j_u255 {v : Int} {p : Nat} (hp : p ≤ 24) : j_and (j_ushr v ((p : Nat) : Int)) 255 = j_and (j_shr v ((p : Nat) : Int)) 255 := by
  have e1 : Int32.ofInt (j_ushr v ((p : Nat) : Int)) = ((Int32.ofInt v).toUInt32 >>> ((Int32.ofInt ((p : Nat) : Int)).toUInt32 &&& Int32.toUInt32 31)).toInt32 := by
    unfold j_ushr
    exact Int32.ofInt_toInt _
  have e2 : Int32.ofInt (j_shr v ((p : Nat) : Int)) = Int32.ofInt v >>> (Int32.ofInt ((p : Nat) : Int) &&& 31) := by
    unfold j_shr
    exact Int32.ofInt_toInt _
  have h2 : (Int32.ofInt (p : Int)).toUInt32 = UInt32.ofNat p := by
    apply UInt32.toBitVec_inj.mp
    show (Int32.ofInt (p : Int)).toBitVec = (UInt32.ofNat p).toBitVec
    rw [j_bv]
    rfl
  have h3 : ((Int32.ofInt v).toUInt32 >>> (UInt32.ofNat p &&& Int32.toUInt32 31)).toInt32.toBitVec = (Int32.ofInt v).toBitVec >>> p := by
    show ((Int32.ofInt v).toUInt32 >>> (UInt32.ofNat p &&& Int32.toUInt32 31)).toBitVec = _
    apply BitVec.eq_of_toNat_eq
    show ((Int32.ofInt v).toUInt32 >>> (UInt32.ofNat p &&& Int32.toUInt32 31)).toNat = _
    rw [UInt32.toNat_shiftRight, UInt32.toNat_and, show (Int32.toUInt32 31).toNat = 2 ^ 5 - 1 by decide, Nat.and_two_pow_sub_one_eq_mod, UInt32.toNat_ofNat', BitVec.toNat_ushiftRight, show p % 2 ^ 32 % 2 ^ 5 % 32 = p by omega]
    rfl
  unfold j_and
  congr 1
  rw [e1, e2, h2]
  apply Int32.toBitVec_inj.mp
  rw [Int32.toBitVec_and, Int32.toBitVec_and, h3, j_31 (by omega), Int32.toBitVec_shiftRight, j_bv, j_sm (by omega)]
  apply BitVec.eq_of_getLsbD_eq
  intro i hi
  rw [BitVec.getLsbD_and, BitVec.getLsbD_and, BitVec.getLsbD_ushiftRight, BitVec.getLsbD_sshiftRight', BitVec.toNat_ofNat, Nat.mod_eq_of_lt (by omega), show (Int32.ofInt 255).toBitVec = BitVec.ofNat 32 (2 ^ 8 - 1) by decide, BitVec.getLsbD_ofNat, Nat.testBit_two_pow_sub_one]
  by_cases h8 : i < 8
  · rw [if_pos (by omega), decide_eq_false (by omega : ¬ 32 ≤ i)]
    simp
  · rw [decide_eq_false h8]
    simp
def LkR (P D m : Nat) (R : Nat → Nat) (M : jM) : Prop := M 1 5 = (P : Int) ∧ (0 < P → M 1 6 = (D : Int) ∧ 0 < D) ∧ M 1 7 = (m : Int) ∧ (P ≤ 7 ∧ D ≤ 5 ∧ m ≤ 12) ∧ (P = 0 → m = 0) ∧ ∀ j : Nat, j < m → M 3 (j : Int) = (R j : Int) ∧ R j < 128
theorem lk_tz {P D m : Nat} {R : Nat → Nat} {M M' : jM} {zs : List Int} {ks : List Nat} (hf : Tz zs ks M M') (hz : (5 : Int) ∉ zs ∧ (6 : Int) ∉ zs ∧ (7 : Int) ∉ zs) (hk : 3 ∉ ks) (h : LkR P D m R M) : LkR P D m R M' := by
  obtain ⟨h1, h2, h3, h4, h5, h6⟩ := h
  refine ⟨by rw [hf.2 5 hz.1]; exact h1, fun q => ⟨by rw [hf.2 6 hz.2.1]; exact (h2 q).1, (h2 q).2⟩, by rw [hf.2 7 hz.2.2]; exact h3, h4, h5, fun j hj => ?_⟩
  rw [hf.1 3 (by simp [hk])]
  exact h6 j hj
def LkQ (n : Nat) (tb : Nat → Nat) (M : jM) (r : LnR) (z : Int) (M' : jM) : Prop := Tz [2, 3, 5, 6, 7, 9, 10, 11, 12] [3] M M' ∧ match r with
  | .inl (f, p) => z = 0 ∧ M' 1 2 = (f : Int) ∧ M' 1 3 = (p : Int)
  | .inr (s, P, D, m, R) => z = 1 ∧ (TM n tb M' ∧ s ≤ n ∧ M' 1 11 = (s : Int)) ∧ LkR P D m R M' ∧ 0 < P ∧ M' 1 2 = M 1 2
theorem lkq_tz {n : Nat} {tb : Nat → Nat} {M M1 M' : jM} {r : LnR} {z : Int} (hf : Tz [2, 3, 5, 6, 7, 9, 10, 11, 12] [3] M M1) (h2 : M1 1 2 = M 1 2) (h : LkQ n tb M1 r z M') : LkQ n tb M r z M' := by
  obtain ⟨h1, h⟩ := h
  refine ⟨Tz_tr hf h1, ?_⟩
  match r, h with
  | .inl (f, p), h => exact h
  | .inr (s, P, D, m, R), h => exact ⟨h.1, h.2.1, h.2.2.1, h.2.2.2.1, h.2.2.2.2.trans h2⟩
theorem lkq01 {n : Nat} {tb : Nat → Nat} {M M' : jM} {r : LnR} {z : Int} (h : LkQ n tb M r z M') : z = 0 ∨ z = 1 := by
  obtain ⟨-, h⟩ := h
  match r, h with
  | .inl (f, p), h => exact Or.inl h.1
  | .inr (s, P, D, m, R), h => exact Or.inr h.1
theorem lkq_inl {n : Nat} {tb : Nat → Nat} {M M' : jM} {r : LnR} {z : Int} (h : LkQ n tb M r z M') (hz : z = 0) : ∃ f p : Nat, r = .inl (f, p) ∧ M' 1 2 = (f : Int) ∧ M' 1 3 = (p : Int) := by
  obtain ⟨-, h⟩ := h
  match r, h with
  | .inl (f, p), h => exact ⟨f, p, rfl, h.2⟩
  | .inr (s, P, D, m, R), h => have := h.1; omega
theorem lkq_inr {n : Nat} {tb : Nat → Nat} {M M' : jM} {r : LnR} {z : Int} (h : LkQ n tb M r z M') (hz : ¬ z = 0) : ∃ (s P D m : Nat) (R : Nat → Nat), r = .inr (s, P, D, m, R) ∧ (TM n tb M' ∧ s ≤ n ∧ M' 1 11 = (s : Int)) ∧ LkR P D m R M' ∧ 0 < P ∧ M' 1 2 = M 1 2 := by
  obtain ⟨-, h⟩ := h
  match r, h with
  | .inl (f, p), h => have := h.1; omega
  | .inr (s, P, D, m, R), h => exact ⟨s, P, D, m, R, rfl, h.2⟩
section AFS
variable {n : Nat} {tb : Nat → Nat} {s i hi : Nat}
theorem af_eq : afO n tb s i hi = (wdB n tb s i && mwB n tb (tkN n tb s) hi) := by
  unfold afO mwB
  rw [Bool.and_assoc]
theorem af_f1 (h : wdB n tb s i = false) : afF n tb s i = 1 ∧ afP n tb s i = tkP n tb s := by
  unfold afF afP
  rw [h]
  exact ⟨rfl, rfl⟩
theorem af_f2 (h : wdB n tb s i = true) : afF n tb s i = (if tkK n tb (tkN n tb s) = 3 then 2 else 1) ∧ afP n tb s i = tkP n tb (tkN n tb s) := by
  unfold afF afP
  rw [h, Bool.true_and]
  refine ⟨?_, rfl⟩
  by_cases e : tkK n tb (tkN n tb s) = 3
  · rw [if_pos (beq_iff_eq.mpr e), if_pos e]
  · rw [if_neg (by rw [beq_eq_false_iff_ne.mpr e]; decide), if_neg e]
end AFS
set_option maxRecDepth 100000 in
set_option maxHeartbeats 4000000 in
theorem ev_X5_readHead (n : Nat) (tb : Nat → Nat) (s P D m : Nat) (R : Nat → Nat) (M : jM) (hC : TC n tb s M) (hL : LkR P D m R M) : Ev 6 mX5_readHead [(11, 0)] M (fun z M' => LkQ n tb M (hdR n tb s P m R) z M') := by
  refine Ev_of (by decide +kernel) (Nat.le_of_ble_eq_true rfl) (L := [(11, 0)]) rfl ?_
  have hM := hC.1
  have hn2 := hC.1.1
  have hsn := hC.2.1
  have hPm := hL.2.2.2.1
  refine J_aload_n dX5_readHead_0 rfl ?_
  refine J_getI dX5_readHead_1 flX5_43 rfl rfl (J_top (v := ((P : Nat) : Int)) hL.1 ?_)
  refine J_if_le (tgt := 13) dX5_readHead_4 rfl (j_R (by omega)) (fun h4 => ?_) (fun h4 => ?_)
  ·
    refine J_aload_n dX5_readHead_13 rfl ?_
    refine J_ldcT (z := 2) (i := 2) (tx := "points") dX5_readHead_14 (by decide) rfl ?_
    refine J_callVi (cl := mX5_meets) [(4, 2)] [] dX5_readHead_16 mlX5_84 cvX5_meets rfl rfl rfl rfl rfl (by decide) (Nat.le_of_ble_eq_true rfl) rfl (ev_X5_meets n tb (tkN n tb s) M hC.1 (tkN_le hC.2.1) hC.2.2.2.1 2 (by decide)) (fun z16 Ma hq16 => ?_)
    obtain ⟨a1, a2, rfl, a4, a5⟩ := hq16
    refine J_ifb_eq (tgt := 31) dX5_readHead_19 rfl (fun h19 => ?_) (fun h19 => ?_)
    ·
      refine J_iconst dX5_readHead_31 ?_
      refine J_zreturn dX5_readHead_32 rfl (Or.inl rfl) ?_
      have hr : hdR n tb s P m R = .inl (1, tkP n tb (tkN n tb s)) := by unfold hdR; rw [if_neg (by omega : ¬ 0 < P), af_eq, h19, Bool.false_and, if_neg (by decide), (af_f1 h19).1, (af_f1 h19).2]
      rw [hr]
      exact ⟨Tz_mo a2 (by decide) (by decide), rfl, (a5 h19).1, (a5 h19).2⟩
    ·
      refine J_aload_n dX5_readHead_22 rfl ?_
      refine J_bipush dX5_readHead_23 (by decide) ?_
      refine J_callVi (cl := mX5_meetsWhole) [(0, 7)] [] dX5_readHead_25 mlX5_87 cvX5_meetsWhole rfl rfl rfl rfl rfl (by decide) (Nat.le_of_ble_eq_true rfl) rfl (ev_X5_meetsWhole n tb (tkN n tb (tkN n tb s)) Ma a1.1 (tkN_le a1.2.1) a1.2.2.2.1 7 (by decide)) (fun z25 Mb hq25 => ?_)
      obtain ⟨b1, b2, rfl, b4, b5⟩ := hq25
      refine J_ifb_ne (tgt := 33) dX5_readHead_28 rfl (fun h28 => ?_) (fun h28 => ?_)
      ·
        have hw7 : 1 ≤ tkW n tb (tkN n tb (tkN n tb s)) ∧ tkW n tb (tkN n tb (tkN n tb s)) ≤ 7 := by have q := h28; unfold mwB at q; rw [Bool.and_eq_true] at q; exact of_decide_eq_true q.2
        refine J_aload_n dX5_readHead_33 rfl ?_
        refine J_aload_n dX5_readHead_34 rfl ?_
        refine J_getI dX5_readHead_35 flX5_90 rfl rfl (J_top (v := (((tkW n tb (tkN n tb (tkN n tb s))) : Nat) : Int)) (b4 h28).2 ?_)
        refine J_putI dX5_readHead_38 flX5_43 rfl rfl (Or.inl rfl) ?_
        refine J_aload_n dX5_readHead_41 rfl ?_
        refine J_ldcT (z := 3) (i := 3) (tx := "size") dX5_readHead_42 (by decide) rfl ?_
        refine J_callVi (cl := mX5_meets) [(4, 3)] [] dX5_readHead_44 mlX5_84 cvX5_meets rfl rfl rfl rfl rfl (by decide) (Nat.le_of_ble_eq_true rfl) rfl (ev_X5_meets n tb (tkN n tb (tkN n tb (tkN n tb s))) (j_up Mb 1 5 (((tkW n tb (tkN n tb (tkN n tb s))) : Nat) : Int)) (tm_upF (by decide) b1.1) (tkN_le b1.2.1) (ru_nz (by decide) b1.2.2.2.1) 3 (by decide)) (fun z44 Mc hq44 => ?_)
        obtain ⟨c1, c2, rfl, c4, c5⟩ := hq44
        refine J_ifb_eq (tgt := 65) dX5_readHead_47 rfl (fun h47 => ?_) (fun h47 => ?_)
        ·
          refine J_iconst dX5_readHead_65 ?_
          refine J_zreturn dX5_readHead_66 rfl (Or.inl rfl) ?_
          have hr : hdR n tb s P m R = .inl (1, tkP n tb (tkN n tb (tkN n tb (tkN n tb s)))) := by unfold hdR; rw [if_neg (by omega : ¬ 0 < P), af_eq, h19, h28, Bool.true_and, if_pos rfl, af_eq, h47, Bool.false_and, if_neg (by decide), (af_f1 h47).1, (af_f1 h47).2]
          rw [hr]
          exact ⟨Tz_tr (Tz_upz (by decide) (Tz_tr (Tz_mo a2 (by decide) (by decide)) (Tz_mo b2 (by decide) (by decide)))) (Tz_mo c2 (by decide) (by decide)), rfl, (c5 h47).1, (c5 h47).2⟩
        ·
          refine J_aload_n dX5_readHead_50 rfl ?_
          refine J_iconst dX5_readHead_51 ?_
          refine J_aload_n dX5_readHead_52 rfl ?_
          refine J_getI dX5_readHead_53 flX5_43 rfl rfl (J_top (v := (((tkW n tb (tkN n tb (tkN n tb s))) : Nat) : Int)) (by rw [c2.2 5 (by decide)]; exact j_up_eq) ?_)
          refine J_mmin dX5_readHead_56 mlX5_22 (by decide) (Nat.le_of_ble_eq_true rfl) (by decide) (j_R (by omega)) (z := (((min (tkW n tb (tkN n tb (tkN n tb s))) 5) : Nat) : Int)) (by split <;> omega) ?_
          refine J_callVi (cl := mX5_meetsWhole) [(0, (((min (tkW n tb (tkN n tb (tkN n tb s))) 5) : Nat) : Int))] [] dX5_readHead_59 mlX5_87 cvX5_meetsWhole rfl rfl rfl rfl rfl (by decide) (Nat.le_of_ble_eq_true rfl) rfl (ev_X5_meetsWhole n tb (tkN n tb (tkN n tb (tkN n tb (tkN n tb s)))) Mc c1.1 (tkN_le c1.2.1) c1.2.2.2.1 (min (tkW n tb (tkN n tb (tkN n tb s))) 5) (by omega)) (fun z59 Md hq59 => ?_)
          obtain ⟨d1, d2, rfl, d4, d5⟩ := hq59
          refine J_ifb_ne (tgt := 67) dX5_readHead_62 rfl (fun h62 => ?_) (fun h62 => ?_)
          ·
            have hw5 : 1 ≤ tkW n tb (tkN n tb (tkN n tb (tkN n tb (tkN n tb s)))) ∧ tkW n tb (tkN n tb (tkN n tb (tkN n tb (tkN n tb s)))) ≤ min (tkW n tb (tkN n tb (tkN n tb s))) 5 := by have q := h62; unfold mwB at q; rw [Bool.and_eq_true] at q; exact of_decide_eq_true q.2
            refine J_aload_n dX5_readHead_67 rfl ?_
            refine J_aload_n dX5_readHead_68 rfl ?_
            refine J_getI dX5_readHead_69 flX5_90 rfl rfl (J_top (v := (((tkW n tb (tkN n tb (tkN n tb (tkN n tb (tkN n tb s))))) : Nat) : Int)) (d4 h62).2 ?_)
            refine J_putI dX5_readHead_72 flX5_46 rfl rfl (Or.inl rfl) ?_
            refine J_iconst dX5_readHead_75 ?_
            refine J_zreturn dX5_readHead_76 rfl (Or.inr rfl) ?_
            have hm0 : m = 0 := hL.2.2.2.2.1 (by omega)
            have hr : hdR n tb s P m R = .inr ((tkN n tb (tkN n tb (tkN n tb (tkN n tb (tkN n tb s))))), tkW n tb (tkN n tb (tkN n tb s)), tkW n tb (tkN n tb (tkN n tb (tkN n tb (tkN n tb s)))), m, R) := by unfold hdR; rw [if_neg (by omega : ¬ 0 < P), af_eq, h19, h28, Bool.true_and, if_pos rfl, af_eq, h47, h62, Bool.true_and, if_pos rfl]
            rw [hr]
            refine ⟨Tz_upz (by decide) (Tz_tr (Tz_tr (Tz_upz (by decide) (Tz_tr (Tz_mo a2 (by decide) (by decide)) (Tz_mo b2 (by decide) (by decide)))) (Tz_mo c2 (by decide) (by decide))) (Tz_mo d2 (by decide) (by decide))), rfl, ⟨tm_upF (by decide) d1.1, tkN_le d1.2.1, ru_nz (by decide) d1.2.2.2.1⟩, ⟨?_, fun _ => ⟨j_up_eq, by omega⟩, ?_, by omega, fun q => by omega, fun j hj => by omega⟩, by omega, ?_⟩
            · rw [j_up_nz (by decide), d2.2 5 (by decide), c2.2 5 (by decide), j_up_eq]
            · rw [j_up_nz (by decide), d2.2 7 (by decide), c2.2 7 (by decide), j_up_nz (by decide), b2.2 7 (by decide), a2.2 7 (by decide)]; exact hL.2.2.1
            · rw [j_up_nz (by decide), (d4 h62).1, c4 h47, j_up_nz (by decide), (b4 h28).1, a4 h19]
          ·
            refine J_iconst dX5_readHead_65 ?_
            refine J_zreturn dX5_readHead_66 rfl (Or.inl rfl) ?_
            have hr : hdR n tb s P m R = .inl ((if tkK n tb (tkN n tb (tkN n tb (tkN n tb (tkN n tb s)))) = 3 then 2 else 1), tkP n tb (tkN n tb (tkN n tb (tkN n tb (tkN n tb s))))) := by unfold hdR; rw [if_neg (by omega : ¬ 0 < P), af_eq, h19, h28, Bool.true_and, if_pos rfl, af_eq, h62, Bool.and_false, if_neg (by decide), (af_f2 h47).1, (af_f2 h47).2]
            rw [hr]
            exact ⟨Tz_tr (Tz_tr (Tz_upz (by decide) (Tz_tr (Tz_mo a2 (by decide) (by decide)) (Tz_mo b2 (by decide) (by decide)))) (Tz_mo c2 (by decide) (by decide))) (Tz_mo d2 (by decide) (by decide)), rfl, (d5 h62).1, (d5 h62).2⟩
      ·
        refine J_iconst dX5_readHead_31 ?_
        refine J_zreturn dX5_readHead_32 rfl (Or.inl rfl) ?_
        have hr : hdR n tb s P m R = .inl ((if tkK n tb (tkN n tb (tkN n tb s)) = 3 then 2 else 1), tkP n tb (tkN n tb (tkN n tb s))) := by unfold hdR; rw [if_neg (by omega : ¬ 0 < P), af_eq, h28, Bool.and_false, if_neg (by decide), (af_f2 h19).1, (af_f2 h19).2]
        rw [hr]
        exact ⟨Tz_tr (Tz_mo a2 (by decide) (by decide)) (Tz_mo b2 (by decide) (by decide)), rfl, (b5 h28).1, (b5 h28).2⟩
  ·
    refine J_aload_n dX5_readHead_7 rfl ?_
    refine J_iconst dX5_readHead_8 ?_
    refine J_callViQ (cl := mX5_failed) [(0, 4)] [] dX5_readHead_9 mlX5_62 cvX5_failed rfl rfl rfl rfl rfl (by decide) (Nat.le_of_ble_eq_true rfl) rfl (ev_X5_failed 4 (((tkP n tb s) : Nat) : Int) M hC.2.2.1) ?_
    refine J_zreturn dX5_readHead_12 rfl (Or.inl rfl) ?_
    have hr : hdR n tb s P m R = .inl (4, tkP n tb s) := by unfold hdR; rw [if_pos (by omega)]
    rw [hr]
    exact ⟨Tz_upz (by decide) (Tz_upz (by decide) Tz_rf), rfl, by rw [j_up_nz (by decide), j_up_eq]; rfl, by rw [j_up_eq]⟩
set_option maxRecDepth 100000 in
set_option maxHeartbeats 4000000 in
theorem ev_X5_readFacet_L71 (n : Nat) (tb : Nat → Nat) (s P D m : Nat) (R : Nat → Nat) (M : jM) (hC : TC n tb s M) (hL : LkR P D m R M) (Ma : jM) (a1 : TC n tb (tkN n tb s) Ma) (a2 : Tz [9, 10, 11] [] M Ma) (e1 : ¬ P = 0) (e2 : m < 12) (e3 : tkK n tb (tkN n tb s) = 2) (hwk : wsK P D tb (tkP n tb (tkN n tb s)) (tkN n tb (tkN n tb s)) = true) : ∀ (fu : Nat) (k : Nat) (f1 : anyN k (fun k => R k == (fcS n tb (tkN n tb s))) = false) (f2 : k ≤ m) (hfu : m - k < fu), J none 4 mX5_readFacet 71 [(11, 0), (0, (((fcS n tb (tkN n tb s)) : Nat) : Int)), (0, ((k : Nat) : Int))] [] Ma (j_ret mX5_readFacet (fun z M' => LkQ n tb M (fcR n tb s P D m R) z M')) := by
  intro fu
  induction fu with
  | zero => intro k f1 f2 hfu; exact absurd hfu (Nat.not_lt_zero _)
  | succ fu ih =>
    intro k f1 f2 hfu
    have hM := hC.1
    have hn2 := hC.1.1
    have hsn := hC.2.1
    have hPm := hL.2.2.2.1
    have hLa : LkR P D m R Ma := lk_tz a2 (by decide) (by decide) hL
    refine J_iload_n dX5_readFacet_71 rfl ?_
    refine J_aload_n dX5_readFacet_72 rfl ?_
    refine J_getI dX5_readFacet_73 flX5_49 rfl rfl (J_top (v := ((m : Nat) : Int)) hLa.2.2.1 ?_)
    refine J_icmp_ge (tgt := 101) dX5_readFacet_76 rfl (j_R (by omega)) (j_R (by omega)) (fun h76 => ?_) (fun h76 => ?_)
    ·
      refine J_aload_n dX5_readFacet_101 rfl ?_
      refine J_getR dX5_readFacet_102 flX5_15 rfl rfl ?_
      refine J_aload_n dX5_readFacet_105 rfl ?_
      refine J_getI dX5_readFacet_106 flX5_49 rfl rfl (J_top (v := ((m : Nat) : Int)) hLa.2.2.1 ?_)
      refine J_iload_n dX5_readFacet_109 rfl ?_
      refine J_iast dX5_readFacet_110 rfl (by decide) (by omega) ?_
      refine J_aload_n dX5_readFacet_111 rfl ?_
      refine J_dup dX5_readFacet_112 rfl ?_
      refine J_getI dX5_readFacet_113 flX5_49 rfl rfl (J_top (v := ((m : Nat) : Int)) (ru_ne (by decide) hLa.2.2.1) ?_)
      refine J_iconst dX5_readFacet_116 ?_
      refine J_iadd dX5_readFacet_117 (J_top (v := (((m + 1) : Nat) : Int)) (by omega) ?_)
      refine J_putI dX5_readFacet_118 flX5_49 rfl rfl (Or.inl rfl) ?_
      refine J_iconst dX5_readFacet_121 ?_
      refine J_zreturn dX5_readFacet_122 rfl (Or.inr rfl) ?_
      have hk : k = m := by omega
      subst hk
      have hr : fcR n tb s P D k R = .inr ((tkN n tb (tkN n tb s)), P, D, k + 1, fun j => if j = k then (fcS n tb (tkN n tb s)) else R j) := by unfold fcR; rw [if_neg (by omega), if_neg (by omega), if_neg (fun q => q e3), if_neg (by rw [hwk]; decide), if_neg (by rw [f1]; decide)]
      rw [hr]
      refine ⟨Tz_upz (by decide) (Tz_upk (by decide) (by decide) (Tz_mo a2 (by decide) (by decide))), rfl, ⟨tm_upF (by decide) (tm_upA (by decide) a1.1), tkN_le a1.2.1, ru_nz (by decide) (ru_ne (by decide) a1.2.2.2.1)⟩, ⟨ru_nz (by decide) (ru_ne (by decide) hLa.1), fun q => ⟨ru_nz (by decide) (ru_ne (by decide) (hLa.2.1 q).1), (hLa.2.1 q).2⟩, j_up_eq, by omega, fun q => by omega, ?_⟩, by omega, ?_⟩
      · intro j hj
        rw [j_up_ne (by decide)]
        by_cases e : j = k
        · dsimp only; rw [if_pos e, e, j_up_eq]; exact ⟨rfl, by have := fcS_lt hwk; have := Nat.pow_le_pow_right (n := 2) (by decide) hPm.1; omega⟩
        · dsimp only; rw [if_neg e, j_up_nz (by omega)]; exact hLa.2.2.2.2.2 j (by omega)
      · rw [j_up_nz (by decide), j_up_ne (by decide), a2.2 2 (by decide)]
    ·
      refine J_aload_n dX5_readFacet_79 rfl ?_
      refine J_getR dX5_readFacet_80 flX5_15 rfl rfl ?_
      refine J_iload_n dX5_readFacet_83 rfl ?_
      refine J_iald dX5_readFacet_84 rfl (by decide) (by omega) (J_top (v := (((R k) : Nat) : Int)) (hLa.2.2.2.2.2 k (by omega)).1 ?_)
      refine J_iload_n dX5_readFacet_85 rfl ?_
      refine J_icmp_ne (tgt := 95) dX5_readFacet_86 rfl (j_R (by have := (hLa.2.2.2.2.2 k (by omega)).2; omega)) (j_R (by have := fcS_lt hwk; have := Nat.pow_le_pow_right (n := 2) (by decide) hPm.1; omega)) (fun h86 => ?_) (fun h86 => ?_)
      ·
        refine J_iinc (v := (((k + 1) : Nat) : Int)) (L' := [(11, 0), (0, (((fcS n tb (tkN n tb s)) : Nat) : Int)), (0, (((k + 1) : Nat) : Int))]) dX5_readFacet_95 rfl (by omega) (by decide) rfl rfl ?_
        refine J_goto (tgt := 71) dX5_readFacet_98 rfl ?_
        exact ih _ (by rw [anyN_f (by exact beq_eq_false_iff_ne.mpr (by omega)), f1]) (by omega) (by omega)
      ·
        refine J_aload_n dX5_readFacet_89 rfl ?_
        refine J_iconst dX5_readFacet_90 ?_
        refine J_callViQ (cl := mX5_failed) [(0, 4)] [] dX5_readFacet_91 mlX5_62 cvX5_failed rfl rfl rfl rfl rfl (by decide) (Nat.le_of_ble_eq_true rfl) rfl (ev_X5_failed 4 (((tkP n tb (tkN n tb s)) : Nat) : Int) Ma a1.2.2.1) ?_
        refine J_zreturn dX5_readFacet_94 rfl (Or.inl rfl) ?_
        have hr : fcR n tb s P D m R = .inl (4, tkP n tb (tkN n tb s)) := by unfold fcR; rw [if_neg (by omega), if_neg (by omega), if_neg (fun q => q e3), if_neg (by rw [hwk]; decide), if_pos (anyN_iff (n := m) (p := fun k => R k == (fcS n tb (tkN n tb s))) |>.mpr ⟨k, by omega, beq_iff_eq.mpr (by omega)⟩)]
        rw [hr]
        exact ⟨Tz_upz (by decide) (Tz_upz (by decide) (Tz_mo a2 (by decide) (by decide))), rfl, by rw [j_up_nz (by decide), j_up_eq]; rfl, by rw [j_up_eq]⟩
set_option maxRecDepth 100000 in
set_option maxHeartbeats 4000000 in
theorem ev_X5_readFacet (n : Nat) (tb : Nat → Nat) (s P D m : Nat) (R : Nat → Nat) (M : jM) (hC : TC n tb s M) (hL : LkR P D m R M) : Ev 4 mX5_readFacet [(11, 0)] M (fun z M' => LkQ n tb M (fcR n tb s P D m R) z M') := by
  refine Ev_of (by decide +kernel) (Nat.le_of_ble_eq_true rfl) (L := [(11, 0), (9, 0), (9, 0)]) rfl ?_
  have hM := hC.1
  have hn2 := hC.1.1
  have hsn := hC.2.1
  have hPm := hL.2.2.2.1
  refine J_aload_n dX5_readFacet_0 rfl ?_
  refine J_getI dX5_readFacet_1 flX5_43 rfl rfl (J_top (v := ((P : Nat) : Int)) hL.1 ?_)
  refine J_if_ne (tgt := 14) dX5_readFacet_4 rfl (j_R (by omega)) (fun h4 => ?_) (fun h4 => ?_)
  ·
    refine J_aload_n dX5_readFacet_14 rfl ?_
    refine J_getI dX5_readFacet_15 flX5_49 rfl rfl (J_top (v := ((m : Nat) : Int)) hL.2.2.1 ?_)
    refine J_bipush dX5_readFacet_18 (by decide) ?_
    refine J_icmp_lt (tgt := 29) dX5_readFacet_20 rfl (j_R (by omega)) (by decide) (fun h20 => ?_) (fun h20 => ?_)
    ·
      refine J_aload_n dX5_readFacet_29 rfl ?_
      refine J_callVv (cl := mX5_step) [] [] dX5_readFacet_30 mlX5_56 cvX5_step rfl rfl rfl rfl rfl (by decide) (Nat.le_of_ble_eq_true rfl) rfl (ev_X5_step n tb M hC.1 (tkN n tb s) (tkN_le hC.2.1) hC.2.2.2.1) (fun Ma hq30 => ?_)
      obtain ⟨a1, a2⟩ := hq30
      have hLa : LkR P D m R Ma := lk_tz a2 (by decide) (by decide) hL
      refine J_aload_n dX5_readFacet_33 rfl ?_
      refine J_getI dX5_readFacet_34 flX5_59 rfl rfl (J_top (v := (((kn (tkK n tb (tkN n tb s))) : Nat) : Int)) a1.2.2.2.2 ?_)
      refine J_iconst dX5_readFacet_37 ?_
      refine J_icmp_eq (tgt := 47) dX5_readFacet_38 rfl (j_R (by have := kn_le (tkK n tb (tkN n tb s)); omega)) (by decide) (fun h38 => ?_) (fun h38 => ?_)
      ·
        have e3 : tkK n tb (tkN n tb s) = 2 := kn1.mp (by omega)
        refine J_aload_n dX5_readFacet_47 rfl ?_
        refine J_callViQ (cl := mX5_wordSet) [] [] dX5_readFacet_48 mlX5_94 cvX5_wordSet rfl rfl rfl rfl rfl (by decide) (Nat.le_of_ble_eq_true rfl) rfl (ev_X5_wordSet n tb (tkN n tb s) Ma a1 P hPm.1 hLa.1 e3) ?_
        refine J_istore_n (L' := [(11, 0), (0, (((if wsO P tb (tkP n tb (tkN n tb s)) (tkN n tb (tkN n tb s) - tkP n tb (tkN n tb s)) = true then (fcS n tb (tkN n tb s)) else 0) : Nat) : Int)), (9, 0)]) dX5_readFacet_51 (by decide) rfl rfl ?_
        have hs7 : (if wsO P tb (tkP n tb (tkN n tb s)) (tkN n tb (tkN n tb s) - tkP n tb (tkN n tb s)) = true then (fcS n tb (tkN n tb s)) else 0) < 128 := by split; rename_i q; have := wsB_lt _ q; have := Nat.pow_le_pow_right (n := 2) (by decide) hPm.1; unfold fcS; omega; decide
        refine J_iload_n dX5_readFacet_52 rfl ?_
        refine J_callSiQ (cl := mJ6_bitCount_0f7a4) [(0, (((if wsO P tb (tkP n tb (tkN n tb s)) (tkN n tb (tkN n tb s) - tkP n tb (tkN n tb s)) = true then (fcS n tb (tkN n tb s)) else 0) : Nat) : Int))] [] dX5_readFacet_53 mlX5_98 csJ6_bitCount_0f7a4 rfl rfl (by decide) (Nat.le_of_ble_eq_true rfl) rfl (ev_bitCount (if wsO P tb (tkP n tb (tkN n tb s)) (tkN n tb (tkN n tb s) - tkP n tb (tkN n tb s)) = true then (fcS n tb (tkN n tb s)) else 0) (by omega) Ma) ?_
        refine J_aload_n dX5_readFacet_56 rfl ?_
        refine J_getI dX5_readFacet_57 flX5_46 rfl rfl (J_top (v := ((D : Nat) : Int)) (hLa.2.1 (by omega)).1 ?_)
        refine J_icmp_eq (tgt := 69) dX5_readFacet_60 rfl (j_R (popc_lt (by omega))) (j_R (by omega)) (fun h60 => ?_) (fun h60 => ?_)
        ·
          have hD0 := (hL.2.1 (by omega)).2
          have hwo : wsO P tb (tkP n tb (tkN n tb s)) (tkN n tb (tkN n tb s) - tkP n tb (tkN n tb s)) = true := by
            cases e : wsO P tb (tkP n tb (tkN n tb s)) (tkN n tb (tkN n tb s) - tkP n tb (tkN n tb s))
            · rw [e, if_neg (by decide), popc_zero] at h60; omega
            · rfl
          have hwk : wsK P D tb (tkP n tb (tkN n tb s)) (tkN n tb (tkN n tb s)) = true := by unfold wsK; rw [hwo, Bool.true_and, beq_iff_eq]; rw [if_pos hwo] at h60; unfold fcS at h60; omega
          refine J_eq (L' := [(11, 0), (0, (((fcS n tb (tkN n tb s)) : Nat) : Int)), (9, 0)]) (by rw [if_pos hwo]) rfl rfl ?_
          refine J_iconst dX5_readFacet_69 ?_
          refine J_istore_n (L' := [(11, 0), (0, (((fcS n tb (tkN n tb s)) : Nat) : Int)), (0, 0)]) dX5_readFacet_70 (by decide) rfl rfl ?_
          refine J_eq (L' := [(11, 0), (0, (((fcS n tb (tkN n tb s)) : Nat) : Int)), (0, ((0 : Nat) : Int))]) rfl rfl rfl ?_
          exact ev_X5_readFacet_L71 n tb s P D m R M hC hL Ma a1 a2 (by omega) (by omega) e3 hwk _ _ (by rfl) (by omega) (Nat.lt_succ_self _)
        ·
          refine J_aload_n dX5_readFacet_63 rfl ?_
          refine J_iconst dX5_readFacet_64 ?_
          refine J_callViQ (cl := mX5_failed) [(0, 3)] [] dX5_readFacet_65 mlX5_62 cvX5_failed rfl rfl rfl rfl rfl (by decide) (Nat.le_of_ble_eq_true rfl) rfl (ev_X5_failed 3 (((tkP n tb (tkN n tb s)) : Nat) : Int) Ma a1.2.2.1) ?_
          refine J_zreturn dX5_readFacet_68 rfl (Or.inl rfl) ?_
          have hwk : wsK P D tb (tkP n tb (tkN n tb s)) (tkN n tb (tkN n tb s)) = false := by
            unfold wsK
            cases e : wsO P tb (tkP n tb (tkN n tb s)) (tkN n tb (tkN n tb s) - tkP n tb (tkN n tb s))
            · rfl
            · rw [if_pos e] at h60
              rw [Bool.true_and, beq_eq_false_iff_ne]
              unfold fcS at h60
              omega
          have hr : fcR n tb s P D m R = .inl (3, tkP n tb (tkN n tb s)) := by unfold fcR; rw [if_neg (by omega), if_neg (by omega), if_neg (fun q => q e3), if_pos hwk]
          rw [hr]
          exact ⟨Tz_upz (by decide) (Tz_upz (by decide) (Tz_mo a2 (by decide) (by decide))), rfl, by rw [j_up_nz (by decide), j_up_eq]; rfl, by rw [j_up_eq]⟩
      ·
        refine J_aload_n dX5_readFacet_41 rfl ?_
        refine J_iconst dX5_readFacet_42 ?_
        refine J_callViQ (cl := mX5_failed) [(0, 1)] [] dX5_readFacet_43 mlX5_62 cvX5_failed rfl rfl rfl rfl rfl (by decide) (Nat.le_of_ble_eq_true rfl) rfl (ev_X5_failed 1 (((tkP n tb (tkN n tb s)) : Nat) : Int) Ma a1.2.2.1) ?_
        refine J_zreturn dX5_readFacet_46 rfl (Or.inl rfl) ?_
        have hr : fcR n tb s P D m R = .inl (1, tkP n tb (tkN n tb s)) := by unfold fcR; rw [if_neg (by omega), if_neg (by omega), if_pos (fun q => absurd (kn1.mpr q) (by omega))]
        rw [hr]
        exact ⟨Tz_upz (by decide) (Tz_upz (by decide) (Tz_mo a2 (by decide) (by decide))), rfl, by rw [j_up_nz (by decide), j_up_eq]; rfl, by rw [j_up_eq]⟩
    ·
      refine J_aload_n dX5_readFacet_23 rfl ?_
      refine J_iconst dX5_readFacet_24 ?_
      refine J_callViQ (cl := mX5_failed) [(0, 5)] [] dX5_readFacet_25 mlX5_62 cvX5_failed rfl rfl rfl rfl rfl (by decide) (Nat.le_of_ble_eq_true rfl) rfl (ev_X5_failed 5 (((tkP n tb s) : Nat) : Int) M hC.2.2.1) ?_
      refine J_zreturn dX5_readFacet_28 rfl (Or.inl rfl) ?_
      have hr : fcR n tb s P D m R = .inl (5, tkP n tb s) := by unfold fcR; rw [if_pos (by omega)]
      rw [hr]
      exact ⟨Tz_upz (by decide) (Tz_upz (by decide) Tz_rf), rfl, by rw [j_up_nz (by decide), j_up_eq]; rfl, by rw [j_up_eq]⟩
  ·
    refine J_aload_n dX5_readFacet_7 rfl ?_
    refine J_bipush dX5_readFacet_8 (by decide) ?_
    refine J_callViQ (cl := mX5_failed) [(0, 6)] [] dX5_readFacet_10 mlX5_62 cvX5_failed rfl rfl rfl rfl rfl (by decide) (Nat.le_of_ble_eq_true rfl) rfl (ev_X5_failed 6 (((tkP n tb s) : Nat) : Int) M hC.2.2.1) ?_
    refine J_zreturn dX5_readFacet_13 rfl (Or.inl rfl) ?_
    have hr : fcR n tb s P D m R = .inl (6, tkP n tb s) := by have := hL.2.2.2.2.1 (by omega); unfold fcR; rw [if_neg (by omega), if_pos (by omega)]
    rw [hr]
    exact ⟨Tz_upz (by decide) (Tz_upz (by decide) Tz_rf), rfl, by rw [j_up_nz (by decide), j_up_eq]; rfl, by rw [j_up_eq]⟩
set_option maxRecDepth 100000 in
set_option maxHeartbeats 4000000 in
theorem ev_X5_readLine (n : Nat) (tb : Nat → Nat) (s P D m : Nat) (R : Nat → Nat) (M : jM) (hM : TM n tb M) (hsn : s ≤ n) (hs : M 1 11 = (s : Int)) (hL : LkR P D m R M) : Ev 7 mX5_readLine [(11, 0)] M (fun z M' => LkQ n tb M (lnR n tb s P D m R) z M') := by
  refine Ev_of (by decide +kernel) (Nat.le_of_ble_eq_true rfl) (L := [(11, 0)]) rfl ?_
  refine J_aload_n dX5_readLine_0 rfl ?_
  refine J_callVv (cl := mX5_step) [] [] dX5_readLine_1 mlX5_56 cvX5_step rfl rfl rfl rfl rfl (by decide) (Nat.le_of_ble_eq_true rfl) rfl (ev_X5_step n tb M hM s hsn hs) (fun Ma hq1 => ?_)
  obtain ⟨a1, a2⟩ := hq1
  refine J_aload_n dX5_readLine_4 rfl ?_
  refine J_ldcT (z := 0) (i := 0) (tx := "complex") dX5_readLine_5 (by decide) rfl ?_
  refine J_callViQ (cl := mX5_wordIs) [(4, 0)] [] dX5_readLine_7 mlX5_71 cvX5_wordIs rfl rfl rfl rfl rfl (by decide) (Nat.le_of_ble_eq_true rfl) rfl (ev_X5_wordIs n tb s Ma a1 0 (by omega)) ?_
  refine J_ifb_eq (tgt := 18) dX5_readLine_10 rfl (fun h10 => ?_) (fun h10 => ?_)
  ·
    refine J_aload_n dX5_readLine_18 rfl ?_
    refine J_ldcT (z := 1) (i := 1) (tx := "facet") dX5_readLine_19 (by decide) rfl ?_
    refine J_callViQ (cl := mX5_wordIs) [(4, 1)] [] dX5_readLine_21 mlX5_71 cvX5_wordIs rfl rfl rfl rfl rfl (by decide) (Nat.le_of_ble_eq_true rfl) rfl (ev_X5_wordIs n tb s Ma a1 1 (by omega)) ?_
    refine J_ifb_eq (tgt := 32) dX5_readLine_24 rfl (fun h24 => ?_) (fun h24 => ?_)
    ·
      refine J_aload_n dX5_readLine_32 rfl ?_
      refine J_iconst dX5_readLine_33 ?_
      refine J_callViQ (cl := mX5_failed) [(0, 1)] [] dX5_readLine_34 mlX5_62 cvX5_failed rfl rfl rfl rfl rfl (by decide) (Nat.le_of_ble_eq_true rfl) rfl (ev_X5_failed 1 (((tkP n tb s) : Nat) : Int) Ma a1.2.2.1) ?_
      refine J_zreturn dX5_readLine_37 rfl (Or.inl rfl) ?_
      unfold lnR; rw [if_neg (by rw [h10]; decide), if_neg (by rw [h24]; decide)]
      exact ⟨Tz_upz (by decide) (Tz_upz (by decide) (Tz_mo a2 (by decide) (by decide))), rfl, by rw [j_up_nz (by decide), j_up_eq]; rfl, by rw [j_up_eq]⟩
    ·
      refine J_aload_n dX5_readLine_27 rfl ?_
      refine J_callVi (cl := mX5_readFacet) [] [] dX5_readLine_28 mlX5_80 cvX5_readFacet rfl rfl rfl rfl rfl (by decide) (Nat.le_of_ble_eq_true rfl) rfl (ev_X5_readFacet n tb s P D m R Ma a1 (lk_tz a2 (by decide) (by decide) hL)) (fun z28 Mb hq28 => ?_)
      have hq28 := hq28
      refine J_zreturn dX5_readLine_31 rfl (lkq01 hq28) ?_
      unfold lnR; rw [if_neg (by rw [h10]; decide), if_pos h24]; exact lkq_tz (Tz_mo a2 (by decide) (by decide)) (a2.2 2 (by decide)) hq28
  ·
    refine J_aload_n dX5_readLine_13 rfl ?_
    refine J_callVi (cl := mX5_readHead) [] [] dX5_readLine_14 mlX5_75 cvX5_readHead rfl rfl rfl rfl rfl (by decide) (Nat.le_of_ble_eq_true rfl) rfl (ev_X5_readHead n tb s P D m R Ma a1 (lk_tz a2 (by decide) (by decide) hL)) (fun z14 Mb hq14 => ?_)
    have hq14 := hq14
    refine J_zreturn dX5_readLine_17 rfl (lkq01 hq14) ?_
    unfold lnR; rw [if_pos h10]; exact lkq_tz (Tz_mo a2 (by decide) (by decide)) (a2.2 2 (by decide)) hq14
