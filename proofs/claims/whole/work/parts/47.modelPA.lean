theorem andFF (a : Int) : 0 ≤ j_and a 255 ∧ j_and a 255 < 256 := by
  have h : (Int32.ofInt a &&& Int32.ofInt 255).toBitVec = BitVec.ofNat 32 ((Int32.ofInt a).toBitVec.toNat &&& 255) := by
    rw [Int32.toBitVec_and]
    apply BitVec.eq_of_toNat_eq
    rw [BitVec.toNat_and, BitVec.toNat_ofNat]
    have h1 : (Int32.ofInt a).toBitVec.toNat &&& 255 ≤ 255 := Nat.and_le_right
    rw [Nat.mod_eq_of_lt (by omega)]
    rfl
  have h1 : (Int32.ofInt a).toBitVec.toNat &&& 255 ≤ 255 := Nat.and_le_right
  have h2 := j_toI h (by omega)
  unfold j_and
  rw [h2]
  omega
def byt (v : Int) (k : Nat) : Nat := (j_and (j_shr v ((24 - 8 * k : Nat) : Int)) 255).toNat
theorem byt_eq (v : Int) (k : Nat) : j_and (j_shr v ((24 - 8 * k : Nat) : Int)) 255 = ((byt v k : Nat) : Int) := by
  have := andFF (j_shr v ((24 - 8 * k : Nat) : Int))
  unfold byt
  omega
theorem byt_lt (v : Int) (k : Nat) : byt v k < 256 := by
  have := andFF (j_shr v ((24 - 8 * k : Nat) : Int))
  unfold byt
  omega
def TpS (tl : Nat) (tb : Nat → Nat) (M : jM) : Prop := M 23 5 = (tl : Int) ∧ ∀ i : Nat, i < tl → M 24 (i : Int) = (tb i : Int) ∧ tb i < 256
def apd (tb : Nat → Nat) (tl : Nat) (v : Int) : Nat → Nat := fun i => if i < tl then tb i else byt v (i - tl)
def fdB (tb : Nat → Nat) (tl : Nat) (a b c d e : Int) : Nat → Nat := apd (apd (apd (apd (apd tb tl a) (tl + 4) b) (tl + 4 + 4) c) (tl + 4 + 4 + 4) d) (tl + 4 + 4 + 4 + 4) e
theorem ms_tp {P D n : Nat} {F O : Nat → Nat} {tl tl' : Nat} {tb tb' : Nat → Nat} {fa tr wh : Int} {M M' : jM} (hf : Fz [5] [24] M M') (ht : TpS tl' tb' M') (hl : tl' ≤ 200) (h : MS P D n F O tl tb fa tr wh M) : MS P D n F O tl' tb' fa tr wh M' := by
  obtain ⟨h1, h2, h3, h4, h5, h6, h7⟩ := h
  exact ⟨mr_fz hf (by decide) (by decide) h1, by rw [hf.2 1 (by decide)]; exact h2, by rw [hf.2 2 (by decide)]; exact h3, fun q => by rw [hf.2 3 (by decide)]; exact h4 q, ht.1, hl, ht.2⟩
def A_feed (tl : Nat) : Int := if tl ≤ 180 then ((tl + 4 + 4 + 4 + 4 + 4 : Nat) : Int) else -1
set_option maxRecDepth 100000 in
set_option maxHeartbeats 4000000 in
theorem ev_X7_laysWord_L2 (tl : Nat) (tb : Nat → Nat) (hl : tl ≤ 196) (M : jM) (hT : TpS tl tb M) (v : Int) (hv : -2147483648 ≤ v ∧ v < 2147483648)  : ∀ (fu : Nat) (M1 : jM) (k : Nat) (f1 : Ch [24] M M1) (f2 : ∀ i : Nat, i < tl + k → M1 24 (i : Int) = (apd tb tl v i : Int) ∧ apd tb tl v i < 256) (f3 : k ≤ 4) (hfu : 4 - k < fu), J none 0 mX7_laysWord 2 [(33, 0), (0, v), (0, ((k : Nat) : Int))] [] M1 (j_ret mX7_laysWord (fun z M' => TpS (tl + 4) (apd tb tl v) M' ∧ Fz [5] [24] M M')) := by
  intro fu
  induction fu with
  | zero => intro M1 k f1 f2 f3 hfu; exact absurd hfu (Nat.not_lt_zero _)
  | succ fu ih =>
    intro M1 k f1 f2 f3 hfu
    refine J_iload_n dX7_laysWord_2 rfl ?_
    refine J_iconst dX7_laysWord_3 ?_
    refine J_icmp_ge (tgt := 37) dX7_laysWord_4 rfl (j_R (by omega)) (by decide) (fun h4 => ?_) (fun h4 => ?_)
    ·
      refine J_aload_n dX7_laysWord_37 rfl ?_
      refine J_dup dX7_laysWord_38 rfl ?_
      refine J_getI dX7_laysWord_39 flX7_61 rfl rfl (J_top (v := ((tl : Nat) : Int)) (by rw [f1 23 (by decide)]; exact hT.1) ?_)
      refine J_iconst dX7_laysWord_42 ?_
      refine J_iadd dX7_laysWord_43 (J_top (v := (((tl + 4) : Nat) : Int)) (by omega) ?_)
      refine J_putI dX7_laysWord_44 flX7_61 rfl rfl (Or.inl rfl) ?_
      refine J_return dX7_laysWord_47 rfl ?_
      exact ⟨⟨j_up_eq, fun i hi => by rw [j_up_ne (by decide)]; exact f2 i (by omega)⟩, Fz_upz (by decide) (Fz_ch f1 (by decide))⟩
    ·
      refine J_aload_n dX7_laysWord_7 rfl ?_
      refine J_getR dX7_laysWord_8 flX7_13 rfl rfl ?_
      refine J_aload_n dX7_laysWord_11 rfl ?_
      refine J_getI dX7_laysWord_12 flX7_61 rfl rfl (J_top (v := ((tl : Nat) : Int)) (by rw [f1 23 (by decide)]; exact hT.1) ?_)
      refine J_iload_n dX7_laysWord_15 rfl ?_
      refine J_iadd dX7_laysWord_16 (J_top (v := (((tl + k) : Nat) : Int)) (by omega) ?_)
      refine J_iload_n dX7_laysWord_17 rfl ?_
      refine J_bipush dX7_laysWord_18 (by decide) ?_
      refine J_bipush dX7_laysWord_20 (by decide) ?_
      refine J_iload_n dX7_laysWord_22 rfl ?_
      refine J_imul dX7_laysWord_23 (J_top (v := (((8 * k) : Nat) : Int)) (Int.natCast_mul _ _).symm ?_)
      refine J_isub dX7_laysWord_24 (J_top (v := (((24 - 8 * k) : Nat) : Int)) (by omega) ?_)
      refine J_ishr dX7_laysWord_25 ?_
      refine J_sipush dX7_laysWord_26 (by decide) ?_
      refine J_iand dX7_laysWord_29 (J_top (v := (((byt v k) : Nat) : Int)) (byt_eq v k) ?_)
      refine J_iast dX7_laysWord_30 rfl (by decide) (by omega) ?_
      refine J_iinc (v := (((k + 1) : Nat) : Int)) (L' := [(33, 0), (0, v), (0, (((k + 1) : Nat) : Int))]) dX7_laysWord_31 rfl (by omega) (by decide) rfl rfl ?_
      refine J_goto (tgt := 2) dX7_laysWord_34 rfl ?_
      exact ih _ _ (by exact Ch_up (by decide) f1) (by intro i hi; by_cases e : i = tl + k; rw [e, j_up_eq]; unfold apd; rw [if_neg (by omega), show tl + k - tl = k by omega]; exact ⟨rfl, byt_lt v k⟩; rw [j_up_nz (by omega)]; exact f2 i (by omega)) (by omega) (by omega)
set_option maxRecDepth 100000 in
set_option maxHeartbeats 4000000 in
theorem ev_X7_laysWord (tl : Nat) (tb : Nat → Nat) (hl : tl ≤ 196) (M : jM) (hT : TpS tl tb M) (v : Int) (hv : -2147483648 ≤ v ∧ v < 2147483648) : Ev 0 mX7_laysWord [(33, 0), (0, v)] M (fun z M' => TpS (tl + 4) (apd tb tl v) M' ∧ Fz [5] [24] M M') := by
  refine Ev_of (by decide +kernel) (Nat.le_of_ble_eq_true rfl) (L := [(33, 0), (0, v), (9, 0)]) rfl ?_
  refine J_iconst dX7_laysWord_0 ?_
  refine J_istore_n (L' := [(33, 0), (0, v), (0, 0)]) dX7_laysWord_1 (by decide) rfl rfl ?_
  refine J_eq (L' := [(33, 0), (0, v), (0, ((0 : Nat) : Int))]) rfl rfl rfl ?_
  exact ev_X7_laysWord_L2 tl tb hl M hT v hv  _ _ _ (by exact Ch_rf) (by intro i hi; unfold apd; rw [if_pos (by omega)]; exact hT.2 i (by omega)) (by omega) (Nat.lt_succ_self _)
set_option maxRecDepth 100000 in
set_option maxHeartbeats 4000000 in
theorem ev_X7_feed (P D n : Nat) (F O : Nat → Nat) (tl : Nat) (tb : Nat → Nat) (fa tr wh : Int) (M : jM) (hS : MS P D n F O tl tb fa tr wh M) (a : Int) (ha : -2147483648 ≤ a ∧ a < 2147483648) (b : Int) (hb : -2147483648 ≤ b ∧ b < 2147483648) (c : Int) (hc : -2147483648 ≤ c ∧ c < 2147483648) (d : Int) (hd : -2147483648 ≤ d ∧ d < 2147483648) (e : Int) (he : -2147483648 ≤ e ∧ e < 2147483648) : Ev 1 mX7_feed [(33, 0), (0, a), (0, b), (0, c), (0, d), (0, e)] M (fun z M' => z = A_feed tl ∧ MS P D n F O (if tl ≤ 180 then (tl + 4 + 4 + 4 + 4 + 4) else tl) (if tl ≤ 180 then fdB tb tl a b c d e else tb) fa tr wh M' ∧ CM M M') := by
  refine Ev_of (by decide +kernel) (Nat.le_of_ble_eq_true rfl) (L := [(33, 0), (0, a), (0, b), (0, c), (0, d), (0, e)]) rfl ?_
  have hR := hS.1
  have hn12 := MR.hn hR
  have hP7 := MR.hP hR
  have hD5 := MR.hD hR
  have htl := hS.2.2.2.2.2.1
  have hT0 : TpS tl tb (j_up M 23 0 0) := ⟨ru_nz (by decide) hS.2.2.2.2.1, fun i hi => ⟨ru_ne (by decide) (hS.2.2.2.2.2.2 i hi).1, (hS.2.2.2.2.2.2 i hi).2⟩⟩
  refine J_aload_n dX7_feed_0 rfl ?_
  refine J_iconst dX7_feed_1 ?_
  refine J_putI dX7_feed_2 flX7_55 rfl rfl (Or.inl rfl) ?_
  refine J_aload_n dX7_feed_5 rfl ?_
  refine J_getI dX7_feed_6 flX7_61 rfl rfl (J_top (v := ((tl : Nat) : Int)) (ru_nz (by decide) hS.2.2.2.2.1) ?_)
  refine J_sipush dX7_feed_9 (by decide) ?_
  refine J_icmp_le (tgt := 17) dX7_feed_12 rfl (j_R (by omega)) (by decide) (fun h12 => ?_) (fun h12 => ?_)
  ·
    refine J_aload_n dX7_feed_17 rfl ?_
    refine J_iload_n dX7_feed_18 rfl ?_
    refine J_callVv (cl := mX7_laysWord) [(0, a)] [] dX7_feed_19 mlX7_64 cvX7_laysWord rfl rfl rfl rfl rfl (by decide) (Nat.le_of_ble_eq_true rfl) rfl (ev_X7_laysWord tl tb (by omega) (j_up M 23 0 0) hT0 a ha) (fun N1 hq19 => ?_)
    obtain ⟨t1, q1⟩ := hq19
    refine J_aload_n dX7_feed_22 rfl ?_
    refine J_iload_n dX7_feed_23 rfl ?_
    refine J_callVv (cl := mX7_laysWord) [(0, b)] [] dX7_feed_24 mlX7_64 cvX7_laysWord rfl rfl rfl rfl rfl (by decide) (Nat.le_of_ble_eq_true rfl) rfl (ev_X7_laysWord (tl + 4) (apd tb tl a) (by omega) N1 t1 b hb) (fun N2 hq24 => ?_)
    obtain ⟨t2, q2⟩ := hq24
    refine J_aload_n dX7_feed_27 rfl ?_
    refine J_iload_n dX7_feed_28 rfl ?_
    refine J_callVv (cl := mX7_laysWord) [(0, c)] [] dX7_feed_29 mlX7_64 cvX7_laysWord rfl rfl rfl rfl rfl (by decide) (Nat.le_of_ble_eq_true rfl) rfl (ev_X7_laysWord (tl + 4 + 4) (apd (apd tb tl a) (tl + 4) b) (by omega) N2 t2 c hc) (fun N3 hq29 => ?_)
    obtain ⟨t3, q3⟩ := hq29
    refine J_aload_n dX7_feed_32 rfl ?_
    refine J_iload dX7_feed_33 rfl ?_
    refine J_callVv (cl := mX7_laysWord) [(0, d)] [] dX7_feed_35 mlX7_64 cvX7_laysWord rfl rfl rfl rfl rfl (by decide) (Nat.le_of_ble_eq_true rfl) rfl (ev_X7_laysWord (tl + 4 + 4 + 4) (apd (apd (apd tb tl a) (tl + 4) b) (tl + 4 + 4) c) (by omega) N3 t3 d hd) (fun N4 hq35 => ?_)
    obtain ⟨t4, q4⟩ := hq35
    refine J_aload_n dX7_feed_38 rfl ?_
    refine J_iload dX7_feed_39 rfl ?_
    refine J_callVv (cl := mX7_laysWord) [(0, e)] [] dX7_feed_41 mlX7_64 cvX7_laysWord rfl rfl rfl rfl rfl (by decide) (Nat.le_of_ble_eq_true rfl) rfl (ev_X7_laysWord (tl + 4 + 4 + 4 + 4) (apd (apd (apd (apd tb tl a) (tl + 4) b) (tl + 4 + 4) c) (tl + 4 + 4 + 4) d) (by omega) N4 t4 e he) (fun N5 hq41 => ?_)
    obtain ⟨t5, q5⟩ := hq41
    refine J_aload_n dX7_feed_44 rfl ?_
    refine J_getI dX7_feed_45 flX7_61 rfl rfl (J_top (v := (((tl + 4 + 4 + 4 + 4 + 4) : Nat) : Int)) t5.1 ?_)
    refine J_ireturn dX7_feed_48 rfl ?_
    rw [if_pos (by omega), if_pos (by omega)]
    have qq := Fz_tr (Fz_tr (Fz_tr (Fz_tr q1 q2) q3) q4) q5
    exact ⟨by unfold A_feed; rw [if_pos (by omega)], ms_tp qq t5 (by omega) (ms_up0 hS), cm_tr (cm_up cm_rf) (cm_fz qq (by decide))⟩
  ·
    refine J_iconst dX7_feed_15 ?_
    refine J_ireturn dX7_feed_16 rfl ?_
    rw [if_neg (by omega), if_neg (by omega)]
    exact ⟨by unfold A_feed; rw [if_neg (by omega)], ms_up0 hS, cm_up cm_rf⟩
