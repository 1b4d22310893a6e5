def wdB (n : Nat) (tb : Nat → Nat) (s i : Nat) : Bool := (tkK n tb s == 2) && (tkN n tb s - tkP n tb s == j_len.getD i 0) && allN (j_len.getD i 0) (fun k => tb (tkP n tb s + k) == j_ltr i k)
/-- a number behind a word -/
def afO (n : Nat) (tb : Nat → Nat) (s i hi : Nat) : Bool := wdB n tb s i && (tkK n tb (tkN n tb s) == 3) && decide (1 ≤ tkW n tb (tkN n tb s) ∧ tkW n tb (tkN n tb s) ≤ hi)
def afF (n : Nat) (tb : Nat → Nat) (s i : Nat) : Nat := if (wdB n tb s i && (tkK n tb (tkN n tb s) == 3)) = true then 2 else 1
def afP (n : Nat) (tb : Nat → Nat) (s i : Nat) : Nat := if wdB n tb s i = true then tkP n tb (tkN n tb s) else tkP n tb s
def AfQ (n : Nat) (tb : Nat → Nat) (s i hi : Nat) (M : jM) (z : Int) (M' : jM) : Prop :=
  (afO n tb s i hi = true ∧ z = (tkW n tb (tkN n tb s) : Int) ∧ Cur n tb (tkN n tb (tkN n tb s)) M' ∧ Fz [13, 14, 15, 16, 17, 18] [] M M') ∨
  (afO n tb s i hi = false ∧ z = -1 ∧ M' 23 17 = (afF n tb s i : Int) ∧ M' 23 18 = (afP n tb s i : Int) ∧ Fz [13, 14, 15, 16, 17, 18] [] M M')
theorem AfQ_R {n : Nat} {tb : Nat → Nat} {s i hi : Nat} {M M' : jM} {z : Int} (h : AfQ n tb s i hi M z M') (hh : hi ≤ 100) : -2147483648 ≤ z ∧ z < 2147483648 := by
  rcases h with ⟨h1, h2, -⟩ | ⟨h1, h2, -⟩
  · unfold afO at h1
    simp only [Bool.and_eq_true, decide_eq_true_eq] at h1
    omega
  · omega
theorem AfQ_no {n : Nat} {tb : Nat → Nat} {s i hi : Nat} {M M' : jM} {z : Int} (h : AfQ n tb s i hi M z M') (hz : z = -1) : afO n tb s i hi = false ∧ M' 23 17 = (afF n tb s i : Int) ∧ M' 23 18 = (afP n tb s i : Int) ∧ Fz [13, 14, 15, 16, 17, 18] [] M M' := by
  rcases h with ⟨h1, h2, -⟩ | ⟨h1, h2, h3⟩
  · omega
  · exact ⟨h1, h3⟩
theorem AfQ_ok {n : Nat} {tb : Nat → Nat} {s i hi : Nat} {M M' : jM} {z : Int} (h : AfQ n tb s i hi M z M') (hz : ¬ z = -1) : afO n tb s i hi = true ∧ z = (tkW n tb (tkN n tb s) : Int) ∧ (1 ≤ tkW n tb (tkN n tb s) ∧ tkW n tb (tkN n tb s) ≤ hi) ∧ Cur n tb (tkN n tb (tkN n tb s)) M' ∧ Fz [13, 14, 15, 16, 17, 18] [] M M' := by
  rcases h with ⟨h1, h2, h3⟩ | ⟨h1, h2, h3⟩
  · have h4 := h1
    unfold afO at h4
    simp only [Bool.and_eq_true, decide_eq_true_eq] at h4
    exact ⟨h1, h2, h4.2, h3⟩
  · omega
/-- the points of a word -/
def wsB (tb : Nat → Nat) (a : Nat) : Nat → Nat
  | 0 => 0
  | k + 1 => wsB tb a k ||| 2 ^ (tb (a + k) - 97)
def wsO (P : Nat) (tb : Nat → Nat) (a : Nat) : Nat → Bool
  | 0 => true
  | k + 1 => wsO P tb a k && (decide (tb (a + k) - 97 < P) && !(wsB tb a k).testBit (tb (a + k) - 97))
def wsK (P D : Nat) (tb : Nat → Nat) (a b : Nat) : Bool := wsO P tb a (b - a) && (popc (wsB tb a (b - a)) == D)
theorem wsB_lt {P : Nat} {tb : Nat → Nat} {a : Nat} : ∀ k, wsO P tb a k = true → wsB tb a k < 2 ^ P := by
  intro k
  induction k with
  | zero => intro _; exact Nat.two_pow_pos P
  | succ k ih =>
    intro h
    simp only [wsO, Bool.and_eq_true, decide_eq_true_eq] at h
    exact Nat.or_lt_two_pow (ih h.1) (Nat.pow_lt_pow_right (by decide) h.2.1)
theorem wsO_dn {P : Nat} {tb : Nat → Nat} {a : Nat} {k m : Nat} (h : wsO P tb a m = true) (hk : k ≤ m) : wsO P tb a k = true := by
  induction m with
  | zero => rw [Nat.le_zero.mp hk]; rfl
  | succ m ih =>
    by_cases e : k = m + 1
    · rw [e]; exact h
    · simp only [wsO, Bool.and_eq_true] at h
      exact ih h.1 (by omega)
abbrev LnR : Type := (Nat × Nat) ⊕ (Nat × Nat × Nat × Nat × (Nat → Nat))
def hdR (n : Nat) (tb : Nat → Nat) (s P m : Nat) (R : Nat → Nat) : LnR :=
  if 0 < P then .inl (4, tkP n tb s)
  else if afO n tb (tkN n tb s) 2 7 = true then
    (if afO n tb (tkN n tb (tkN n tb (tkN n tb s))) 3 (min (tkW n tb (tkN n tb (tkN n tb s))) 5) = true then .inr (tkN n tb (tkN n tb (tkN n tb (tkN n tb (tkN n tb s)))), tkW n tb (tkN n tb (tkN n tb s)), tkW n tb (tkN n tb (tkN n tb (tkN n tb (tkN n tb s)))), m, R)
     else .inl (afF n tb (tkN n tb (tkN n tb (tkN n tb s))) 3, afP n tb (tkN n tb (tkN n tb (tkN n tb s))) 3))
  else .inl (afF n tb (tkN n tb s) 2, afP n tb (tkN n tb s) 2)
def fcS (n : Nat) (tb : Nat → Nat) (s : Nat) : Nat := wsB tb (tkP n tb s) (tkN n tb s - tkP n tb s)
def fcR (n : Nat) (tb : Nat → Nat) (s P D m : Nat) (R : Nat → Nat) : LnR :=
  if m = 12 then .inl (5, tkP n tb s)
  else if P = 0 then .inl (6, tkP n tb s)
  else if ¬ tkK n tb (tkN n tb s) = 2 then .inl (1, tkP n tb (tkN n tb s))
  else if wsK P D tb (tkP n tb (tkN n tb s)) (tkN n tb (tkN n tb s)) = false then .inl (3, tkP n tb (tkN n tb s))
  else if anyN m (fun k => R k == fcS n tb (tkN n tb s)) = true then .inl (4, tkP n tb (tkN n tb s))
  else .inr (tkN n tb (tkN n tb s), P, D, m + 1, fun k => if k = m then fcS n tb (tkN n tb s) else R k)
def lnR (n : Nat) (tb : Nat → Nat) (s P D m : Nat) (R : Nat → Nat) : LnR :=
  if wdB n tb s 0 = true then hdR n tb s P m R else if wdB n tb s 1 = true then fcR n tb s P D m R else .inl (1, tkP n tb s)
/-- where the reference stands in its text -/
def LnS (n : Nat) (tb : Nat → Nat) (s P D m : Nat) (R : Nat → Nat) (M : jM) : Prop := Cur n tb s M ∧ M 23 19 = (P : Int) ∧ (0 < P → M 23 20 = (D : Int)) ∧ M 23 21 = (m : Int) ∧ (P ≤ 7 ∧ D ≤ 5 ∧ m ≤ 12) ∧ ∀ j : Nat, j < m → M 27 (j : Int) = (R j : Int) ∧ R j < 128
def LnQ (n : Nat) (tb : Nat → Nat) (M : jM) (r : LnR) (z : Int) (M' : jM) : Prop := Fz [13, 14, 15, 16, 17, 18, 19, 20, 21] [27] M M' ∧ match r with
  | .inl (f, p) => z = 0 ∧ M' 23 17 = (f : Int) ∧ M' 23 18 = (p : Int)
  | .inr (s, P, D, m, R) => z = 1 ∧ LnS n tb s P D m R M' ∧ 0 < P
theorem tkWR {n : Nat} {tb : Nat → Nat} {s : Nat} {M : jM} (h : Cur n tb s M) (hk : tkK n tb s = 3) : -2147483648 ≤ ((tkW n tb s : Nat) : Int) ∧ ((tkW n tb s : Nat) : Int) < 2147483648 := by
  have h1 := tkN_le (tb := tb) h.2.1
  have h2 := tkN_gt (n := n) (tb := tb) (s := s) (by omega)
  have b1 := (h.1.2.2 (tkP n tb s) (by omega)).2
  have : tkW n tb s < 100000 := by
    unfold tkW dgW
    split
    · omega
    · split
      · omega
      · have b2 := (h.1.2.2 (tkP n tb s + 1) (by omega)).2
        omega
  omega
set_option maxRecDepth 100000 in
set_option maxHeartbeats 4000000 in
theorem ev_X7_isWord_L28 (n : Nat) (tb : Nat → Nat) (s : Nat) (M : jM) (hC : Cur n tb s M) (i : Nat) (hi : i < 4) (e1 : tkK n tb s = 2) (e2 : tkN n tb s - tkP n tb s = j_len.getD i 0) : ∀ (fu : Nat) (k : Nat) (f1 : allN k (fun k => tb (tkP n tb s + k) == j_ltr i k) = true) (f2 : k ≤ j_len.getD i 0) (hfu : j_len.getD i 0 - k < fu), J none 4 mX7_isWord 28 [(33, 0), (4, ((i : Nat) : Int)), (0, ((k : Nat) : Int))] [] M (j_ret mX7_isWord (fun z M' => z = ((Bool.toNat (wdB n tb s i) : Nat) : Int) ∧ M' = M)) := by
  intro fu
  induction fu with
  | zero => intro k f1 f2 hfu; exact absurd hfu (Nat.not_lt_zero _)
  | succ fu ih =>
    intro k f1 f2 hfu
    have hM := hC.1
    have hn2 := hC.1.1
    have hsn := hC.2.1
    have hN := tkN_le (tb := tb) hC.2.1
    have hP := tkN_ge n tb s
    have hK := tkK_le n tb s
    have hl8 := j_len_ok i hi
    refine J_iload_n dX7_isWord_28 rfl ?_
    refine J_aload_nT dX7_isWord_29 rfl ?_
    refine J_callTiQ (cl := mJ0_length_8abf5) [] [(0, ((k : Nat) : Int))] dX7_isWord_30 mlX7_91 cvJ0_length_8abf5 rfl rfl (by omega) rfl (by decide) (Nat.le_of_ble_eq_true rfl) rfl (ev_length i (by omega) M) ?_
    refine J_icmp_ge (tgt := 63) dX7_isWord_33 rfl (j_R (by omega)) (j_R (by have := j_len_ok i (by omega); omega)) (fun h33 => ?_) (fun h33 => ?_)
    ·
      refine J_iconst dX7_isWord_63 ?_
      refine J_zreturn dX7_isWord_64 rfl (Or.inr rfl) ?_
      have hk : k = j_len.getD i 0 := by omega
      exact ⟨bt (by unfold wdB; rw [beq_iff_eq.mpr e1, beq_iff_eq.mpr e2, ← hk, f1]; rfl), rfl⟩
    ·
      refine J_aload_n dX7_isWord_36 rfl ?_
      refine J_getR dX7_isWord_37 flX7_13 rfl rfl ?_
      refine J_aload_n dX7_isWord_40 rfl ?_
      refine J_getI dX7_isWord_41 flX7_78 rfl rfl (J_top (v := (((tkP n tb s) : Nat) : Int)) hC.2.2.1 ?_)
      refine J_iload_n dX7_isWord_44 rfl ?_
      refine J_iadd dX7_isWord_45 (J_top (v := ((((tkP n tb s) + k) : Nat) : Int)) (by omega) ?_)
      refine J_iald dX7_isWord_46 rfl (by decide) (by have := hM.1; omega) (J_top (v := (((tb ((tkP n tb s) + k)) : Nat) : Int)) (hC.1.2.2 ((tkP n tb s) + k) (by omega)).1 ?_)
      refine J_aload_nT dX7_isWord_47 rfl ?_
      refine J_iload_n dX7_isWord_48 rfl ?_
      refine J_callTiQ (cl := mJ0_charAt_5068e) [(0, ((k : Nat) : Int))] [(0, (((tb ((tkP n tb s) + k)) : Nat) : Int))] dX7_isWord_49 mlX7_97 cvJ0_charAt_5068e rfl rfl (by omega) rfl (by decide) (Nat.le_of_ble_eq_true rfl) rfl (ev_charAt i k (by omega) (by omega) M) ?_
      refine J_icmp_eq (tgt := 57) dX7_isWord_52 rfl (j_R (by have := (hC.1.2.2 ((tkP n tb s) + k) (by omega)).2; omega)) (j_R (by have := (j_ltr_ok i (by omega) k (by have := j_len_ok i (by omega); omega)).2; omega)) (fun h52 => ?_) (fun h52 => ?_)
      ·
        refine J_iinc (v := (((k + 1) : Nat) : Int)) (L' := [(33, 0), (4, ((i : Nat) : Int)), (0, (((k + 1) : Nat) : Int))]) dX7_isWord_57 rfl (by omega) (by decide) rfl rfl ?_
        refine J_goto (tgt := 28) dX7_isWord_60 rfl ?_
        exact ih _ (by rw [allN_t (by exact beq_iff_eq.mpr (by omega)), f1]) (by omega) (by omega)
      ·
        refine J_iconst dX7_isWord_55 ?_
        refine J_zreturn dX7_isWord_56 rfl (Or.inl rfl) ?_
        exact ⟨bf (by unfold wdB; rw [allN_no (k := k) (by exact beq_eq_false_iff_ne.mpr (by omega)) (by omega)]; simp), rfl⟩
set_option maxRecDepth 100000 in
set_option maxHeartbeats 4000000 in
theorem ev_X7_isWord (n : Nat) (tb : Nat → Nat) (s : Nat) (M : jM) (hC : Cur n tb s M) (i : Nat) (hi : i < 4) : Ev 4 mX7_isWord [(33, 0), (4, ((i : Nat) : Int))] M (fun z M' => z = ((Bool.toNat (wdB n tb s i) : Nat) : Int) ∧ M' = M) := by
  refine Ev_of (by decide +kernel) (Nat.le_of_ble_eq_true rfl) (L := [(33, 0), (4, ((i : Nat) : Int)), (9, 0)]) rfl ?_
  have hM := hC.1
  have hn2 := hC.1.1
  have hsn := hC.2.1
  have hN := tkN_le (tb := tb) hC.2.1
  have hP := tkN_ge n tb s
  have hK := tkK_le n tb s
  have hl8 := j_len_ok i hi
  refine J_aload_n dX7_isWord_0 rfl ?_
  refine J_getI dX7_isWord_1 flX7_81 rfl rfl (J_top (v := (((tkK n tb s) : Nat) : Int)) hC.2.2.2.2.1 ?_)
  refine J_iconst dX7_isWord_4 ?_
  refine J_icmp_ne (tgt := 24) dX7_isWord_5 rfl (j_R (by omega)) (by decide) (fun h5 => ?_) (fun h5 => ?_)
  ·
    refine J_iconst dX7_isWord_24 ?_
    refine J_zreturn dX7_isWord_25 rfl (Or.inl rfl) ?_
    exact ⟨bf (by unfold wdB; rw [beq_eq_false_iff_ne.mpr (by omega : ¬ tkK n tb s = 2)]; rfl), rfl⟩
  ·
    refine J_aload_n dX7_isWord_8 rfl ?_
    refine J_getI dX7_isWord_9 flX7_71 rfl rfl (J_top (v := (((tkN n tb s) : Nat) : Int)) hC.2.2.2.1 ?_)
    refine J_aload_n dX7_isWord_12 rfl ?_
    refine J_getI dX7_isWord_13 flX7_78 rfl rfl (J_top (v := (((tkP n tb s) : Nat) : Int)) hC.2.2.1 ?_)
    refine J_isub dX7_isWord_16 ?_
    refine J_aload_nT dX7_isWord_17 rfl ?_
    refine J_callTiQ (cl := mJ0_length_8abf5) [] [(0, ((((tkN n tb s) : Nat) : Int) - (((tkP n tb s) : Nat) : Int)))] dX7_isWord_18 mlX7_91 cvJ0_length_8abf5 rfl rfl (by omega) rfl (by decide) (Nat.le_of_ble_eq_true rfl) rfl (ev_length i (by omega) M) ?_
    refine J_icmp_eq (tgt := 26) dX7_isWord_21 rfl (by omega) (j_R (by have := j_len_ok i (by omega); omega)) (fun h21 => ?_) (fun h21 => ?_)
    ·
      refine J_iconst dX7_isWord_26 ?_
      refine J_istore_n (L' := [(33, 0), (4, ((i : Nat) : Int)), (0, 0)]) dX7_isWord_27 (by decide) rfl rfl ?_
      refine J_eq (L' := [(33, 0), (4, ((i : Nat) : Int)), (0, ((0 : Nat) : Int))]) rfl rfl rfl ?_
      exact ev_X7_isWord_L28 n tb s M hC i hi (by omega) (by omega) _ _ (by rfl) (by omega) (Nat.lt_succ_self _)
    ·
      refine J_iconst dX7_isWord_24 ?_
      refine J_zreturn dX7_isWord_25 rfl (Or.inl rfl) ?_
      exact ⟨bf (by unfold wdB; rw [beq_eq_false_iff_ne.mpr (by omega : ¬ tkN n tb s - tkP n tb s = j_len.getD i 0)]; simp), rfl⟩
set_option maxRecDepth 100000 in
set_option maxHeartbeats 4000000 in
theorem ev_X7_errs (k p : Int) (M : jM) (hp : M 23 13 = p) : Ev 0 mX7_errs [(33, 0), (0, k)] M (fun z M' => z = 0 ∧ M' = j_up (j_up M 23 17 k) 23 18 p) := by
  refine Ev_of (by decide +kernel) (Nat.le_of_ble_eq_true rfl) (L := [(33, 0), (0, k)]) rfl ?_
  refine J_aload_n dX7_errs_0 rfl ?_
  refine J_iload_n dX7_errs_1 rfl ?_
  refine J_putI dX7_errs_2 flX7_101 rfl rfl (Or.inl rfl) ?_
  refine J_aload_n dX7_errs_5 rfl ?_
  refine J_aload_n dX7_errs_6 rfl ?_
  refine J_getI dX7_errs_7 flX7_78 rfl rfl (J_top (v := p) (ru_nz (by decide) hp) ?_)
  refine J_putI dX7_errs_10 flX7_104 rfl rfl (Or.inl rfl) ?_
  refine J_iconst dX7_errs_13 ?_
  refine J_zreturn dX7_errs_14 rfl (Or.inl rfl) ?_
  exact ⟨rfl, rfl⟩
set_option maxRecDepth 100000 in
set_option maxHeartbeats 4000000 in
theorem ev_X7_after (n : Nat) (tb : Nat → Nat) (s : Nat) (M : jM) (hC : Cur n tb s M) (i hi : Nat) (hi4 : i < 4) (hh : hi ≤ 100) : Ev 5 mX7_after [(33, 0), (4, ((i : Nat) : Int)), (0, 1), (0, ((hi : Nat) : Int))] M (fun z M' => AfQ n tb s i hi M z M') := by
  refine Ev_of (by decide +kernel) (Nat.le_of_ble_eq_true rfl) (L := [(33, 0), (4, ((i : Nat) : Int)), (0, 1), (0, ((hi : Nat) : Int)), (9, 0), (9, 0)]) rfl ?_
  have hM := hC.1
  have hn2 := hC.1.1
  have hsn := hC.2.1
  have hN := tkN_le (tb := tb) hC.2.1
  have hP := tkN_ge n tb s
  have hK := tkK_le n tb s
  refine J_aload_n dX7_after_0 rfl ?_
  refine J_aload_nT dX7_after_1 rfl ?_
  refine J_callViQ (cl := mX7_isWord) [(4, ((i : Nat) : Int))] [] dX7_after_2 mlX7_107 cvX7_isWord rfl rfl rfl rfl rfl (by decide) (Nat.le_of_ble_eq_true rfl) rfl (ev_X7_isWord n tb s M hC i (by omega)) ?_
  refine J_istore (L' := [(33, 0), (4, ((i : Nat) : Int)), (0, 1), (0, ((hi : Nat) : Int)), (0, ((Bool.toNat (wdB n tb s i) : Nat) : Int)), (9, 0)]) dX7_after_5 (by decide) rfl rfl ?_
  refine J_iload dX7_after_7 rfl ?_
  refine J_ifb_eq (tgt := 16) dX7_after_9 rfl (fun h9 => ?_) (fun h9 => ?_)
  ·
    refine J_iload dX7_after_16 rfl ?_
    refine J_ifb_eq (tgt := 41) dX7_after_18 rfl (fun h18 => ?_) (fun h18 => ?_)
    ·
      refine J_aload_n dX7_after_41 rfl ?_
      refine J_iload dX7_after_42 rfl ?_
      refine J_ifb_eq (tgt := 59) dX7_after_44 rfl (fun h44 => ?_) (fun h44 => ?_)
      ·
        refine J_iconst dX7_after_59 ?_
        refine J_callViQ (cl := mX7_errs) [(0, 1)] [] dX7_after_60 mlX7_114 cvX7_errs rfl rfl rfl rfl rfl (by decide) (Nat.le_of_ble_eq_true rfl) rfl (ev_X7_errs 1 (((tkP n tb s) : Nat) : Int) M hC.2.2.1) ?_
        refine J_istore (L' := [(33, 0), (4, ((i : Nat) : Int)), (0, 1), (0, ((hi : Nat) : Int)), (0, ((Bool.toNat (wdB n tb s i) : Nat) : Int)), (0, 0)]) dX7_after_63 (by decide) rfl rfl ?_
        refine J_iconst dX7_after_65 ?_
        refine J_ireturn dX7_after_66 rfl ?_
        refine Or.inr ⟨by unfold afO; rw [h9]; rfl, rfl, ?_, ?_, Fz_upz (by decide) (Fz_upz (by decide) Fz_rf)⟩
        · rw [j_up_nz (by decide), j_up_eq]; unfold afF; rw [h9]; rfl
        · rw [j_up_eq]; unfold afP; rw [if_neg (by rw [h9]; decide)]
      · exact absurd (h9.symm.trans h44) (by decide)
    · exact absurd (h9.symm.trans h18) (by decide)
  ·
    refine J_aload_n dX7_after_12 rfl ?_
    refine J_callVv (cl := mX7_goesOn) [] [] dX7_after_13 mlX7_111 cvX7_goesOn rfl rfl rfl rfl rfl (by decide) (Nat.le_of_ble_eq_true rfl) rfl (ev_X7_goesOn n tb M hC.1 (tkN n tb s) (tkN_le hC.2.1) hC.2.2.2.1) (fun M1 hq13 => ?_)
    obtain ⟨a1, a2⟩ := hq13
    refine J_iload dX7_after_16 rfl ?_
    refine J_ifb_eq (tgt := 41) dX7_after_18 rfl (fun h18 => ?_) (fun h18 => ?_)
    · exact absurd (h9.symm.trans h18) (by decide)
    ·
      refine J_aload_n dX7_after_21 rfl ?_
      refine J_getI dX7_after_22 flX7_81 rfl rfl (J_top (v := (((tkK n tb (tkN n tb s)) : Nat) : Int)) a1.2.2.2.2.1 ?_)
      refine J_iconst dX7_after_25 ?_
      refine J_icmp_ne (tgt := 41) dX7_after_26 rfl (by have := tkK_le n tb (tkN n tb s); omega) (by decide) (fun h26 => ?_) (fun h26 => ?_)
      ·
        refine J_aload_n dX7_after_41 rfl ?_
        refine J_iload dX7_after_42 rfl ?_
        refine J_ifb_eq (tgt := 59) dX7_after_44 rfl (fun h44 => ?_) (fun h44 => ?_)
        · exact absurd (h9.symm.trans h44) (by decide)
        ·
          refine J_aload_n dX7_after_47 rfl ?_
          refine J_getI dX7_after_48 flX7_81 rfl rfl (J_top (v := (((tkK n tb (tkN n tb s)) : Nat) : Int)) a1.2.2.2.2.1 ?_)
          refine J_iconst dX7_after_51 ?_
          refine J_icmp_ne (tgt := 59) dX7_after_52 rfl (by have := tkK_le n tb (tkN n tb s); omega) (by decide) (fun h52 => ?_) (fun h52 => ?_)
          ·
            refine J_iconst dX7_after_59 ?_
            refine J_callViQ (cl := mX7_errs) [(0, 1)] [] dX7_after_60 mlX7_114 cvX7_errs rfl rfl rfl rfl rfl (by decide) (Nat.le_of_ble_eq_true rfl) rfl (ev_X7_errs 1 (((tkP n tb (tkN n tb s)) : Nat) : Int) M1 a1.2.2.1) ?_
            refine J_istore (L' := [(33, 0), (4, ((i : Nat) : Int)), (0, 1), (0, ((hi : Nat) : Int)), (0, ((Bool.toNat (wdB n tb s i) : Nat) : Int)), (0, 0)]) dX7_after_63 (by decide) rfl rfl ?_
            refine J_iconst dX7_after_65 ?_
            refine J_ireturn dX7_after_66 rfl ?_
            have hz : afO n tb s i hi = false := by
              unfold afO
              rw [beq_eq_false_iff_ne.mpr (by omega : ¬ tkK n tb (tkN n tb s) = 3)]; simp
            refine Or.inr ⟨hz, rfl, ?_, ?_, Fz_upz (by decide) (Fz_upz (by decide) (Fz_mo a2 (by decide) (by decide)))⟩
            · rw [j_up_nz (by decide), j_up_eq]; unfold afF; rw [h9, Bool.true_and, beq_eq_false_iff_ne.mpr (by omega : ¬ tkK n tb (tkN n tb s) = 3)]; rfl
            · rw [j_up_eq]; unfold afP; rw [if_pos h9]
          · exfalso; omega
      ·
        refine J_aload_n dX7_after_29 rfl ?_
        refine J_getI dX7_after_30 flX7_88 rfl rfl (J_top (v := (((tkW n tb (tkN n tb s)) : Nat) : Int)) (a1.2.2.2.2.2 (by omega)) ?_)
        refine J_iload_n dX7_after_33 rfl ?_
        refine J_iload_n dX7_after_34 rfl ?_
        refine J_callSiQ (cl := mX7_in) [(0, (((tkW n tb (tkN n tb s)) : Nat) : Int)), (0, 1), (0, ((hi : Nat) : Int))] [] dX7_after_35 mlX7_84 csX7_in rfl rfl (by decide) (Nat.le_of_ble_eq_true rfl) rfl (ev_X7_in (((tkW n tb (tkN n tb s)) : Nat) : Int) 1 ((hi : Nat) : Int) (tkWR a1 (by omega)) (by decide) (j_R (by omega)) M1) ?_
        refine J_ifb_ne (tgt := 67) dX7_after_38 rfl (fun h38 => ?_) (fun h38 => ?_)
        ·
          refine J_aload_n dX7_after_67 rfl ?_
          refine J_getI dX7_after_68 flX7_88 rfl rfl (J_top (v := (((tkW n tb (tkN n tb s)) : Nat) : Int)) (a1.2.2.2.2.2 (by omega)) ?_)
          refine J_istore (L' := [(33, 0), (4, ((i : Nat) : Int)), (0, 1), (0, ((hi : Nat) : Int)), (0, ((Bool.toNat (wdB n tb s i) : Nat) : Int)), (0, (((tkW n tb (tkN n tb s)) : Nat) : Int))]) dX7_after_71 (by decide) rfl rfl ?_
          refine J_aload_n dX7_after_73 rfl ?_
          refine J_callVv (cl := mX7_goesOn) [] [] dX7_after_74 mlX7_111 cvX7_goesOn rfl rfl rfl rfl rfl (by decide) (Nat.le_of_ble_eq_true rfl) rfl (ev_X7_goesOn n tb M1 a1.1 (tkN n tb (tkN n tb s)) (tkN_le a1.2.1) a1.2.2.2.1) (fun M2 hq74 => ?_)
          obtain ⟨b1, b2⟩ := hq74
          refine J_iload dX7_after_77 rfl ?_
          refine J_ireturn dX7_after_79 rfl ?_
          have q := of_decide_eq_true h38
          exact Or.inl ⟨by unfold afO; rw [h9, beq_iff_eq.mpr (by omega : tkK n tb (tkN n tb s) = 3), decide_eq_true (by omega : 1 ≤ tkW n tb (tkN n tb s) ∧ tkW n tb (tkN n tb s) ≤ hi)]; rfl, rfl, b1, Fz_mo (Fz_tr a2 b2) (by decide) (by decide)⟩
        ·
          refine J_aload_n dX7_after_41 rfl ?_
          refine J_iload dX7_after_42 rfl ?_
          refine J_ifb_eq (tgt := 59) dX7_after_44 rfl (fun h44 => ?_) (fun h44 => ?_)
          · exact absurd (h9.symm.trans h44) (by decide)
          ·
            refine J_aload_n dX7_after_47 rfl ?_
            refine J_getI dX7_after_48 flX7_81 rfl rfl (J_top (v := (((tkK n tb (tkN n tb s)) : Nat) : Int)) a1.2.2.2.2.1 ?_)
            refine J_iconst dX7_after_51 ?_
            refine J_icmp_ne (tgt := 59) dX7_after_52 rfl (by have := tkK_le n tb (tkN n tb s); omega) (by decide) (fun h52 => ?_) (fun h52 => ?_)
            · exfalso; omega
            ·
              refine J_iconst dX7_after_55 ?_
              refine J_goto (tgt := 60) dX7_after_56 rfl ?_
              refine J_callViQ (cl := mX7_errs) [(0, 2)] [] dX7_after_60 mlX7_114 cvX7_errs rfl rfl rfl rfl rfl (by decide) (Nat.le_of_ble_eq_true rfl) rfl (ev_X7_errs 2 (((tkP n tb (tkN n tb s)) : Nat) : Int) M1 a1.2.2.1) ?_
              refine J_istore (L' := [(33, 0), (4, ((i : Nat) : Int)), (0, 1), (0, ((hi : Nat) : Int)), (0, ((Bool.toNat (wdB n tb s i) : Nat) : Int)), (0, 0)]) dX7_after_63 (by decide) rfl rfl ?_
              refine J_iconst dX7_after_65 ?_
              refine J_ireturn dX7_after_66 rfl ?_
              have hz : afO n tb s i hi = false := by
                unfold afO
                have q := of_decide_eq_false h38
                rw [decide_eq_false (by omega : ¬ (1 ≤ tkW n tb (tkN n tb s) ∧ tkW n tb (tkN n tb s) ≤ hi))]; simp
              refine Or.inr ⟨hz, rfl, ?_, ?_, Fz_upz (by decide) (Fz_upz (by decide) (Fz_mo a2 (by decide) (by decide)))⟩
              · rw [j_up_nz (by decide), j_up_eq]; unfold afF; rw [h9, Bool.true_and, beq_iff_eq.mpr (by omega : tkK n tb (tkN n tb s) = 3)]; rfl
              · rw [j_up_eq]; unfold afP; rw [if_pos h9]
