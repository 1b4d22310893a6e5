/-! longs -/
def lwb (x : Nat) : Nat := ndf x (x - 1)
theorem nb_or63 {a b : Nat} (h1 : a < 9223372036854775808) (h2 : b < 9223372036854775808) : a ||| b < 9223372036854775808 := Nat.or_lt_two_pow (n := 63) h1 h2
theorem nb_xor63 {a b : Nat} (h1 : a < 9223372036854775808) (h2 : b < 9223372036854775808) : a ^^^ b < 9223372036854775808 := Nat.xor_lt_two_pow (n := 63) h1 h2
theorem nb_p263 {p : Nat} (h : p < 63) : 2 ^ p < 9223372036854775808 := Nat.pow_lt_pow_right (a := 2) (by decide) h
theorem lwb63 {x : Nat} (h : x < 9223372036854775808) : lwb x < 9223372036854775808 := nb_ndf h
theorem j_R63 {x : Nat} (h : x < 9223372036854775808) : -9223372036854775808 ≤ (x : Int) ∧ (x : Int) < 9223372036854775808 := by omega
theorem j_cmp0 (x : Nat) : j_cmp (x : Int) 0 = (((decide (¬ x = 0)).toNat : Nat) : Int) := by
  unfold j_cmp
  by_cases h : x = 0
  · subst h; rfl
  · rw [if_pos (by omega), decide_eq_true h]; rfl
theorem j_bvl {x : Nat} : (Int64.ofInt (x : Int)).toBitVec = BitVec.ofNat 64 x := by
  show BitVec.ofInt 64 (x : Int) = _
  exact BitVec.ofInt_natCast 64 x
theorem j_toIl {v : Int64} {n : Nat} (hv : v.toBitVec = BitVec.ofNat 64 n) (hn : n < 9223372036854775808) : v.toInt = (n : Int) := by
  have : v = Int64.ofInt (n : Int) := Int64.toBitVec_inj.mp (by rw [hv, j_bvl])
  rw [this, j_oil (by omega)]
theorem j_landN {a b : Int} {x y : Nat} (ha : a = (x : Int)) (hb : b = (y : Int)) (hx : x < 9223372036854775808) (hy : y < 9223372036854775808) : j_land a b = ((x &&& y : Nat) : Int) := by
  subst ha; subst hb
  apply j_toIl _ (nb_and hx)
  rw [Int64.toBitVec_and, j_bvl, j_bvl, BitVec.ofNat_and]
theorem j_lorN {a b : Int} {x y : Nat} (ha : a = (x : Int)) (hb : b = (y : Int)) (hx : x < 9223372036854775808) (hy : y < 9223372036854775808) : j_lor a b = ((x ||| y : Nat) : Int) := by
  subst ha; subst hb
  apply j_toIl _ (nb_or63 hx hy)
  rw [Int64.toBitVec_or, j_bvl, j_bvl, BitVec.ofNat_or]
theorem j_lxorN {a b : Int} {x y : Nat} (ha : a = (x : Int)) (hb : b = (y : Int)) (hx : x < 9223372036854775808) (hy : y < 9223372036854775808) : j_lxor a b = ((x ^^^ y : Nat) : Int) := by
  subst ha; subst hb
  apply j_toIl _ (nb_xor63 hx hy)
  rw [Int64.toBitVec_xor, j_bvl, j_bvl, BitVec.ofNat_xor]
theorem j_lor0 {a : Int} {x : Nat} (ha : a = (x : Int)) (hx : x < 9223372036854775808) : j_lor a 0 = (x : Int) := by
  have h := j_lorN (b := 0) (y := 0) ha rfl hx (by decide)
  rw [Nat.or_zero] at h
  exact h
theorem j_lxor0 {a : Int} {x : Nat} (ha : a = (x : Int)) (hx : x < 9223372036854775808) : j_lxor a 0 = (x : Int) := by
  have h := j_lxorN (b := 0) (y := 0) ha rfl hx (by decide)
  rw [Nat.xor_zero] at h
  exact h
theorem j_63 {p : Nat} (hp : p < 63) : (Int32.ofInt (p : Int)).toInt64 &&& 63 = Int64.ofInt (p : Int) := by
  have h1 : (Int32.ofInt (p : Int)).toInt64 = Int64.ofInt (p : Int) := by
    apply Int64.toInt_inj.mp
    rw [Int32.toInt_toInt64, Int32.toInt_ofInt_of_le (by omega) (by omega), Int64.toInt_ofInt_of_le (by omega) (by omega)]
  rw [h1]
  apply Int64.toBitVec_inj.mp
  rw [Int64.toBitVec_and, j_bvl, show (63 : Int64).toBitVec = BitVec.ofNat 64 63 by decide, ← BitVec.ofNat_and]
  congr 1
  rw [show (63 : Nat) = 2 ^ 6 - 1 by decide, Nat.and_two_pow_sub_one_eq_mod]
  omega
theorem j_sml {p : Nat} (hp : p < 63) : (BitVec.ofNat 64 p).smod 64 = BitVec.ofNat 64 p := by
  have h : ∀ q, q < 63 → (BitVec.ofNat 64 q).smod 64 = BitVec.ofNat 64 q := by decide
  exact h p hp
theorem j_lshl1 {a b : Int} {p : Nat} (ha : a = 1) (hb : b = (p : Int)) (hp : p < 63) : j_lshl a b = ((2 ^ p : Nat) : Int) := by
  subst ha; subst hb
  unfold j_lshl
  rw [j_63 hp]
  apply j_toIl _ (nb_p263 hp)
  rw [Int64.toBitVec_shiftLeft, j_bvl, j_sml hp, show (Int64.ofInt 1).toBitVec = BitVec.ofNat 64 1 by decide]
  rw [BitVec.shiftLeft_eq', BitVec.toNat_ofNat, Nat.mod_eq_of_lt (by omega)]
  apply BitVec.eq_of_toNat_eq
  rw [BitVec.toNat_shiftLeft, BitVec.toNat_ofNat, BitVec.toNat_ofNat, Nat.shiftLeft_eq, Nat.mod_eq_of_lt (by decide : 1 < 2 ^ 64), Nat.one_mul]
theorem lwb_bit {x : Nat} (hx : x ≠ 0) : ∃ k, x.testBit k = true ∧ (∀ i, i < k → x.testBit i = false) ∧ lwb x = 2 ^ k := by
  induction x using Nat.strongRecOn with
  | _ x ih =>
    rcases Nat.mod_two_eq_zero_or_one x with h | h
    · obtain ⟨k, h1, h2, h3⟩ := ih (x / 2) (by omega) (by omega)
      refine ⟨k + 1, by rw [Nat.testBit_succ]; exact h1, ?_, ?_⟩
      · intro i hi
        cases i with
        | zero => rw [Nat.testBit_zero, h]; rfl
        | succ i => rw [Nat.testBit_succ]; exact h2 i (by omega)
      · apply Nat.eq_of_testBit_eq
        intro i
        unfold lwb at h3 ⊢
        rw [ndf_bit]
        cases i with
        | zero => rw [Nat.testBit_zero, h, Nat.testBit_two_pow]; simp
        | succ i =>
          rw [Nat.testBit_succ, Nat.testBit_succ, show (x - 1) / 2 = x / 2 - 1 by omega]
          have := ndf_bit (x / 2) (x / 2 - 1) i
          rw [h3] at this
          rw [← this, Nat.testBit_two_pow, Nat.testBit_two_pow]
          simp
    · refine ⟨0, by rw [Nat.testBit_zero, h]; rfl, fun i hi => by omega, ?_⟩
      apply Nat.eq_of_testBit_eq
      intro i
      unfold lwb
      rw [ndf_bit]
      cases i with
      | zero => rw [Nat.testBit_zero, Nat.testBit_zero, h, show (x - 1) % 2 = 0 by omega]; rfl
      | succ i =>
        rw [Nat.testBit_succ, Nat.testBit_succ, show (x - 1) / 2 = x / 2 by omega, Nat.testBit_two_pow]
        cases (x / 2).testBit i <;> simp
theorem j_lwb {a b : Int} {x : Nat} (ha : a = (x : Int)) (hb : b = -(x : Int)) (hx : x < 9223372036854775808) : j_land a b = ((lwb x : Nat) : Int) := by
  subst ha; subst hb
  apply j_toIl _ (lwb63 hx)
  by_cases h0 : x = 0
  · subst h0
    decide
  have h2 : (Int64.ofInt (-(x : Int))).toBitVec = ~~~ BitVec.ofNat 64 (x - 1) := by
    have h3 : Int64.ofInt (-(x : Int)) = ~~~ Int64.ofInt ((x - 1 : Nat) : Int) := by
      rw [Int64.not_eq_neg_sub, ← Int64.ofInt_neg]
      rw [show (1 : Int64) = Int64.ofInt 1 by rfl, ← Int64.ofInt_sub]
      congr 1
      omega
    rw [h3, Int64.toBitVec_not, j_bvl]
  rw [Int64.toBitVec_and, j_bvl, h2]
  apply BitVec.eq_of_getLsbD_eq
  intro i hi
  unfold lwb
  rw [BitVec.getLsbD_and, BitVec.getLsbD_not, BitVec.getLsbD_ofNat, BitVec.getLsbD_ofNat, BitVec.getLsbD_ofNat, ndf_bit]
  simp [hi]
/-! elimination, as the reference does it -/
def elS (T : Nat → Nat) (r rows : Nat) : Nat → Nat := fun q => if q < rows ∧ ¬ q = r ∧ ¬ T q &&& lwb (T r) = 0 then T q ^^^ T r else T q
def rkT (rows : Nat) (T : Nat → Nat) : Nat → Nat → Nat
  | 0 => T
  | r + 1 => if rkT rows T r r = 0 then rkT rows T r else elS (rkT rows T r) r rows
def rkC (rows : Nat) (T : Nat → Nat) : Nat → Nat
  | 0 => 0
  | r + 1 => rkC rows T r + (if rkT rows T r r = 0 then 0 else 1)
theorem rkT63 {rows : Nat} {T : Nat → Nat} (hT : ∀ q, q < rows → T q < 9223372036854775808) : ∀ r, r ≤ rows → ∀ q, q < rows → rkT rows T r q < 9223372036854775808 := by
  intro r
  induction r with
  | zero => intro _ q hq; exact hT q hq
  | succ r ih =>
    intro hr q hq
    simp only [rkT]
    split
    · exact ih (by omega) q hq
    · unfold elS
      split
      · exact nb_xor63 (ih (by omega) q hq) (ih (by omega) r (by omega))
      · exact ih (by omega) q hq
theorem rkC_le (rows : Nat) (T : Nat → Nat) : ∀ r, rkC rows T r ≤ r := by
  intro r
  induction r with
  | zero => exact Nat.le_refl _
  | succ r ih => simp only [rkC]; split <;> omega
def TabL (M : jM) (rows : Nat) (T : Nat → Nat) : Prop := ∀ q : Nat, q < rows → M 29 (q : Int) = (T q : Int)
set_option maxRecDepth 100000 in
set_option maxHeartbeats 4000000 in
theorem ev_X7_rankOfRows_L39 (rows : Nat) (hr : rows ≤ 128) (T : Nat → Nat) (hT : ∀ q, q < rows → T q < 9223372036854775808) (M : jM) (hM : TabL M rows T) (c r : Nat) (hc : c < 2147483648) (hrr : r < rows) (K0 : ∀ (M3 : jM) (c1 : Ch [29] M M3) (c2 : ∀ j : Nat, j < rows → M3 29 (j : Int) = ((elS (rkT rows T r) r rows j : Nat) : Int)), J none 0 mX7_rankOfRows 92 [(33, 0), (0, ((rows : Nat) : Int)), (0, ((c : Nat) : Int)), (0, ((r : Nat) : Int)), (9, 0), (9, 0), (9, 0)] [] M3 (j_ret mX7_rankOfRows (fun z M' => z = ((rkC rows T rows : Nat) : Int) ∧ Ch [29] M M'))) : ∀ (fu : Nat) (M2 : jM) (q : Nat) (g1 : Ch [29] M M2) (g2 : ∀ j : Nat, j < rows → M2 29 (j : Int) = (((if j < q then elS (rkT rows T r) r rows j else (rkT rows T r) j) : Nat) : Int)) (g3 : q ≤ rows) (hfu : rows - q < fu), J none 0 mX7_rankOfRows 39 [(33, 0), (0, ((rows : Nat) : Int)), (0, ((c : Nat) : Int)), (0, ((r : Nat) : Int)), (1, (((lwb ((rkT rows T r) r)) : Nat) : Int)), (9, 0), (0, ((q : Nat) : Int))] [] M2 (j_ret mX7_rankOfRows (fun z M' => z = ((rkC rows T rows : Nat) : Int) ∧ Ch [29] M M')) := by
  intro fu
  induction fu with
  | zero => intro M2 q g1 g2 g3 hfu; exact absurd hfu (Nat.not_lt_zero _)
  | succ fu ih =>
    intro M2 q g1 g2 g3 hfu
    refine J_iload dX7_rankOfRows_39 rfl ?_
    refine J_iload_n dX7_rankOfRows_41 rfl ?_
    refine J_icmp_ge (tgt := 92) dX7_rankOfRows_42 rfl (j_R (by omega)) (j_R (by omega)) (fun h42 => ?_) (fun h42 => ?_)
    ·
      refine J_unset 4 (L' := [(33, 0), (0, ((rows : Nat) : Int)), (0, ((c : Nat) : Int)), (0, ((r : Nat) : Int)), (9, 0), (9, 0), (0, ((q : Nat) : Int))]) rfl ?_
      refine J_unset 6 (L' := [(33, 0), (0, ((rows : Nat) : Int)), (0, ((c : Nat) : Int)), (0, ((r : Nat) : Int)), (9, 0), (9, 0), (9, 0)]) rfl ?_
      exact K0 _ (by exact g1) (by intro j hj; rw [g2 j hj, if_pos (by omega)])
    ·
      refine J_aload_n dX7_rankOfRows_45 rfl ?_
      refine J_getR dX7_rankOfRows_46 flX7_30 rfl rfl ?_
      refine J_iload dX7_rankOfRows_49 rfl ?_
      refine J_dup2 dX7_rankOfRows_51 rfl rfl ?_
      refine J_lald dX7_rankOfRows_52 rfl (by decide) (by omega) (J_top (v := ((((rkT rows T r) q) : Nat) : Int)) (by rw [g2 q (by omega), if_neg (by omega)]) ?_)
      refine J_iload dX7_rankOfRows_53 rfl ?_
      refine J_iload_n dX7_rankOfRows_55 rfl ?_
      refine J_icmp_eq (tgt := 83) dX7_rankOfRows_56 rfl (j_R (by omega)) (j_R (by omega)) (fun h56 => ?_) (fun h56 => ?_)
      ·
        refine J_lconst0 dX7_rankOfRows_83 ?_
        refine J_lxor dX7_rankOfRows_84 (J_top (v := ((((rkT rows T r) q) : Nat) : Int)) (j_lxor0 rfl (rkT63 hT r (by omega) q (by omega))) ?_)
        refine J_last dX7_rankOfRows_85 rfl (by decide) (by omega) ?_
        refine J_iinc (v := (((q + 1) : Nat) : Int)) (L' := [(33, 0), (0, ((rows : Nat) : Int)), (0, ((c : Nat) : Int)), (0, ((r : Nat) : Int)), (1, (((lwb ((rkT rows T r) r)) : Nat) : Int)), (9, 0), (0, (((q + 1) : Nat) : Int))]) dX7_rankOfRows_86 rfl (by omega) (by decide) rfl rfl ?_
        refine J_goto (tgt := 39) dX7_rankOfRows_89 rfl ?_
        exact ih _ _ (by exact Ch_up (by decide) g1) (by intro j hj; by_cases e : j = q; rw [e, j_up_eq, if_pos (by omega)]; unfold elS; rw [if_neg (by omega)]; rw [j_up_nz (by omega), g2 j hj]; by_cases e2 : j < q; rw [if_pos e2, if_pos (by omega)]; rw [if_neg e2, if_neg (by omega)]) (by omega) (by omega)
      ·
        refine J_aload_n dX7_rankOfRows_59 rfl ?_
        refine J_getR dX7_rankOfRows_60 flX7_30 rfl rfl ?_
        refine J_iload dX7_rankOfRows_63 rfl ?_
        refine J_lald dX7_rankOfRows_65 rfl (by decide) (by omega) (J_top (v := ((((rkT rows T r) q) : Nat) : Int)) (by rw [g2 q (by omega), if_neg (by omega)]) ?_)
        refine J_lload dX7_rankOfRows_66 rfl ?_
        refine J_land dX7_rankOfRows_68 (J_top (v := (((((rkT rows T r) q) &&& (lwb ((rkT rows T r) r))) : Nat) : Int)) (j_landN rfl rfl (rkT63 hT r (by omega) q (by omega)) (lwb63 (rkT63 hT r (by omega) r (by omega)))) ?_)
        refine J_lconst0 dX7_rankOfRows_69 ?_
        refine J_lcmp dX7_rankOfRows_70 (j_R63 (nb_and (rkT63 hT r (by omega) q (by omega)))) (by decide) (J_top (v := ((Bool.toNat (decide (¬ (((rkT rows T r) q) &&& (lwb ((rkT rows T r) r))) = 0)) : Nat) : Int)) (j_cmp0 _) ?_)
        refine J_ifb_eq (tgt := 83) dX7_rankOfRows_71 rfl (fun h71 => ?_) (fun h71 => ?_)
        ·
          refine J_lconst0 dX7_rankOfRows_83 ?_
          refine J_lxor dX7_rankOfRows_84 (J_top (v := ((((rkT rows T r) q) : Nat) : Int)) (j_lxor0 rfl (rkT63 hT r (by omega) q (by omega))) ?_)
          refine J_last dX7_rankOfRows_85 rfl (by decide) (by omega) ?_
          refine J_iinc (v := (((q + 1) : Nat) : Int)) (L' := [(33, 0), (0, ((rows : Nat) : Int)), (0, ((c : Nat) : Int)), (0, ((r : Nat) : Int)), (1, (((lwb ((rkT rows T r) r)) : Nat) : Int)), (9, 0), (0, (((q + 1) : Nat) : Int))]) dX7_rankOfRows_86 rfl (by omega) (by decide) rfl rfl ?_
          refine J_goto (tgt := 39) dX7_rankOfRows_89 rfl ?_
          exact ih _ _ (by exact Ch_up (by decide) g1) (by intro j hj; by_cases e : j = q; rw [e, j_up_eq, if_pos (by omega)]; unfold elS; rw [if_neg (fun w => w.2.2 (of_decide_eq_false h71 |> Decidable.not_not.mp))]; rw [j_up_nz (by omega), g2 j hj]; by_cases e2 : j < q; rw [if_pos e2, if_pos (by omega)]; rw [if_neg e2, if_neg (by omega)]) (by omega) (by omega)
        ·
          refine J_aload_n dX7_rankOfRows_74 rfl ?_
          refine J_getR dX7_rankOfRows_75 flX7_30 rfl rfl ?_
          refine J_iload_n dX7_rankOfRows_78 rfl ?_
          refine J_lald dX7_rankOfRows_79 rfl (by decide) (by omega) (J_top (v := ((((rkT rows T r) r) : Nat) : Int)) (by rw [g2 r (by omega)]; split <;> simp [elS]) ?_)
          refine J_goto (tgt := 84) dX7_rankOfRows_80 rfl ?_
          refine J_lxor dX7_rankOfRows_84 (J_top (v := (((((rkT rows T r) q) ^^^ ((rkT rows T r) r)) : Nat) : Int)) (j_lxorN rfl rfl (rkT63 hT r (by omega) q (by omega)) (rkT63 hT r (by omega) r (by omega))) ?_)
          refine J_last dX7_rankOfRows_85 rfl (by decide) (by omega) ?_
          refine J_iinc (v := (((q + 1) : Nat) : Int)) (L' := [(33, 0), (0, ((rows : Nat) : Int)), (0, ((c : Nat) : Int)), (0, ((r : Nat) : Int)), (1, (((lwb ((rkT rows T r) r)) : Nat) : Int)), (9, 0), (0, (((q + 1) : Nat) : Int))]) dX7_rankOfRows_86 rfl (by omega) (by decide) rfl rfl ?_
          refine J_goto (tgt := 39) dX7_rankOfRows_89 rfl ?_
          exact ih _ _ (by exact Ch_up (by decide) g1) (by intro j hj; by_cases e : j = q; rw [e, j_up_eq, if_pos (by omega)]; unfold elS; rw [if_pos ⟨by omega, by omega, of_decide_eq_true h71⟩]; rw [j_up_nz (by omega), g2 j hj]; by_cases e2 : j < q; rw [if_pos e2, if_pos (by omega)]; rw [if_neg e2, if_neg (by omega)]) (by omega) (by omega)
set_option maxRecDepth 100000 in
set_option maxHeartbeats 4000000 in
theorem ev_X7_rankOfRows_L4 (rows : Nat) (hr : rows ≤ 128) (T : Nat → Nat) (hT : ∀ q, q < rows → T q < 9223372036854775808) (M : jM) (hM : TabL M rows T)  : ∀ (fu : Nat) (M1 : jM) (c r : Nat) (f1 : Ch [29] M M1) (f2 : TabL M1 rows (rkT rows T r)) (f3 : c = rkC rows T r) (f4 : r ≤ rows) (hfu : rows - r < fu), J none 0 mX7_rankOfRows 4 [(33, 0), (0, ((rows : Nat) : Int)), (0, ((c : Nat) : Int)), (0, ((r : Nat) : Int)), (9, 0), (9, 0), (9, 0)] [] M1 (j_ret mX7_rankOfRows (fun z M' => z = ((rkC rows T rows : Nat) : Int) ∧ Ch [29] M M')) := by
  intro fu
  induction fu with
  | zero => intro M1 c r f1 f2 f3 f4 hfu; exact absurd hfu (Nat.not_lt_zero _)
  | succ fu ih =>
    intro M1 c r f1 f2 f3 f4 hfu
    refine J_iload_n dX7_rankOfRows_4 rfl ?_
    refine J_iload_n dX7_rankOfRows_5 rfl ?_
    refine J_icmp_ge (tgt := 101) dX7_rankOfRows_6 rfl (j_R (by omega)) (j_R (by omega)) (fun h6 => ?_) (fun h6 => ?_)
    ·
      refine J_iload_n dX7_rankOfRows_101 rfl ?_
      refine J_ireturn dX7_rankOfRows_102 rfl ?_
      have : r = rows := by omega
      subst this
      exact ⟨by rw [f3], f1⟩
    ·
      refine J_aload_n dX7_rankOfRows_9 rfl ?_
      refine J_getR dX7_rankOfRows_10 flX7_30 rfl rfl ?_
      refine J_iload_n dX7_rankOfRows_13 rfl ?_
      refine J_lald dX7_rankOfRows_14 rfl (by decide) (by omega) (J_top (v := ((((rkT rows T r) r) : Nat) : Int)) (f2 r (by omega)) ?_)
      refine J_lconst0 dX7_rankOfRows_15 ?_
      refine J_lcmp dX7_rankOfRows_16 (j_R63 (rkT63 hT r (by omega) r (by omega))) (by decide) (J_top (v := ((Bool.toNat (decide (¬ ((rkT rows T r) r) = 0)) : Nat) : Int)) (j_cmp0 _) ?_)
      refine J_ifb_eq (tgt := 95) dX7_rankOfRows_17 rfl (fun h17 => ?_) (fun h17 => ?_)
      ·
        refine J_iinc (v := (((r + 1) : Nat) : Int)) (L' := [(33, 0), (0, ((rows : Nat) : Int)), (0, ((c : Nat) : Int)), (0, (((r + 1) : Nat) : Int)), (9, 0), (9, 0), (9, 0)]) dX7_rankOfRows_95 rfl (by omega) (by decide) rfl rfl ?_
        refine J_goto (tgt := 4) dX7_rankOfRows_98 rfl ?_
        exact ih _ _ _ (by exact f1) (by have h9 : rkT rows T r r = 0 := (by simpa using h17); intro q hq; rw [f2 q hq]; simp only [rkT]; rw [if_pos h9]) (by have h9 : rkT rows T r r = 0 := (by simpa using h17); simp only [rkC]; rw [if_pos h9, f3]; rfl) (by omega) (by omega)
      ·
        refine J_aload_n dX7_rankOfRows_20 rfl ?_
        refine J_getR dX7_rankOfRows_21 flX7_30 rfl rfl ?_
        refine J_iload_n dX7_rankOfRows_24 rfl ?_
        refine J_lald dX7_rankOfRows_25 rfl (by decide) (by omega) (J_top (v := ((((rkT rows T r) r) : Nat) : Int)) (f2 r (by omega)) ?_)
        refine J_aload_n dX7_rankOfRows_26 rfl ?_
        refine J_getR dX7_rankOfRows_27 flX7_30 rfl rfl ?_
        refine J_iload_n dX7_rankOfRows_30 rfl ?_
        refine J_lald dX7_rankOfRows_31 rfl (by decide) (by omega) (J_top (v := ((((rkT rows T r) r) : Nat) : Int)) (f2 r (by omega)) ?_)
        refine J_lneg dX7_rankOfRows_32 ?_
        refine J_land dX7_rankOfRows_33 (J_top (v := (((lwb ((rkT rows T r) r)) : Nat) : Int)) (j_lwb rfl rfl (rkT63 hT r (by omega) r (by omega))) ?_)
        refine J_lstore (L' := [(33, 0), (0, ((rows : Nat) : Int)), (0, ((c : Nat) : Int)), (0, ((r : Nat) : Int)), (1, (((lwb ((rkT rows T r) r)) : Nat) : Int)), (9, 0), (9, 0)]) dX7_rankOfRows_34 (by decide) rfl rfl ?_
        refine J_iconst dX7_rankOfRows_36 ?_
        refine J_istore (L' := [(33, 0), (0, ((rows : Nat) : Int)), (0, ((c : Nat) : Int)), (0, ((r : Nat) : Int)), (1, (((lwb ((rkT rows T r) r)) : Nat) : Int)), (9, 0), (0, 0)]) dX7_rankOfRows_37 (by decide) rfl rfl ?_
        refine J_eq (L' := [(33, 0), (0, ((rows : Nat) : Int)), (0, ((c : Nat) : Int)), (0, ((r : Nat) : Int)), (1, (((lwb ((rkT rows T r) r)) : Nat) : Int)), (9, 0), (0, ((0 : Nat) : Int))]) rfl rfl rfl ?_
        refine ev_X7_rankOfRows_L39 rows hr T hT M hM c r (by have := rkC_le rows T r; omega) (by omega) (fun M3 c1 c2 => ?_) _ _ _ (by exact f1) (by intro j hj; rw [if_neg (by omega)]; exact f2 j hj) (by omega) (Nat.lt_succ_self _)
        ·
          refine J_iinc (v := (((c + 1) : Nat) : Int)) (L' := [(33, 0), (0, ((rows : Nat) : Int)), (0, (((c + 1) : Nat) : Int)), (0, ((r : Nat) : Int)), (9, 0), (9, 0), (9, 0)]) dX7_rankOfRows_92 rfl (by omega) (by decide) rfl rfl ?_
          refine J_iinc (v := (((r + 1) : Nat) : Int)) (L' := [(33, 0), (0, ((rows : Nat) : Int)), (0, (((c + 1) : Nat) : Int)), (0, (((r + 1) : Nat) : Int)), (9, 0), (9, 0), (9, 0)]) dX7_rankOfRows_95 rfl (by omega) (by decide) rfl rfl ?_
          refine J_goto (tgt := 4) dX7_rankOfRows_98 rfl ?_
          exact ih _ _ _ (by exact c1) (by have h9 : ¬ rkT rows T r r = 0 := of_decide_eq_true h17; intro q hq; rw [c2 q hq]; simp only [rkT]; rw [if_neg h9]) (by have h9 : ¬ rkT rows T r r = 0 := of_decide_eq_true h17; simp only [rkC]; rw [if_neg h9, f3]) (by omega) (by omega)
set_option maxRecDepth 100000 in
set_option maxHeartbeats 4000000 in
theorem ev_X7_rankOfRows (rows : Nat) (hr : rows ≤ 128) (T : Nat → Nat) (hT : ∀ q, q < rows → T q < 9223372036854775808) (M : jM) (hM : TabL M rows T) : Ev 0 mX7_rankOfRows [(33, 0), (0, ((rows : Nat) : Int))] M (fun z M' => z = ((rkC rows T rows : Nat) : Int) ∧ Ch [29] M M') := by
  refine Ev_of (by decide +kernel) (Nat.le_of_ble_eq_true rfl) (L := [(33, 0), (0, ((rows : Nat) : Int)), (9, 0), (9, 0), (9, 0), (9, 0), (9, 0)]) rfl ?_
  refine J_iconst dX7_rankOfRows_0 ?_
  refine J_istore_n (L' := [(33, 0), (0, ((rows : Nat) : Int)), (0, 0), (9, 0), (9, 0), (9, 0), (9, 0)]) dX7_rankOfRows_1 (by decide) rfl rfl ?_
  refine J_iconst dX7_rankOfRows_2 ?_
  refine J_istore_n (L' := [(33, 0), (0, ((rows : Nat) : Int)), (0, 0), (0, 0), (9, 0), (9, 0), (9, 0)]) dX7_rankOfRows_3 (by decide) rfl rfl ?_
  refine J_eq (L' := [(33, 0), (0, ((rows : Nat) : Int)), (0, ((0 : Nat) : Int)), (0, ((0 : Nat) : Int)), (9, 0), (9, 0), (9, 0)]) rfl rfl rfl ?_
  exact ev_X7_rankOfRows_L4 rows hr T hT M hM  _ _ _ _ (by exact Ch_rf) (by exact hM) (by rfl) (by omega) (Nat.lt_succ_self _)
