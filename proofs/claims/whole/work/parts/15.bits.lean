/-! numbers: what the rules' bit functions are on natural numbers -/
def ndf (a b : Nat) : Nat := a ^^^ (a &&& b)
theorem ndf_bit (a b i : Nat) : (ndf a b).testBit i = (a.testBit i && !b.testBit i) := by
  unfold ndf
  rw [Nat.testBit_xor, Nat.testBit_and]
  cases a.testBit i <;> cases b.testBit i <;> rfl
theorem nb_and {a b n : Nat} (h : a < n) : a &&& b < n := Nat.lt_of_le_of_lt Nat.and_le_left h
theorem nb_and2 {a b n : Nat} (h : b < n) : a &&& b < n := Nat.lt_of_le_of_lt Nat.and_le_right h
theorem nb_or {a b : Nat} (h1 : a < 2147483648) (h2 : b < 2147483648) : a ||| b < 2147483648 := Nat.or_lt_two_pow (n := 31) h1 h2
theorem nb_xor {a b : Nat} (h1 : a < 2147483648) (h2 : b < 2147483648) : a ^^^ b < 2147483648 := Nat.xor_lt_two_pow (n := 31) h1 h2
theorem ndf_le (a b : Nat) : ndf a b ≤ a := by
  have h : ndf a b = a &&& ndf a b := by
    apply Nat.eq_of_testBit_eq
    intro i
    rw [Nat.testBit_and, ndf_bit]
    cases a.testBit i <;> simp
  rw [h]
  exact Nat.and_le_left
theorem nb_ndf {a b n : Nat} (h : a < n) : ndf a b < n := Nat.lt_of_le_of_lt (ndf_le a b) h
theorem nb_shr {a k n : Nat} (h : a < n) : a >>> k < n := Nat.lt_of_le_of_lt (by rw [Nat.shiftRight_eq_div_pow]; exact Nat.div_le_self _ _) h
theorem nb_p2 {p : Nat} (h : p < 31) : 2 ^ p < 2147483648 := Nat.pow_lt_pow_right (a := 2) (by decide) h
theorem nb_bool (b : Bool) : b.toNat < 2147483648 := by cases b <;> decide
theorem j_ofN {x : Nat} (h : x < 2147483648) : (Int32.ofInt (x : Int)).toInt = x := j_oi (by omega)
theorem j_bv {x : Nat} : (Int32.ofInt (x : Int)).toBitVec = BitVec.ofNat 32 x := by
  show BitVec.ofInt 32 (x : Int) = _
  exact BitVec.ofInt_natCast 32 x
theorem j_toI {v : Int32} {n : Nat} (hv : v.toBitVec = BitVec.ofNat 32 n) (hn : n < 2147483648) : v.toInt = (n : Int) := by
  have : v = Int32.ofInt (n : Int) := Int32.toBitVec_inj.mp (by rw [hv, j_bv])
  rw [this, j_ofN hn]
theorem j_andN {a b : Int} {x y : Nat} (ha : a = (x : Int)) (hb : b = (y : Int)) (hx : x < 2147483648) (hy : y < 2147483648) : j_and a b = ((x &&& y : Nat) : Int) := by
  subst ha; subst hb
  apply j_toI _ (nb_and hx)
  rw [Int32.toBitVec_and, j_bv, j_bv, BitVec.ofNat_and]
theorem j_orN {a b : Int} {x y : Nat} (ha : a = (x : Int)) (hb : b = (y : Int)) (hx : x < 2147483648) (hy : y < 2147483648) : j_or a b = ((x ||| y : Nat) : Int) := by
  subst ha; subst hb
  apply j_toI _ (nb_or hx hy)
  rw [Int32.toBitVec_or, j_bv, j_bv, BitVec.ofNat_or]
theorem j_xorN {a b : Int} {x y : Nat} (ha : a = (x : Int)) (hb : b = (y : Int)) (hx : x < 2147483648) (hy : y < 2147483648) : j_xor a b = ((x ^^^ y : Nat) : Int) := by
  subst ha; subst hb
  apply j_toI _ (nb_xor hx hy)
  rw [Int32.toBitVec_xor, j_bv, j_bv, BitVec.ofNat_xor]
theorem j_notN {a : Int} {x : Nat} (ha : a = (x : Int)) (hx : x < 2147483648) : j_xor a (-1) = -(x : Int) - 1 := by
  subst ha
  unfold j_xor
  have h1 : Int32.ofInt (x : Int) ^^^ Int32.ofInt (-1) = ~~~ Int32.ofInt (x : Int) := by
    apply Int32.toBitVec_inj.mp
    rw [Int32.toBitVec_xor, Int32.toBitVec_not]
    rw [show (Int32.ofInt (-1)).toBitVec = BitVec.allOnes 32 by decide]
    rw [BitVec.xor_allOnes]
  rw [h1, Int32.not_eq_neg_sub]
  have h2 : -Int32.ofInt (x : Int) - 1 = Int32.ofInt (-(x : Int) - 1) := by
    rw [Int32.ofInt_sub, Int32.ofInt_neg]; rfl
  rw [h2, j_oi (by omega)]
theorem j_bvn {x : Nat} : (Int32.ofInt (-(x : Int) - 1)).toBitVec = ~~~ BitVec.ofNat 32 x := by
  have h2 : Int32.ofInt (-(x : Int) - 1) = ~~~ Int32.ofInt (x : Int) := by
    rw [Int32.not_eq_neg_sub, Int32.ofInt_sub, Int32.ofInt_neg]; rfl
  rw [h2, Int32.toBitVec_not, j_bv]
theorem j_ndfN {a b : Int} {x y : Nat} (ha : a = (x : Int)) (hb : b = -(y : Int) - 1) (hx : x < 2147483648) : j_and a b = ((ndf x y : Nat) : Int) := by
  subst ha; subst hb
  apply j_toI _ (nb_ndf hx)
  rw [Int32.toBitVec_and, j_bv, j_bvn]
  apply BitVec.eq_of_getLsbD_eq
  intro i hi
  rw [BitVec.getLsbD_and, BitVec.getLsbD_not, BitVec.getLsbD_ofNat, BitVec.getLsbD_ofNat, BitVec.getLsbD_ofNat, ndf_bit]
  simp [hi]
theorem j_31 {p : Nat} (hp : p < 31) : Int32.ofInt (p : Int) &&& 31 = Int32.ofInt (p : Int) := by
  apply Int32.toBitVec_inj.mp
  rw [Int32.toBitVec_and, j_bv, show (31 : Int32).toBitVec = BitVec.ofNat 32 31 by decide, ← BitVec.ofNat_and]
  congr 1
  rw [show (31 : Nat) = 2 ^ 5 - 1 by decide, Nat.and_two_pow_sub_one_eq_mod]
  omega
theorem j_sm {p : Nat} (hp : p < 31) : (BitVec.ofNat 32 p).smod 32 = BitVec.ofNat 32 p := by
  have h : ∀ q, q < 31 → (BitVec.ofNat 32 q).smod 32 = BitVec.ofNat 32 q := by decide
  exact h p hp
theorem j_shlN {a b : Int} {x p : Nat} (ha : a = (x : Int)) (hb : b = (p : Int)) (hp : p < 31) (hx : x * 2 ^ p < 2147483648) : j_shl a b = ((x * 2 ^ p : Nat) : Int) := by
  subst ha; subst hb
  unfold j_shl
  rw [j_31 hp]
  apply j_toI _ hx
  rw [Int32.toBitVec_shiftLeft, j_bv, j_bv, j_sm hp]
  rw [BitVec.shiftLeft_eq', BitVec.toNat_ofNat, Nat.mod_eq_of_lt (by omega)]
  apply BitVec.eq_of_toNat_eq
  rw [BitVec.toNat_shiftLeft, BitVec.toNat_ofNat, BitVec.toNat_ofNat, Nat.shiftLeft_eq]
  rw [Nat.mod_mul_mod]
theorem j_shl1 {a b : Int} {p : Nat} (ha : a = 1) (hb : b = (p : Int)) (hp : p < 31) : j_shl a b = ((2 ^ p : Nat) : Int) := by
  rw [j_shlN (x := 1) ha hb hp (by have := nb_p2 hp; omega), Nat.one_mul]
theorem j_shrN {a b : Int} {x p : Nat} (ha : a = (x : Int)) (hb : b = (p : Int)) (hx : x < 2147483648) (hp : p < 31) : j_shr a b = ((x >>> p : Nat) : Int) := by
  subst ha; subst hb
  unfold j_shr
  rw [j_31 hp]
  apply j_toI _ (nb_shr hx)
  rw [Int32.toBitVec_shiftRight, j_bv, j_bv, j_sm hp]
  apply BitVec.eq_of_toNat_eq
  rw [BitVec.sshiftRight_eq', BitVec.toNat_ofNat, Nat.mod_eq_of_lt (by omega), BitVec.sshiftRight_eq_of_msb_false, BitVec.toNat_ushiftRight, BitVec.toNat_ofNat, BitVec.toNat_ofNat, Nat.mod_eq_of_lt (by omega), Nat.mod_eq_of_lt (by have := nb_shr (k := p) hx; omega)]
  rw [BitVec.msb_eq_decide, BitVec.toNat_ofNat, Nat.mod_eq_of_lt (by omega)]
  simp
  omega
theorem bit_one (x k : Nat) : (x >>> k) &&& 1 = (x.testBit k).toNat := by
  rw [Nat.and_one_is_mod, Nat.testBit_eq_decide_div_mod_eq, Nat.shiftRight_eq_div_pow]
  rcases Nat.mod_two_eq_zero_or_one (x / 2 ^ k) with h | h <;> simp [h]
theorem j_divN {a b : Int} {x y : Nat} (ha : a = (x : Int)) (hb : b = (y : Int)) (hx : x < 2147483648) (hy : y < 2147483648) : j_div a b = ((x / y : Nat) : Int) := by
  subst ha; subst hb
  unfold j_div
  rw [Int32.toInt_div, j_ofN hx, j_ofN hy, ← Int.ofNat_tdiv]
  have h : x / y < 2147483648 := Nat.lt_of_le_of_lt (Nat.div_le_self _ _) hx
  generalize x / y = q at h ⊢
  rw [Int.bmod_eq_of_le (by omega) (by omega)]
theorem j_remN {a b : Int} {x y : Nat} (ha : a = (x : Int)) (hb : b = (y : Int)) (hx : x < 2147483648) (hy : y < 2147483648) : j_rem a b = ((x % y : Nat) : Int) := by
  subst ha; subst hb
  unfold j_rem
  have h1 : Int32.ofInt (x : Int) / Int32.ofInt (y : Int) = Int32.ofInt ((x / y : Nat) : Int) := by
    rw [← j_divN (a := x) (b := y) rfl rfl hx hy]
    unfold j_div
    rw [Int32.ofInt_toInt]
  rw [h1, ← Int32.ofInt_mul, ← Int32.ofInt_sub, j_oi]
  · have := Nat.div_add_mod x y
    have h2 : ((x / y : Nat) : Int) * (y : Int) = ((y * (x / y) : Nat) : Int) := by rw [Int.natCast_mul, Int.mul_comm]
    rw [h2]
    omega
  · have h3 := Nat.div_mul_le_self x y
    have h2 : ((x / y : Nat) : Int) * (y : Int) = ((x / y * y : Nat) : Int) := by rw [Int.natCast_mul]
    rw [h2]
    omega
