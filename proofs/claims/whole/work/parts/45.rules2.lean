section JRULES2
variable {sc : Option (Nat × (Nat → Int))} {d : Nat} {mi : jI} {pc : Nat} {L L' st : List jV} {M : jM} {X : jX}
theorem J_ldc2d {n : Int} {idx : Nat} (hd : decode mi.2.1 pc = .ok (.ldc2_w idx, 3)) (hc : Cond.constantDouble mi.1.cls idx (UInt64.ofNat n.toNat) ∈ j_all) (k : J sc d mi (pc + 3) L ((3, n) :: st) M X) : J sc d mi pc L (st) M X := by
  intro p l e R s m args below meth c cells slots Q E A F hsc hX H locs ls hH hL
  exact lv_ldc2d F.1 F.2.1 F.2.2.2.1 (F.2.2.2.2.1 _ hc) hd (k p l e R s m args below meth c cells slots Q E A F hsc hX H locs ls hH hL)
def j_i2d (a : Int) : Int := ((FP.i2d (Int32.ofInt a)).toNat : Int)
def j_ddiv (a b : Int) : Int := ((FP.ddiv (UInt64.ofNat a.toNat) (UInt64.ofNat b.toNat)).toNat : Int)
theorem j_u64 (x : UInt64) : UInt64.ofNat ((x.toNat : Int)).toNat = x := by rw [Int.toNat_natCast]; exact UInt64.ofNat_toNat
theorem j_cv_d {E : jE} {x : UInt64} : j_cv E (3, (x.toNat : Int)) = .double x := by
  show Value.double (UInt64.ofNat ((x.toNat : Int)).toNat) = _
  rw [j_u64]
theorem J_i2d {a : Int} (hd : decode mi.2.1 pc = .ok (.i2d, 1)) (k : J sc d mi (pc + 1) L ((3, j_i2d a) :: st) M X) : J sc d mi pc L ((0, a) :: st) M X := by
  intro p l e R s m args below meth c cells slots Q E A F hsc hX H locs ls hH hL
  have h := k p l e R s m args below meth c cells slots Q E A F hsc hX H locs ls hH hL
  rw [List.map_cons, show j_cv E (3, j_i2d a) = .double (FP.i2d (Int32.ofInt a)) from j_cv_d] at h
  exact lv_i2d F.1 F.2.1 hd h
theorem J_ddiv {a b : Int} (hd : decode mi.2.1 pc = .ok (.ddiv, 1)) (hne : vf_n64 (FP.ddiv (UInt64.ofNat a.toNat) (UInt64.ofNat b.toNat))) (k : J sc d mi (pc + 1) L ((3, j_ddiv a b) :: st) M X) : J sc d mi pc L ((3, b) :: (3, a) :: st) M X := by
  intro p l e R s m args below meth c cells slots Q E A F hsc hX H locs ls hH hL
  have h := k p l e R s m args below meth c cells slots Q E A F hsc hX H locs ls hH hL
  rw [List.map_cons, show j_cv E (3, j_ddiv a b) = .double (FP.ddiv (UInt64.ofNat a.toNat) (UInt64.ofNat b.toNat)) from j_cv_d] at h
  exact lv_ddiv F.1 F.2.1 hd hne h
theorem J_dcmp {a b z : Int} {op : CmpOp} (hd : decode mi.2.1 pc = .ok (.dcmp op, 1)) (hz : Op.cmpValue (FP.dcmp (UInt64.ofNat a.toNat) (UInt64.ofNat b.toNat)) op = Int32.ofInt z) (k : J sc d mi (pc + 1) L ((0, z) :: st) M X) : J sc d mi pc L ((3, b) :: (3, a) :: st) M X := by
  intro p l e R s m args below meth c cells slots Q E A F hsc hX H locs ls hH hL
  have h := k p l e R s m args below meth c cells slots Q E A F hsc hX H locs ls hH hL
  rw [List.map_cons, show j_cv E (0, z) = .int (Op.cmpValue (FP.dcmp (UInt64.ofNat a.toNat) (UInt64.ofNat b.toNat)) op) by rw [hz]; rfl] at h
  exact lv_dcmp F.1 F.2.1 hd h
end JRULES2
def dOK (s n : Nat) : Bool := decide ((FP.ddiv (UInt64.ofNat (j_i2d (s : Int)).toNat) (UInt64.ofNat (j_i2d (n : Int)).toNat)) &&& 0x7fffffffffffffff ≤ 0x7ff0000000000000)
theorem dOK_all : ∀ s, s < 61 → ∀ n, n < 12 → dOK s (n + 1) = true := by decide +kernel
def dEQ (r : UInt64) (op : CmpOp) : Bool := decide (Op.cmpValue (FP.dcmp r r) op = 0)
theorem dEQ_all : ∀ s : Nat, s < 61 → ∀ n : Nat, n < 12 → (dEQ (FP.ddiv (UInt64.ofNat (j_i2d (s : Int)).toNat) (UInt64.ofNat (j_i2d ((n + 1 : Nat) : Int)).toNat)) .l && dEQ (FP.ddiv (UInt64.ofNat (j_i2d (s : Int)).toNat) (UInt64.ofNat (j_i2d ((n + 1 : Nat) : Int)).toNat)) .g) = true := by decide +kernel
theorem dEQ_m1 : (dEQ (UInt64.ofNat (13830554455654793216 : Int).toNat) .l && dEQ (UInt64.ofNat (13830554455654793216 : Int).toNat) .g) = true := by decide +kernel
theorem kdX7_284 : Cond.constantDouble RX7 284 (UInt64.ofNat (13830554455654793216 : Int).toNat) ∈ j_all := by
  decide +kernel
theorem kdX6_205 : Cond.constantDouble RX6 205 (UInt64.ofNat (13830554455654793216 : Int).toNat) ∈ j_all := by
  decide +kernel
theorem j_lwbI {a b : Int} {x : Nat} (ha : a = (x : Int)) (hb : b = -(x : Int)) (hx : x < 2147483648) : j_and a b = ((lwb x : Nat) : Int) := by
  subst ha; subst hb
  apply j_toI _ (nb_ndf hx)
  by_cases h0 : x = 0
  · subst h0
    decide
  have h2 : (Int32.ofInt (-(x : Int))).toBitVec = ~~~ BitVec.ofNat 32 (x - 1) := by
    have h3 : Int32.ofInt (-(x : Int)) = ~~~ Int32.ofInt ((x - 1 : Nat) : Int) := by
      rw [Int32.not_eq_neg_sub, ← Int32.ofInt_neg]
      rw [show (1 : Int32) = Int32.ofInt 1 by rfl, ← Int32.ofInt_sub]
      congr 1
      omega
    rw [h3, Int32.toBitVec_not, j_bv]
  rw [Int32.toBitVec_and, j_bv, h2]
  apply BitVec.eq_of_getLsbD_eq
  intro i hi
  rw [BitVec.getLsbD_and, BitVec.getLsbD_not, BitVec.getLsbD_ofNat, BitVec.getLsbD_ofNat, BitVec.getLsbD_ofNat, ndf_bit]
  simp [hi]
