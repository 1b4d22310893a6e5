section JRULES
variable {sc : Option (Nat × (Nat → Int))} {d : Nat} {mi : jI} {pc : Nat} {L L' st : List jV} {M : jM} {X : jX}
theorem J_exit (h : X pc L st M) : J sc d mi pc L st M X := by
  intro p l e R s m args below meth c cells slots Q E A F hsc hX H locs ls hH hL
  exact hX pc L st M H locs ls h hH hL
/-- further on, from each place that the first stretch may end at -/
theorem J_seq {Y : jX} (h : J sc d mi pc L st M Y) (k : ∀ pc' L' st' M', Y pc' L' st' M' → J sc d mi pc' L' st' M' X) : J sc d mi pc L st M X := by
  intro p l e R s m args below meth c cells slots Q E A F hsc hX
  exact h p l e R s m args below meth c cells slots Q E A F hsc (fun pc' L' st' M' H' locs' ls' hY hH' hL' => k pc' L' st' M' hY p l e R s m args below meth c cells slots Q E A F hsc hX H' locs' ls' hH' hL')
theorem J_mono {Y : jX} (h : J sc d mi pc L st M Y) (k : ∀ pc' L' st' M', Y pc' L' st' M' → X pc' L' st' M') : J sc d mi pc L st M X := J_seq h (fun _ _ _ _ hy => J_exit (k _ _ _ _ hy))
theorem J_deep {d' : Nat} (hd : d' ≤ d) (h : J sc d' mi pc L st M X) : J sc d mi pc L st M X := by
  intro p l e R s m args below meth c cells slots Q E A F hsc hX
  obtain ⟨f1, f2, f3, f4, f5, f6, f7, f8, f9, f10⟩ := F
  exact h p l e R s m args below meth c cells slots Q E A ⟨f1, f2, f3, f4, f5, f6, f7, by omega, by omega, f10⟩ hsc hX
theorem J_forget (hs : ∀ (k : Nat) (v : jV), L'[k]? = some v → v.1 = 9 ∨ L[k]? = some v) (h : J sc d mi pc L' st M X) : J sc d mi pc L st M X := by
  intro p l e R s m args below meth c cells slots Q E A F hsc hX H locs ls hH hL
  exact h p l e R s m args below meth c cells slots Q E A F hsc hX H locs ls hH (j_L_forget hL hs)
theorem J_eq {st' : List jV} {M' : jM} (h1 : L = L') (h2 : st = st') (h3 : M = M') (h : J sc d mi pc L' st' M' X) : J sc d mi pc L st M X := by
  subst h1; subst h2; subst h3; exact h
theorem J_iconst {n : Int} (hd : decode mi.2.1 pc = .ok (.iconst n, 1)) (k : J sc d mi (pc + 1) L ((0, n) :: st) M X) : J sc d mi pc L (st) M X := by
  intro p l e R s m args below meth c cells slots Q E A F hsc hX H locs ls hH hL
  exact lv_iconst F.1 F.2.1 hd rfl (k p l e R s m args below meth c cells slots Q E A F hsc hX H locs ls hH hL)
theorem J_bipush {n : Int} (hd : decode mi.2.1 pc = .ok (.bipush n, 2)) (hv : (Int8.ofInt n).toInt32 = Int32.ofInt n) (k : J sc d mi (pc + 2) L ((0, n) :: st) M X) : J sc d mi pc L (st) M X := by
  intro p l e R s m args below meth c cells slots Q E A F hsc hX H locs ls hH hL
  exact lv_bipush F.1 F.2.1 hd hv (k p l e R s m args below meth c cells slots Q E A F hsc hX H locs ls hH hL)
theorem J_sipush {n : Int} (hd : decode mi.2.1 pc = .ok (.sipush n, 3)) (hv : (Int16.ofInt n).toInt32 = Int32.ofInt n) (k : J sc d mi (pc + 3) L ((0, n) :: st) M X) : J sc d mi pc L (st) M X := by
  intro p l e R s m args below meth c cells slots Q E A F hsc hX H locs ls hH hL
  exact lv_sipush F.1 F.2.1 hd hv (k p l e R s m args below meth c cells slots Q E A F hsc hX H locs ls hH hL)
theorem J_ldc {n : Int} {idx : Nat} (hd : decode mi.2.1 pc = .ok (.ldc idx, 2)) (hc : Cond.constant mi.1.cls idx (Int32.ofInt n) ∈ j_all) (k : J sc d mi (pc + 2) L ((0, n) :: st) M X) : J sc d mi pc L (st) M X := by
  intro p l e R s m args below meth c cells slots Q E A F hsc hX H locs ls hH hL
  exact lv_ldc F.1 F.2.1 F.2.2.2.1 (F.2.2.2.2.1 _ hc) hd (k p l e R s m args below meth c cells slots Q E A F hsc hX H locs ls hH hL)
theorem J_lconst0  (hd : decode mi.2.1 pc = .ok (.lconst 0, 1)) (k : J sc d mi (pc + 1) L ((1, 0) :: st) M X) : J sc d mi pc L (st) M X := by
  intro p l e R s m args below meth c cells slots Q E A F hsc hX H locs ls hH hL
  exact lv_lconst F.1 F.2.1 hd rfl (k p l e R s m args below meth c cells slots Q E A F hsc hX H locs ls hH hL)
theorem J_lconst1  (hd : decode mi.2.1 pc = .ok (.lconst 1, 1)) (k : J sc d mi (pc + 1) L ((1, 1) :: st) M X) : J sc d mi pc L (st) M X := by
  intro p l e R s m args below meth c cells slots Q E A F hsc hX H locs ls hH hL
  exact lv_lconst F.1 F.2.1 hd rfl (k p l e R s m args below meth c cells slots Q E A F hsc hX H locs ls hH hL)
theorem J_iload {i : Nat} {z : Int} (hd : decode mi.2.1 pc = .ok (.iload i, 2)) (hl : L[i]? = some (0, z)) (k : J sc d mi (pc + 2) L ((0, z) :: st) M X) : J sc d mi pc L (st) M X := by
  intro p l e R s m args below meth c cells slots Q E A F hsc hX H locs ls hH hL
  exact lv_iload F.1 F.2.1 hd (j_L_at hL hl (by simp)) (k p l e R s m args below meth c cells slots Q E A F hsc hX H locs ls hH hL)
theorem J_lload {i : Nat} {z : Int} (hd : decode mi.2.1 pc = .ok (.lload i, 2)) (hl : L[i]? = some (1, z)) (k : J sc d mi (pc + 2) L ((1, z) :: st) M X) : J sc d mi pc L (st) M X := by
  intro p l e R s m args below meth c cells slots Q E A F hsc hX H locs ls hH hL
  exact lv_lload F.1 F.2.1 hd (j_L_at hL hl (by simp)) (k p l e R s m args below meth c cells slots Q E A F hsc hX H locs ls hH hL)
theorem J_dload {i : Nat} {z : Int} (hd : decode mi.2.1 pc = .ok (.dload i, 2)) (hl : L[i]? = some (3, z)) (k : J sc d mi (pc + 2) L ((3, z) :: st) M X) : J sc d mi pc L (st) M X := by
  intro p l e R s m args below meth c cells slots Q E A F hsc hX H locs ls hH hL
  exact lv_dload F.1 F.2.1 hd (j_L_at hL hl (by simp)) (k p l e R s m args below meth c cells slots Q E A F hsc hX H locs ls hH hL)
theorem J_iload_n {i : Fin 4} {z : Int} (hd : decode mi.2.1 pc = .ok (.iload_n i, 1)) (hl : L[i.val]? = some (0, z)) (k : J sc d mi (pc + 1) L ((0, z) :: st) M X) : J sc d mi pc L (st) M X := by
  intro p l e R s m args below meth c cells slots Q E A F hsc hX H locs ls hH hL
  exact lv_iload_n F.1 F.2.1 hd rfl (j_L_at hL hl (by simp)) (k p l e R s m args below meth c cells slots Q E A F hsc hX H locs ls hH hL)
theorem J_lload_n {i : Fin 4} {z : Int} (hd : decode mi.2.1 pc = .ok (.lload_n i, 1)) (hl : L[i.val]? = some (1, z)) (k : J sc d mi (pc + 1) L ((1, z) :: st) M X) : J sc d mi pc L (st) M X := by
  intro p l e R s m args below meth c cells slots Q E A F hsc hX H locs ls hH hL
  exact lv_lload_n F.1 F.2.1 hd rfl (j_L_at hL hl (by simp)) (k p l e R s m args below meth c cells slots Q E A F hsc hX H locs ls hH hL)
theorem J_aload {i k : Nat} {z : Int} (hd : decode mi.2.1 pc = .ok (.aload i, 2)) (hl : L[i]? = some (k + 10, z)) (k : J sc d mi (pc + 2) L ((k + 10, z) :: st) M X) : J sc d mi pc L (st) M X := by
  intro p l e R s m args below meth c cells slots Q E A F hsc hX H locs ls hH hL
  exact lv_aload F.1 F.2.1 hd (j_L_at hL hl (by simp)) (k p l e R s m args below meth c cells slots Q E A F hsc hX H locs ls hH hL)
theorem J_aload_n {i : Fin 4} {k : Nat} {z : Int} (hd : decode mi.2.1 pc = .ok (.aload_n i, 1)) (hl : L[i.val]? = some (k + 10, z)) (k : J sc d mi (pc + 1) L ((k + 10, z) :: st) M X) : J sc d mi pc L (st) M X := by
  intro p l e R s m args below meth c cells slots Q E A F hsc hX H locs ls hH hL
  exact lv_aload_n F.1 F.2.1 hd rfl (j_L_at hL hl (by simp)) (k p l e R s m args below meth c cells slots Q E A F hsc hX H locs ls hH hL)
theorem J_aload_nT {i : Fin 4} {z : Int} (hd : decode mi.2.1 pc = .ok (.aload_n i, 1)) (hl : L[i.val]? = some (4, z)) (k : J sc d mi (pc + 1) L ((4, z) :: st) M X) : J sc d mi pc L (st) M X := by
  intro p l e R s m args below meth c cells slots Q E A F hsc hX H locs ls hH hL
  exact lv_aload_n F.1 F.2.1 hd rfl (j_L_at hL hl (by simp)) (k p l e R s m args below meth c cells slots Q E A F hsc hX H locs ls hH hL)
theorem J_aload_nS {i : Fin 4} {z : Int} (hd : decode mi.2.1 pc = .ok (.aload_n i, 1)) (hl : L[i.val]? = some (5, z)) (k : J sc d mi (pc + 1) L ((5, z) :: st) M X) : J sc d mi pc L (st) M X := by
  intro p l e R s m args below meth c cells slots Q E A F hsc hX H locs ls hH hL
  exact lv_aload_n F.1 F.2.1 hd rfl (j_L_at hL hl (by simp)) (k p l e R s m args below meth c cells slots Q E A F hsc hX H locs ls hH hL)
theorem J_istore {i : Nat} {z : Int} (hd : decode mi.2.1 pc = .ok (.istore i, 2)) (hn : i < mi.2.2.1) (hok : j_ok L i = true) (hl : L.set i (0, z) = L') (k : J sc d mi (pc + 2) L' st M X) : J sc d mi pc L ((0, z) :: st) M X := by
  intro p l e R s m args below meth c cells slots Q E A F hsc hX H locs ls hH hL
  exact lv_istore F.1 F.2.1 hd hL hn rfl (fun ls' hl' => k p l e R s m args below meth c cells slots Q E A F hsc hX H locs ls' hH (j_L_set (v := (0, z)) hok hl hl'))
theorem J_istore_n {i : Fin 4} {z : Int} (hd : decode mi.2.1 pc = .ok (.istore_n i, 1)) (hn : i.val < mi.2.2.1) (hok : j_ok L i.val = true) (hl : L.set i.val (0, z) = L') (k : J sc d mi (pc + 1) L' st M X) : J sc d mi pc L ((0, z) :: st) M X := by
  intro p l e R s m args below meth c cells slots Q E A F hsc hX H locs ls hH hL
  exact lv_istore_n F.1 F.2.1 hd rfl hL hn rfl (fun ls' hl' => k p l e R s m args below meth c cells slots Q E A F hsc hX H locs ls' hH (j_L_set (v := (0, z)) hok hl hl'))
theorem J_lstore {i : Nat} {z : Int} (hd : decode mi.2.1 pc = .ok (.lstore i, 2)) (hn : i + 1 < mi.2.2.1) (hok : j_ok L i = true) (hl : (L.set i (1, z)).set (i + 1) (9, 0) = L') (k : J sc d mi (pc + 2) L' st M X) : J sc d mi pc L ((1, z) :: st) M X := by
  intro p l e R s m args below meth c cells slots Q E A F hsc hX H locs ls hH hL
  exact lv_lstore F.1 F.2.1 hd hL hn rfl (fun ls' hl' => k p l e R s m args below meth c cells slots Q E A F hsc hX H locs ls' hH (j_L_setw (v := (1, z)) hok hl hl'))
theorem J_lstore_n {i : Fin 4} {z : Int} (hd : decode mi.2.1 pc = .ok (.lstore_n i, 1)) (hn : i.val + 1 < mi.2.2.1) (hok : j_ok L i.val = true) (hl : (L.set i.val (1, z)).set (i.val + 1) (9, 0) = L') (k : J sc d mi (pc + 1) L' st M X) : J sc d mi pc L ((1, z) :: st) M X := by
  intro p l e R s m args below meth c cells slots Q E A F hsc hX H locs ls hH hL
  exact lv_lstore_n F.1 F.2.1 hd rfl hL hn rfl (fun ls' hl' => k p l e R s m args below meth c cells slots Q E A F hsc hX H locs ls' hH (j_L_setw (v := (1, z)) hok hl hl'))
theorem J_dstore {i : Nat} {z : Int} (hd : decode mi.2.1 pc = .ok (.dstore i, 2)) (hn : i + 1 < mi.2.2.1) (hok : j_ok L i = true) (hl : (L.set i (3, z)).set (i + 1) (9, 0) = L') (k : J sc d mi (pc + 2) L' st M X) : J sc d mi pc L ((3, z) :: st) M X := by
  intro p l e R s m args below meth c cells slots Q E A F hsc hX H locs ls hH hL
  exact lv_dstore F.1 F.2.1 hd hL hn rfl (fun ls' hl' => k p l e R s m args below meth c cells slots Q E A F hsc hX H locs ls' hH (j_L_setw (v := (3, z)) hok hl hl'))
theorem J_iinc {i : Nat} {n z v : Int} (hd : decode mi.2.1 pc = .ok (.iinc i n, 3)) (hz : L[i]? = some (0, z)) (hv : z + n = v) (hn : i < mi.2.2.1) (hok : j_ok L i = true) (hl : L.set i (0, v) = L') (k : J sc d mi (pc + 3) L' st M X) : J sc d mi pc L st M X := by
  intro p l e R s m args below meth c cells slots Q E A F hsc hX H locs ls hH hL
  have hm := j_as_mem (E := E) L 0 i (0, z) hz (by simp)
  rw [Nat.zero_add] at hm
  obtain ⟨q, hq⟩ := List.getElem?_of_mem hm
  exact lv_iinc (v := Int32.ofInt v) F.1 F.2.1 hd hL hq (by rw [← hv, Int32.ofInt_add]) hn rfl (fun ls' hl' => k p l e R s m args below meth c cells slots Q E A F hsc hX H locs ls' hH (j_L_set (v := (0, v)) hok hl hl'))
def j_and (a b : Int) : Int := (Int32.ofInt a &&& Int32.ofInt b).toInt
def j_or (a b : Int) : Int := (Int32.ofInt a ||| Int32.ofInt b).toInt
def j_xor (a b : Int) : Int := (Int32.ofInt a ^^^ Int32.ofInt b).toInt
def j_shl (a b : Int) : Int := (Int32.ofInt a <<< (Int32.ofInt b &&& 31)).toInt
def j_shr (a b : Int) : Int := (Int32.ofInt a >>> (Int32.ofInt b &&& 31)).toInt
def j_ushr (a b : Int) : Int := ((Int32.ofInt a).toUInt32 >>> ((Int32.ofInt b).toUInt32 &&& Int32.toUInt32 31)).toInt32.toInt
def j_div (a b : Int) : Int := (Int32.ofInt a / Int32.ofInt b).toInt
def j_rem (a b : Int) : Int := (Int32.ofInt a - Int32.ofInt a / Int32.ofInt b * Int32.ofInt b).toInt
def j_land (a b : Int) : Int := (Int64.ofInt a &&& Int64.ofInt b).toInt
def j_lor (a b : Int) : Int := (Int64.ofInt a ||| Int64.ofInt b).toInt
def j_lxor (a b : Int) : Int := (Int64.ofInt a ^^^ Int64.ofInt b).toInt
def j_lshl (a b : Int) : Int := (Int64.ofInt a <<< ((Int32.ofInt b).toInt64 &&& 63)).toInt
def j_lushr (a b : Int) : Int := ((Int64.ofInt a).toUInt64 >>> ((Int32.ofInt b).toInt64.toUInt64 &&& Int64.toUInt64 63)).toInt64.toInt
theorem J_iadd {a b : Int} (hd : decode mi.2.1 pc = .ok (.iadd, 1)) (k : J sc d mi (pc + 1) L ((0, a + b) :: st) M X) : J sc d mi pc L ((0, b) :: (0, a) :: st) M X := by
  intro p l e R s m args below meth c cells slots Q E A F hsc hX H locs ls hH hL
  refine lv_iadd (x := Int32.ofInt a) (y := Int32.ofInt b) F.1 F.2.1 hd ?_
  have hk := k p l e R s m args below meth c cells slots Q E A F hsc hX H locs ls hH hL
  have e9 : j_cv E (0, a + b) = .int (Int32.ofInt a + Int32.ofInt b) := by
    show Value.int (Int32.ofInt _) = _
    first | rw [Int32.ofInt_add] | rw [Int32.ofInt_sub] | rw [Int32.ofInt_mul] | exact congrArg Value.int (Int32.ofInt_toInt _)
  rw [List.map_cons, e9] at hk
  exact hk
theorem J_isub {a b : Int} (hd : decode mi.2.1 pc = .ok (.isub, 1)) (k : J sc d mi (pc + 1) L ((0, a - b) :: st) M X) : J sc d mi pc L ((0, b) :: (0, a) :: st) M X := by
  intro p l e R s m args below meth c cells slots Q E A F hsc hX H locs ls hH hL
  refine lv_isub (x := Int32.ofInt a) (y := Int32.ofInt b) F.1 F.2.1 hd ?_
  have hk := k p l e R s m args below meth c cells slots Q E A F hsc hX H locs ls hH hL
  have e9 : j_cv E (0, a - b) = .int (Int32.ofInt a - Int32.ofInt b) := by
    show Value.int (Int32.ofInt _) = _
    first | rw [Int32.ofInt_add] | rw [Int32.ofInt_sub] | rw [Int32.ofInt_mul] | exact congrArg Value.int (Int32.ofInt_toInt _)
  rw [List.map_cons, e9] at hk
  exact hk
theorem J_imul {a b : Int} (hd : decode mi.2.1 pc = .ok (.imul, 1)) (k : J sc d mi (pc + 1) L ((0, a * b) :: st) M X) : J sc d mi pc L ((0, b) :: (0, a) :: st) M X := by
  intro p l e R s m args below meth c cells slots Q E A F hsc hX H locs ls hH hL
  refine lv_imul (x := Int32.ofInt a) (y := Int32.ofInt b) F.1 F.2.1 hd ?_
  have hk := k p l e R s m args below meth c cells slots Q E A F hsc hX H locs ls hH hL
  have e9 : j_cv E (0, a * b) = .int (Int32.ofInt a * Int32.ofInt b) := by
    show Value.int (Int32.ofInt _) = _
    first | rw [Int32.ofInt_add] | rw [Int32.ofInt_sub] | rw [Int32.ofInt_mul] | exact congrArg Value.int (Int32.ofInt_toInt _)
  rw [List.map_cons, e9] at hk
  exact hk
theorem J_iand {a b : Int} (hd : decode mi.2.1 pc = .ok (.iand, 1)) (k : J sc d mi (pc + 1) L ((0, j_and a b) :: st) M X) : J sc d mi pc L ((0, b) :: (0, a) :: st) M X := by
  intro p l e R s m args below meth c cells slots Q E A F hsc hX H locs ls hH hL
  refine lv_iand (x := Int32.ofInt a) (y := Int32.ofInt b) F.1 F.2.1 hd ?_
  have hk := k p l e R s m args below meth c cells slots Q E A F hsc hX H locs ls hH hL
  have e9 : j_cv E (0, j_and a b) = .int (Int32.ofInt a &&& Int32.ofInt b) := by
    show Value.int (Int32.ofInt _) = _
    first | rw [Int32.ofInt_add] | rw [Int32.ofInt_sub] | rw [Int32.ofInt_mul] | exact congrArg Value.int (Int32.ofInt_toInt _)
  rw [List.map_cons, e9] at hk
  exact hk
theorem J_ior {a b : Int} (hd : decode mi.2.1 pc = .ok (.ior, 1)) (k : J sc d mi (pc + 1) L ((0, j_or a b) :: st) M X) : J sc d mi pc L ((0, b) :: (0, a) :: st) M X := by
  intro p l e R s m args below meth c cells slots Q E A F hsc hX H locs ls hH hL
  refine lv_ior (x := Int32.ofInt a) (y := Int32.ofInt b) F.1 F.2.1 hd ?_
  have hk := k p l e R s m args below meth c cells slots Q E A F hsc hX H locs ls hH hL
  have e9 : j_cv E (0, j_or a b) = .int (Int32.ofInt a ||| Int32.ofInt b) := by
    show Value.int (Int32.ofInt _) = _
    first | rw [Int32.ofInt_add] | rw [Int32.ofInt_sub] | rw [Int32.ofInt_mul] | exact congrArg Value.int (Int32.ofInt_toInt _)
  rw [List.map_cons, e9] at hk
  exact hk
theorem J_ixor {a b : Int} (hd : decode mi.2.1 pc = .ok (.ixor, 1)) (k : J sc d mi (pc + 1) L ((0, j_xor a b) :: st) M X) : J sc d mi pc L ((0, b) :: (0, a) :: st) M X := by
  intro p l e R s m args below meth c cells slots Q E A F hsc hX H locs ls hH hL
  refine lv_ixor (x := Int32.ofInt a) (y := Int32.ofInt b) F.1 F.2.1 hd ?_
  have hk := k p l e R s m args below meth c cells slots Q E A F hsc hX H locs ls hH hL
  have e9 : j_cv E (0, j_xor a b) = .int (Int32.ofInt a ^^^ Int32.ofInt b) := by
    show Value.int (Int32.ofInt _) = _
    first | rw [Int32.ofInt_add] | rw [Int32.ofInt_sub] | rw [Int32.ofInt_mul] | exact congrArg Value.int (Int32.ofInt_toInt _)
  rw [List.map_cons, e9] at hk
  exact hk
theorem J_ishl {a b : Int} (hd : decode mi.2.1 pc = .ok (.ishl, 1)) (k : J sc d mi (pc + 1) L ((0, j_shl a b) :: st) M X) : J sc d mi pc L ((0, b) :: (0, a) :: st) M X := by
  intro p l e R s m args below meth c cells slots Q E A F hsc hX H locs ls hH hL
  refine lv_ishl (x := Int32.ofInt a) (y := Int32.ofInt b) F.1 F.2.1 hd ?_
  have hk := k p l e R s m args below meth c cells slots Q E A F hsc hX H locs ls hH hL
  have e9 : j_cv E (0, j_shl a b) = .int (Int32.ofInt a <<< (Int32.ofInt b &&& 31)) := by
    show Value.int (Int32.ofInt _) = _
    first | rw [Int32.ofInt_add] | rw [Int32.ofInt_sub] | rw [Int32.ofInt_mul] | exact congrArg Value.int (Int32.ofInt_toInt _)
  rw [List.map_cons, e9] at hk
  exact hk
theorem J_ishr {a b : Int} (hd : decode mi.2.1 pc = .ok (.ishr, 1)) (k : J sc d mi (pc + 1) L ((0, j_shr a b) :: st) M X) : J sc d mi pc L ((0, b) :: (0, a) :: st) M X := by
  intro p l e R s m args below meth c cells slots Q E A F hsc hX H locs ls hH hL
  refine lv_ishr (x := Int32.ofInt a) (y := Int32.ofInt b) F.1 F.2.1 hd ?_
  have hk := k p l e R s m args below meth c cells slots Q E A F hsc hX H locs ls hH hL
  have e9 : j_cv E (0, j_shr a b) = .int (Int32.ofInt a >>> (Int32.ofInt b &&& 31)) := by
    show Value.int (Int32.ofInt _) = _
    first | rw [Int32.ofInt_add] | rw [Int32.ofInt_sub] | rw [Int32.ofInt_mul] | exact congrArg Value.int (Int32.ofInt_toInt _)
  rw [List.map_cons, e9] at hk
  exact hk
theorem j_ne0 {b : Int} (h1 : -2147483648 ≤ b ∧ b < 2147483648) (h : ¬ b = 0) : ¬ Int32.ofInt b = 0 := by
  intro q
  apply h
  have := congrArg Int32.toInt q
  rw [Int32.toInt_ofInt_of_le (by omega) (by omega)] at this
  simpa using this
theorem J_idiv {a b : Int} (hd : decode mi.2.1 pc = .ok (.idiv, 1)) (hR : -2147483648 ≤ b ∧ b < 2147483648) (hb : ¬ b = 0) (k : J sc d mi (pc + 1) L ((0, j_div a b) :: st) M X) : J sc d mi pc L ((0, b) :: (0, a) :: st) M X := by
  intro p l e R s m args below meth c cells slots Q E A F hsc hX H locs ls hH hL
  refine lv_idiv (x := Int32.ofInt a) (y := Int32.ofInt b) F.1 F.2.1 hd (j_ne0 hR hb) ?_
  have hk := k p l e R s m args below meth c cells slots Q E A F hsc hX H locs ls hH hL
  have e9 : j_cv E (0, j_div a b) = .int (Int32.ofInt a / Int32.ofInt b) := by
    show Value.int (Int32.ofInt _) = _
    exact congrArg Value.int (Int32.ofInt_toInt _)
  rw [List.map_cons, e9] at hk
  exact hk
theorem J_irem {a b : Int} (hd : decode mi.2.1 pc = .ok (.irem, 1)) (hR : -2147483648 ≤ b ∧ b < 2147483648) (hb : ¬ b = 0) (k : J sc d mi (pc + 1) L ((0, j_rem a b) :: st) M X) : J sc d mi pc L ((0, b) :: (0, a) :: st) M X := by
  intro p l e R s m args below meth c cells slots Q E A F hsc hX H locs ls hH hL
  refine lv_irem (x := Int32.ofInt a) (y := Int32.ofInt b) F.1 F.2.1 hd (j_ne0 hR hb) ?_
  have hk := k p l e R s m args below meth c cells slots Q E A F hsc hX H locs ls hH hL
  have e9 : j_cv E (0, j_rem a b) = .int (Int32.ofInt a - Int32.ofInt a / Int32.ofInt b * Int32.ofInt b) := by
    show Value.int (Int32.ofInt _) = _
    exact congrArg Value.int (Int32.ofInt_toInt _)
  rw [List.map_cons, e9] at hk
  exact hk
theorem J_iushr {a b : Int} (hd : decode mi.2.1 pc = .ok (.iushr, 1)) (k : J sc d mi (pc + 1) L ((0, j_ushr a b) :: st) M X) : J sc d mi pc L ((0, b) :: (0, a) :: st) M X := by
  intro p l e R s m args below meth c cells slots Q E A F hsc hX H locs ls hH hL
  refine lv_iushr (x := Int32.ofInt a) (y := Int32.ofInt b) F.1 F.2.1 hd rfl ?_
  have hk := k p l e R s m args below meth c cells slots Q E A F hsc hX H locs ls hH hL
  have e9 : j_cv E (0, j_ushr a b) = .int ((Int32.ofInt a).toUInt32 >>> ((Int32.ofInt b).toUInt32 &&& Int32.toUInt32 31)).toInt32 := by
    show Value.int (Int32.ofInt _) = _
    unfold j_ushr
    rw [Int32.ofInt_toInt]
  rw [List.map_cons, e9] at hk
  exact hk
theorem J_ineg {a : Int} (hd : decode mi.2.1 pc = .ok (.ineg, 1)) (k : J sc d mi (pc + 1) L ((0, -a) :: st) M X) : J sc d mi pc L ((0, a) :: st) M X := by
  intro p l e R s m args below meth c cells slots Q E A F hsc hX H locs ls hH hL
  refine lv_ineg (x := Int32.ofInt a) F.1 F.2.1 hd ?_
  have hk := k p l e R s m args below meth c cells slots Q E A F hsc hX H locs ls hH hL
  have e9 : j_cv E (0, -a) = .int (-Int32.ofInt a) := by
    show Value.int (Int32.ofInt _) = _
    rw [Int32.ofInt_neg]
  rw [List.map_cons, e9] at hk
  exact hk
theorem J_lneg {a : Int} (hd : decode mi.2.1 pc = .ok (.lneg, 1)) (k : J sc d mi (pc + 1) L ((1, -a) :: st) M X) : J sc d mi pc L ((1, a) :: st) M X := by
  intro p l e R s m args below meth c cells slots Q E A F hsc hX H locs ls hH hL
  refine lv_lneg (x := Int64.ofInt a) F.1 F.2.1 hd ?_
  have hk := k p l e R s m args below meth c cells slots Q E A F hsc hX H locs ls hH hL
  have e9 : j_cv E (1, -a) = .long (-Int64.ofInt a) := by
    show Value.long (Int64.ofInt _) = _
    rw [Int64.ofInt_neg]
  rw [List.map_cons, e9] at hk
  exact hk
theorem J_land {a b : Int} (hd : decode mi.2.1 pc = .ok (.land, 1)) (k : J sc d mi (pc + 1) L ((1, j_land a b) :: st) M X) : J sc d mi pc L ((1, b) :: (1, a) :: st) M X := by
  intro p l e R s m args below meth c cells slots Q E A F hsc hX H locs ls hH hL
  refine lv_land (x := Int64.ofInt a) (y := Int64.ofInt b) F.1 F.2.1 hd ?_
  have hk := k p l e R s m args below meth c cells slots Q E A F hsc hX H locs ls hH hL
  have e9 : j_cv E (1, j_land a b) = .long (Int64.ofInt a &&& Int64.ofInt b) := by
    show Value.long (Int64.ofInt _) = _
    unfold j_land
    rw [Int64.ofInt_toInt]
  rw [List.map_cons, e9] at hk
  exact hk
theorem J_lor {a b : Int} (hd : decode mi.2.1 pc = .ok (.lor, 1)) (k : J sc d mi (pc + 1) L ((1, j_lor a b) :: st) M X) : J sc d mi pc L ((1, b) :: (1, a) :: st) M X := by
  intro p l e R s m args below meth c cells slots Q E A F hsc hX H locs ls hH hL
  refine lv_lor (x := Int64.ofInt a) (y := Int64.ofInt b) F.1 F.2.1 hd ?_
  have hk := k p l e R s m args below meth c cells slots Q E A F hsc hX H locs ls hH hL
  have e9 : j_cv E (1, j_lor a b) = .long (Int64.ofInt a ||| Int64.ofInt b) := by
    show Value.long (Int64.ofInt _) = _
    unfold j_lor
    rw [Int64.ofInt_toInt]
  rw [List.map_cons, e9] at hk
  exact hk
theorem J_lxor {a b : Int} (hd : decode mi.2.1 pc = .ok (.lxor, 1)) (k : J sc d mi (pc + 1) L ((1, j_lxor a b) :: st) M X) : J sc d mi pc L ((1, b) :: (1, a) :: st) M X := by
  intro p l e R s m args below meth c cells slots Q E A F hsc hX H locs ls hH hL
  refine lv_lxor (x := Int64.ofInt a) (y := Int64.ofInt b) F.1 F.2.1 hd ?_
  have hk := k p l e R s m args below meth c cells slots Q E A F hsc hX H locs ls hH hL
  have e9 : j_cv E (1, j_lxor a b) = .long (Int64.ofInt a ^^^ Int64.ofInt b) := by
    show Value.long (Int64.ofInt _) = _
    unfold j_lxor
    rw [Int64.ofInt_toInt]
  rw [List.map_cons, e9] at hk
  exact hk
theorem J_lshl {a b : Int} (hd : decode mi.2.1 pc = .ok (.lshl, 1)) (k : J sc d mi (pc + 1) L ((1, j_lshl a b) :: st) M X) : J sc d mi pc L ((0, b) :: (1, a) :: st) M X := by
  intro p l e R s m args below meth c cells slots Q E A F hsc hX H locs ls hH hL
  refine lv_lshl (x := Int64.ofInt a) (y := Int32.ofInt b) F.1 F.2.1 hd rfl ?_
  have hk := k p l e R s m args below meth c cells slots Q E A F hsc hX H locs ls hH hL
  have e9 : j_cv E (1, j_lshl a b) = .long (Int64.ofInt a <<< ((Int32.ofInt b).toInt64 &&& 63)) := by
    show Value.long (Int64.ofInt _) = _
    unfold j_lshl
    rw [Int64.ofInt_toInt]
  rw [List.map_cons, e9] at hk
  exact hk
theorem J_lushr {a b : Int} (hd : decode mi.2.1 pc = .ok (.lushr, 1)) (k : J sc d mi (pc + 1) L ((1, j_lushr a b) :: st) M X) : J sc d mi pc L ((0, b) :: (1, a) :: st) M X := by
  intro p l e R s m args below meth c cells slots Q E A F hsc hX H locs ls hH hL
  refine lv_lushr (x := Int64.ofInt a) (y := Int32.ofInt b) F.1 F.2.1 hd rfl ?_
  have hk := k p l e R s m args below meth c cells slots Q E A F hsc hX H locs ls hH hL
  have e9 : j_cv E (1, j_lushr a b) = .long ((Int64.ofInt a).toUInt64 >>> ((Int32.ofInt b).toInt64.toUInt64 &&& Int64.toUInt64 63)).toInt64 := by
    show Value.long (Int64.ofInt _) = _
    unfold j_lushr
    rw [Int64.ofInt_toInt]
  rw [List.map_cons, e9] at hk
  exact hk
theorem J_i2l {a : Int} (hd : decode mi.2.1 pc = .ok (.i2l, 1)) (ha : -2147483648 ≤ a ∧ a < 2147483648) (k : J sc d mi (pc + 1) L ((1, a) :: st) M X) : J sc d mi pc L ((0, a) :: st) M X := by
  intro p l e R s m args below meth c cells slots Q E A F hsc hX H locs ls hH hL
  refine lv_i2l (x := Int32.ofInt a) (v := Int64.ofInt a) F.1 F.2.1 hd ?_ (k p l e R s m args below meth c cells slots Q E A F hsc hX H locs ls hH hL)
  apply Int64.toInt_inj.mp
  rw [Int32.toInt_toInt64, Int32.toInt_ofInt_of_le (by omega) (by omega), Int64.toInt_ofInt_of_le (by omega) (by omega)]
def j_cmp (a b : Int) : Int := if b < a then 1 else if a = b then 0 else -1
theorem J_lcmp {a b : Int} (hd : decode mi.2.1 pc = .ok (.lcmp, 1)) (ha : -9223372036854775808 ≤ a ∧ a < 9223372036854775808) (hb : -9223372036854775808 ≤ b ∧ b < 9223372036854775808) (k : J sc d mi (pc + 1) L ((0, j_cmp a b) :: st) M X) : J sc d mi pc L ((1, b) :: (1, a) :: st) M X := by
  intro p l e R s m args below meth c cells slots Q E A F hsc hX H locs ls hH hL
  refine W.lcmp (x := Int64.ofInt a) (y := Int64.ofInt b) F.1 F.2.1 hd ?_
  have hk := k p l e R s m args below meth c cells slots Q E A F hsc hX H locs ls hH hL
  have e9 : j_cv E (0, j_cmp a b) = .int (lg_cmp (Int64.ofInt a) (Int64.ofInt b)) := by
    show Value.int (Int32.ofInt _) = _
    congr 1
    unfold j_cmp lg_cmp
    simp only [gt_iff_lt, Int64.lt_iff_toInt_lt, ← Int64.toInt_inj]
    rw [Int64.toInt_ofInt_of_le (by omega) (by omega), Int64.toInt_ofInt_of_le (by omega) (by omega)]
    split
    · rfl
    · split <;> rfl
  rw [List.map_cons, e9] at hk
  exact hk
theorem j_oi {a : Int} (ha : -2147483648 ≤ a ∧ a < 2147483648) : (Int32.ofInt a).toInt = a := Int32.toInt_ofInt_of_le (by omega) (by omega)
theorem j_oil {a : Int} (ha : -9223372036854775808 ≤ a ∧ a < 9223372036854775808) : (Int64.ofInt a).toInt = a := Int64.toInt_ofInt_of_le (by omega) (by omega)
theorem J_if_eq {a off : Int} {tgt : Nat} (hd : decode mi.2.1 pc = .ok (.ifCond .eq off, 3)) (ht : (pc : Int) + off = (tgt : Int)) (ha : -2147483648 ≤ a ∧ a < 2147483648) (kt : a = 0 → J sc d mi tgt L st M X) (kf : ¬ a = 0 → J sc d mi (pc + 3) L st M X) : J sc d mi pc L ((0, a) :: st) M X := by
  intro p l e R s m args below meth c cells slots Q E A F hsc hX H locs ls hH hL
  exact lv_if_eq (x := Int32.ofInt a) F.1 F.2.1 hd ht (fun q => kt (by simp only [Int32.lt_iff_toInt_lt, Int32.le_iff_toInt_le, ← Int32.toInt_inj, j_oi ha, Int32.toInt_zero] at q; omega) p l e R s m args below meth c cells slots Q E A F hsc hX H locs ls hH hL) (fun q => kf (by simp only [Int32.lt_iff_toInt_lt, Int32.le_iff_toInt_le, ← Int32.toInt_inj, j_oi ha, Int32.toInt_zero] at q; omega) p l e R s m args below meth c cells slots Q E A F hsc hX H locs ls hH hL)
theorem J_if_ne {a off : Int} {tgt : Nat} (hd : decode mi.2.1 pc = .ok (.ifCond .ne off, 3)) (ht : (pc : Int) + off = (tgt : Int)) (ha : -2147483648 ≤ a ∧ a < 2147483648) (kt : ¬ a = 0 → J sc d mi tgt L st M X) (kf : a = 0 → J sc d mi (pc + 3) L st M X) : J sc d mi pc L ((0, a) :: st) M X := by
  intro p l e R s m args below meth c cells slots Q E A F hsc hX H locs ls hH hL
  exact lv_if_ne (x := Int32.ofInt a) F.1 F.2.1 hd ht (fun q => kt (by simp only [Int32.lt_iff_toInt_lt, Int32.le_iff_toInt_le, ← Int32.toInt_inj, j_oi ha, Int32.toInt_zero] at q; omega) p l e R s m args below meth c cells slots Q E A F hsc hX H locs ls hH hL) (fun q => kf (by simp only [Int32.lt_iff_toInt_lt, Int32.le_iff_toInt_le, ← Int32.toInt_inj, j_oi ha, Int32.toInt_zero] at q; omega) p l e R s m args below meth c cells slots Q E A F hsc hX H locs ls hH hL)
theorem J_if_lt {a off : Int} {tgt : Nat} (hd : decode mi.2.1 pc = .ok (.ifCond .lt off, 3)) (ht : (pc : Int) + off = (tgt : Int)) (ha : -2147483648 ≤ a ∧ a < 2147483648) (kt : a < 0 → J sc d mi tgt L st M X) (kf : 0 ≤ a → J sc d mi (pc + 3) L st M X) : J sc d mi pc L ((0, a) :: st) M X := by
  intro p l e R s m args below meth c cells slots Q E A F hsc hX H locs ls hH hL
  exact lv_if_lt (x := Int32.ofInt a) F.1 F.2.1 hd ht (fun q => kt (by simp only [Int32.lt_iff_toInt_lt, Int32.le_iff_toInt_le, ← Int32.toInt_inj, j_oi ha, Int32.toInt_zero] at q; omega) p l e R s m args below meth c cells slots Q E A F hsc hX H locs ls hH hL) (fun q => kf (by simp only [Int32.lt_iff_toInt_lt, Int32.le_iff_toInt_le, ← Int32.toInt_inj, j_oi ha, Int32.toInt_zero] at q; omega) p l e R s m args below meth c cells slots Q E A F hsc hX H locs ls hH hL)
theorem J_if_ge {a off : Int} {tgt : Nat} (hd : decode mi.2.1 pc = .ok (.ifCond .ge off, 3)) (ht : (pc : Int) + off = (tgt : Int)) (ha : -2147483648 ≤ a ∧ a < 2147483648) (kt : 0 ≤ a → J sc d mi tgt L st M X) (kf : a < 0 → J sc d mi (pc + 3) L st M X) : J sc d mi pc L ((0, a) :: st) M X := by
  intro p l e R s m args below meth c cells slots Q E A F hsc hX H locs ls hH hL
  exact lv_if_ge (x := Int32.ofInt a) F.1 F.2.1 hd ht (fun q => kt (by simp only [Int32.lt_iff_toInt_lt, Int32.le_iff_toInt_le, ← Int32.toInt_inj, j_oi ha, Int32.toInt_zero] at q; omega) p l e R s m args below meth c cells slots Q E A F hsc hX H locs ls hH hL) (fun q => kf (by simp only [Int32.lt_iff_toInt_lt, Int32.le_iff_toInt_le, ← Int32.toInt_inj, j_oi ha, Int32.toInt_zero] at q; omega) p l e R s m args below meth c cells slots Q E A F hsc hX H locs ls hH hL)
theorem J_if_gt {a off : Int} {tgt : Nat} (hd : decode mi.2.1 pc = .ok (.ifCond .gt off, 3)) (ht : (pc : Int) + off = (tgt : Int)) (ha : -2147483648 ≤ a ∧ a < 2147483648) (kt : 0 < a → J sc d mi tgt L st M X) (kf : a ≤ 0 → J sc d mi (pc + 3) L st M X) : J sc d mi pc L ((0, a) :: st) M X := by
  intro p l e R s m args below meth c cells slots Q E A F hsc hX H locs ls hH hL
  exact lv_if_gt (x := Int32.ofInt a) F.1 F.2.1 hd ht (fun q => kt (by simp only [Int32.lt_iff_toInt_lt, Int32.le_iff_toInt_le, ← Int32.toInt_inj, j_oi ha, Int32.toInt_zero] at q; omega) p l e R s m args below meth c cells slots Q E A F hsc hX H locs ls hH hL) (fun q => kf (by simp only [Int32.lt_iff_toInt_lt, Int32.le_iff_toInt_le, ← Int32.toInt_inj, j_oi ha, Int32.toInt_zero] at q; omega) p l e R s m args below meth c cells slots Q E A F hsc hX H locs ls hH hL)
theorem J_if_le {a off : Int} {tgt : Nat} (hd : decode mi.2.1 pc = .ok (.ifCond .le off, 3)) (ht : (pc : Int) + off = (tgt : Int)) (ha : -2147483648 ≤ a ∧ a < 2147483648) (kt : a ≤ 0 → J sc d mi tgt L st M X) (kf : 0 < a → J sc d mi (pc + 3) L st M X) : J sc d mi pc L ((0, a) :: st) M X := by
  intro p l e R s m args below meth c cells slots Q E A F hsc hX H locs ls hH hL
  exact lv_if_le (x := Int32.ofInt a) F.1 F.2.1 hd ht (fun q => kt (by simp only [Int32.lt_iff_toInt_lt, Int32.le_iff_toInt_le, ← Int32.toInt_inj, j_oi ha, Int32.toInt_zero] at q; omega) p l e R s m args below meth c cells slots Q E A F hsc hX H locs ls hH hL) (fun q => kf (by simp only [Int32.lt_iff_toInt_lt, Int32.le_iff_toInt_le, ← Int32.toInt_inj, j_oi ha, Int32.toInt_zero] at q; omega) p l e R s m args below meth c cells slots Q E A F hsc hX H locs ls hH hL)
theorem J_icmp_eq {a b off : Int} {tgt : Nat} (hd : decode mi.2.1 pc = .ok (.if_icmp .eq off, 3)) (ht : (pc : Int) + off = (tgt : Int)) (ha : -2147483648 ≤ a ∧ a < 2147483648) (hb : -2147483648 ≤ b ∧ b < 2147483648) (kt : a = b → J sc d mi tgt L st M X) (kf : ¬ a = b → J sc d mi (pc + 3) L st M X) : J sc d mi pc L ((0, b) :: (0, a) :: st) M X := by
  intro p l e R s m args below meth c cells slots Q E A F hsc hX H locs ls hH hL
  exact lv_icmp_eq (x := Int32.ofInt a) (y := Int32.ofInt b) F.1 F.2.1 hd ht (fun q => kt (by simp only [Int32.lt_iff_toInt_lt, Int32.le_iff_toInt_le, ← Int32.toInt_inj, j_oi ha, j_oi hb] at q; omega) p l e R s m args below meth c cells slots Q E A F hsc hX H locs ls hH hL) (fun q => kf (by simp only [Int32.lt_iff_toInt_lt, Int32.le_iff_toInt_le, ← Int32.toInt_inj, j_oi ha, j_oi hb] at q; omega) p l e R s m args below meth c cells slots Q E A F hsc hX H locs ls hH hL)
theorem J_icmp_ne {a b off : Int} {tgt : Nat} (hd : decode mi.2.1 pc = .ok (.if_icmp .ne off, 3)) (ht : (pc : Int) + off = (tgt : Int)) (ha : -2147483648 ≤ a ∧ a < 2147483648) (hb : -2147483648 ≤ b ∧ b < 2147483648) (kt : ¬ a = b → J sc d mi tgt L st M X) (kf : a = b → J sc d mi (pc + 3) L st M X) : J sc d mi pc L ((0, b) :: (0, a) :: st) M X := by
  intro p l e R s m args below meth c cells slots Q E A F hsc hX H locs ls hH hL
  exact lv_icmp_ne (x := Int32.ofInt a) (y := Int32.ofInt b) F.1 F.2.1 hd ht (fun q => kt (by simp only [Int32.lt_iff_toInt_lt, Int32.le_iff_toInt_le, ← Int32.toInt_inj, j_oi ha, j_oi hb] at q; omega) p l e R s m args below meth c cells slots Q E A F hsc hX H locs ls hH hL) (fun q => kf (by simp only [Int32.lt_iff_toInt_lt, Int32.le_iff_toInt_le, ← Int32.toInt_inj, j_oi ha, j_oi hb] at q; omega) p l e R s m args below meth c cells slots Q E A F hsc hX H locs ls hH hL)
theorem J_icmp_lt {a b off : Int} {tgt : Nat} (hd : decode mi.2.1 pc = .ok (.if_icmp .lt off, 3)) (ht : (pc : Int) + off = (tgt : Int)) (ha : -2147483648 ≤ a ∧ a < 2147483648) (hb : -2147483648 ≤ b ∧ b < 2147483648) (kt : a < b → J sc d mi tgt L st M X) (kf : b ≤ a → J sc d mi (pc + 3) L st M X) : J sc d mi pc L ((0, b) :: (0, a) :: st) M X := by
  intro p l e R s m args below meth c cells slots Q E A F hsc hX H locs ls hH hL
  exact lv_icmp_lt (x := Int32.ofInt a) (y := Int32.ofInt b) F.1 F.2.1 hd ht (fun q => kt (by simp only [Int32.lt_iff_toInt_lt, Int32.le_iff_toInt_le, ← Int32.toInt_inj, j_oi ha, j_oi hb] at q; omega) p l e R s m args below meth c cells slots Q E A F hsc hX H locs ls hH hL) (fun q => kf (by simp only [Int32.lt_iff_toInt_lt, Int32.le_iff_toInt_le, ← Int32.toInt_inj, j_oi ha, j_oi hb] at q; omega) p l e R s m args below meth c cells slots Q E A F hsc hX H locs ls hH hL)
theorem J_icmp_ge {a b off : Int} {tgt : Nat} (hd : decode mi.2.1 pc = .ok (.if_icmp .ge off, 3)) (ht : (pc : Int) + off = (tgt : Int)) (ha : -2147483648 ≤ a ∧ a < 2147483648) (hb : -2147483648 ≤ b ∧ b < 2147483648) (kt : b ≤ a → J sc d mi tgt L st M X) (kf : a < b → J sc d mi (pc + 3) L st M X) : J sc d mi pc L ((0, b) :: (0, a) :: st) M X := by
  intro p l e R s m args below meth c cells slots Q E A F hsc hX H locs ls hH hL
  exact lv_icmp_ge (x := Int32.ofInt a) (y := Int32.ofInt b) F.1 F.2.1 hd ht (fun q => kt (by simp only [Int32.lt_iff_toInt_lt, Int32.le_iff_toInt_le, ← Int32.toInt_inj, j_oi ha, j_oi hb] at q; omega) p l e R s m args below meth c cells slots Q E A F hsc hX H locs ls hH hL) (fun q => kf (by simp only [Int32.lt_iff_toInt_lt, Int32.le_iff_toInt_le, ← Int32.toInt_inj, j_oi ha, j_oi hb] at q; omega) p l e R s m args below meth c cells slots Q E A F hsc hX H locs ls hH hL)
theorem J_icmp_gt {a b off : Int} {tgt : Nat} (hd : decode mi.2.1 pc = .ok (.if_icmp .gt off, 3)) (ht : (pc : Int) + off = (tgt : Int)) (ha : -2147483648 ≤ a ∧ a < 2147483648) (hb : -2147483648 ≤ b ∧ b < 2147483648) (kt : b < a → J sc d mi tgt L st M X) (kf : a ≤ b → J sc d mi (pc + 3) L st M X) : J sc d mi pc L ((0, b) :: (0, a) :: st) M X := by
  intro p l e R s m args below meth c cells slots Q E A F hsc hX H locs ls hH hL
  exact lv_icmp_gt (x := Int32.ofInt a) (y := Int32.ofInt b) F.1 F.2.1 hd ht (fun q => kt (by simp only [Int32.lt_iff_toInt_lt, Int32.le_iff_toInt_le, ← Int32.toInt_inj, j_oi ha, j_oi hb] at q; omega) p l e R s m args below meth c cells slots Q E A F hsc hX H locs ls hH hL) (fun q => kf (by simp only [Int32.lt_iff_toInt_lt, Int32.le_iff_toInt_le, ← Int32.toInt_inj, j_oi ha, j_oi hb] at q; omega) p l e R s m args below meth c cells slots Q E A F hsc hX H locs ls hH hL)
theorem J_icmp_le {a b off : Int} {tgt : Nat} (hd : decode mi.2.1 pc = .ok (.if_icmp .le off, 3)) (ht : (pc : Int) + off = (tgt : Int)) (ha : -2147483648 ≤ a ∧ a < 2147483648) (hb : -2147483648 ≤ b ∧ b < 2147483648) (kt : a ≤ b → J sc d mi tgt L st M X) (kf : b < a → J sc d mi (pc + 3) L st M X) : J sc d mi pc L ((0, b) :: (0, a) :: st) M X := by
  intro p l e R s m args below meth c cells slots Q E A F hsc hX H locs ls hH hL
  exact lv_icmp_le (x := Int32.ofInt a) (y := Int32.ofInt b) F.1 F.2.1 hd ht (fun q => kt (by simp only [Int32.lt_iff_toInt_lt, Int32.le_iff_toInt_le, ← Int32.toInt_inj, j_oi ha, j_oi hb] at q; omega) p l e R s m args below meth c cells slots Q E A F hsc hX H locs ls hH hL) (fun q => kf (by simp only [Int32.lt_iff_toInt_lt, Int32.le_iff_toInt_le, ← Int32.toInt_inj, j_oi ha, j_oi hb] at q; omega) p l e R s m args below meth c cells slots Q E A F hsc hX H locs ls hH hL)
theorem J_icmp_eqT {a b off : Int} {tgt : Nat} (hd : decode mi.2.1 pc = .ok (.if_icmp .eq off, 3)) (ht : (pc : Int) + off = (tgt : Int)) (hab : a = b) (kt : J sc d mi tgt L st M X) : J sc d mi pc L ((0, b) :: (0, a) :: st) M X := by
  intro p l e R s m args below meth c cells slots Q E A F hsc hX H locs ls hH hL
  exact lv_icmp_eq (x := Int32.ofInt a) (y := Int32.ofInt b) F.1 F.2.1 hd ht (fun q => kt p l e R s m args below meth c cells slots Q E A F hsc hX H locs ls hH hL) (fun q => absurd (by rw [hab]) q)
theorem J_goto {off : Int} {tgt : Nat} (hd : decode mi.2.1 pc = .ok (.goto off, 3)) (ht : (pc : Int) + off = (tgt : Int)) (k : J sc d mi tgt L st M X) : J sc d mi pc L st M X := by
  intro p l e R s m args below meth c cells slots Q E A F hsc hX H locs ls hH hL
  exact lv_goto F.1 F.2.1 hd ht (k p l e R s m args below meth c cells slots Q E A F hsc hX H locs ls hH hL)
theorem J_tableIn {a dflt lo hi off : Int} {offs : Array Int} {len tgt : Nat} (hd : decode mi.2.1 pc = .ok (.tableswitch dflt lo hi offs, len)) (ha : -2147483648 ≤ a ∧ a < 2147483648) (h1 : lo ≤ a) (h2 : a ≤ hi) (ho : offs[(a - lo).toNat]? = some off) (ht : (pc : Int) + off = (tgt : Int)) (k : J sc d mi tgt L st M X) : J sc d mi pc L ((0, a) :: st) M X := by
  intro p l e R s m args below meth c cells slots Q E A F hsc hX H locs ls hH hL
  exact lv_tableIn (x := Int32.ofInt a) F.1 F.2.1 hd (by rw [j_oi ha]; omega) (by rw [j_oi ha]; omega) (by rw [j_oi ha]; exact ho) ht (k p l e R s m args below meth c cells slots Q E A F hsc hX H locs ls hH hL)
theorem J_tableOut {a dflt lo hi : Int} {offs : Array Int} {len tgt : Nat} (hd : decode mi.2.1 pc = .ok (.tableswitch dflt lo hi offs, len)) (ha : -2147483648 ≤ a ∧ a < 2147483648) (h : a < lo ∨ hi < a) (ht : (pc : Int) + dflt = (tgt : Int)) (k : J sc d mi tgt L st M X) : J sc d mi pc L ((0, a) :: st) M X := by
  intro p l e R s m args below meth c cells slots Q E A F hsc hX H locs ls hH hL
  exact lv_tableOut (x := Int32.ofInt a) F.1 F.2.1 hd (by rw [j_oi ha]; exact h) ht (k p l e R s m args below meth c cells slots Q E A F hsc hX H locs ls hH hL)
theorem J_dup {v : jV} (hd : decode mi.2.1 pc = .ok (.dup, 1)) (hv : (v.1 != 1 && v.1 != 3) = true) (k : J sc d mi (pc + 1) L (v :: v :: st) M X) : J sc d mi pc L (v :: st) M X := by
  intro p l e R s m args below meth c cells slots Q E A F hsc hX H locs ls hH hL
  exact lv_dup F.1 F.2.1 hd (j_cat hv) (k p l e R s m args below meth c cells slots Q E A F hsc hX H locs ls hH hL)
theorem J_pop {v : jV} (hd : decode mi.2.1 pc = .ok (.pop, 1)) (hv : (v.1 != 1 && v.1 != 3) = true) (k : J sc d mi (pc + 1) L st M X) : J sc d mi pc L (v :: st) M X := by
  intro p l e R s m args below meth c cells slots Q E A F hsc hX H locs ls hH hL
  exact lv_pop F.1 F.2.1 hd (j_cat (E := E) hv) (k p l e R s m args below meth c cells slots Q E A F hsc hX H locs ls hH hL)
theorem J_dup2 {v w : jV} (hd : decode mi.2.1 pc = .ok (.dup2, 1)) (hv : (v.1 != 1 && v.1 != 3) = true) (hw : (w.1 != 1 && w.1 != 3) = true) (k : J sc d mi (pc + 1) L (v :: w :: v :: w :: st) M X) : J sc d mi pc L (v :: w :: st) M X := by
  intro p l e R s m args below meth c cells slots Q E A F hsc hX H locs ls hH hL
  exact lv_dup2_11 F.1 F.2.1 hd (j_cat hv) (j_cat hw) (k p l e R s m args below meth c cells slots Q E A F hsc hX H locs ls hH hL)
end JRULES
