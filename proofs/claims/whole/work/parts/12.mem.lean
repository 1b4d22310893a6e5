def j_CF (ci : Nat) (C : String) (T : u_T) (N : Nat) (ty : Nat → FieldType) : Prop := vwCl[ci]? = some (C, T, N) ∧ (∀ w ∈ u_ws C T N, w ∈ j_all) ∧ (∀ k, k < N → parseFieldDescriptor (T k).2.2.1 = some (ty k)) ∧ (∀ a, a < N → ∀ b, b < N → a ≠ b → (T a).2.1 ≠ (T b).2.1)
/-- a field by its link -/
def j_FL (own : String) (idx ci j : Nat) (jz : Int) (fin : Bool) (t : FieldType) : Prop := ∃ (C : String) (T : u_T) (N : Nat) (ty : Nat → FieldType), j_CF ci C T N ty ∧ j < N ∧ Cond.fieldLink own idx C (T j).2.1 (T j).2.2.1 ∈ j_all ∧ (T j).1 = C ∧ (T j).2.2.2 = fin ∧ ty j = t ∧ (j : Int) = jz
theorem j_in {i : Int} {n : Nat} (hn : n < 2147483648) (hi : 0 ≤ i ∧ i < (n : Int)) : vp_in (Int32.ofInt i) n := by
  rw [vp_in_iff, j_oi (by omega)]
  exact hi
theorem j_tn {i : Int} {n : Nat} (hn : n < 2147483648) (hi : 0 ≤ i ∧ i < (n : Int)) : (Int32.ofInt i).toNatClampNeg = i.toNat := by
  show (Int32.ofInt i).toInt.toNat = i.toNat
  rw [j_oi (by omega)]
theorem j_toN {i : Int} (h : 0 ≤ i) : ((i.toNat : Nat) : Int) = i := Int.toNat_of_nonneg h
section JMEM
variable {sc : Option (Nat × (Nat → Int))} {d : Nat} {mi : jI} {pc : Nat} {L L' st : List jV} {M : jM} {X : jX}
theorem J_getI {idx ci j k : Nat} {jz z : Int} {fin : Bool} {t : FieldType} {fs : List (Option Nat)} (hd : decode mi.2.1 pc = .ok (.getfield idx, 3)) (fl : j_FL mi.1.cls idx ci j jz fin t) (hsh : j_sh[k]? = some (0, ci, fs)) (hf : fs[j]? = some none) (kk : J sc d mi (pc + 3) L ((0, M k jz) :: st) M X) : J sc d mi pc L ((k + 10, z) :: st) M X := by
  intro p l e R s m args below meth c cells slots Q E A F hsc hX H locs ls hH hL
  obtain ⟨C, T, N, ty, ⟨c1, c2, c3, c4⟩, hj, hl, hC, hfin, ht, rfl⟩ := fl
  refine va_get (D := E.1) (cl := vwCl) (v := .int (Int32.ofInt (M k (j : Int)))) F.1 F.2.1 F.2.2.2.2.1 c2 F.2.2.2.1 F.2.2.2.2.2.1 hH.1 k (j_w_at hsh) c1 j hj (F.2.2.2.2.1 _ hl) (fun x h => by rw [hC] at h; exact h) ?_ hd (kk p l e R s m args below meth c cells slots Q E A F hsc hX H locs ls hH hL)
  show (j_fs E (M k) 0 fs)[j]? = _
  rw [j_fs_get, hf]
  simp
theorem J_getR {idx ci j k r : Nat} {jz z : Int} {fin : Bool} {t : FieldType} {fs : List (Option Nat)} (hd : decode mi.2.1 pc = .ok (.getfield idx, 3)) (fl : j_FL mi.1.cls idx ci j jz fin t) (hsh : j_sh[k]? = some (0, ci, fs)) (hf : fs[j]? = some (some r)) (kk : J sc d mi (pc + 3) L ((r + 10, 0) :: st) M X) : J sc d mi pc L ((k + 10, z) :: st) M X := by
  intro p l e R s m args below meth c cells slots Q E A F hsc hX H locs ls hH hL
  obtain ⟨C, T, N, ty, ⟨c1, c2, c3, c4⟩, hj, hl, hC, hfin, ht, rfl⟩ := fl
  refine va_get (D := E.1) (cl := vwCl) (v := .ref (E.2.1 r)) F.1 F.2.1 F.2.2.2.2.1 c2 F.2.2.2.1 F.2.2.2.2.2.1 hH.1 k (j_w_at hsh) c1 j hj (F.2.2.2.2.1 _ hl) (fun x h => by rw [hC] at h; exact h) ?_ hd (kk p l e R s m args below meth c cells slots Q E A F hsc hX H locs ls hH hL)
  show (j_fs E (M k) 0 fs)[j]? = _
  rw [j_fs_get, hf]
  simp
theorem j_nar {t : FieldType} {v : Int} (ht : t = .int ∨ t = .boolean ∧ (v = 0 ∨ v = 1)) : narrow t (.int (Int32.ofInt v)) = .int (Int32.ofInt v) ∧ fits t (.int (Int32.ofInt v)) = true := by
  rcases ht with rfl | ⟨rfl, rfl | rfl⟩
  · exact ⟨rfl, rfl⟩
  · exact ⟨by decide +kernel, by decide +kernel⟩
  · exact ⟨by decide +kernel, by decide +kernel⟩
theorem J_putI {idx ci j k : Nat} {jz z v : Int} {t : FieldType} {fs : List (Option Nat)} (hd : decode mi.2.1 pc = .ok (.putfield idx, 3)) (fl : j_FL mi.1.cls idx ci j jz false t) (hsh : j_sh[k]? = some (0, ci, fs)) (hf : fs[j]? = some none) (hty : t = .int ∨ t = .boolean ∧ (v = 0 ∨ v = 1)) (kk : J sc d mi (pc + 3) L st (j_up M k jz v) X) : J sc d mi pc L ((0, v) :: (k + 10, z) :: st) M X := by
  intro p l e R s m args below meth c cells slots Q E A F hsc hX H locs ls hH hL
  obtain ⟨C, T, N, ty, ⟨c1, c2, c3, c4⟩, hj, hl, hC, hfin, ht, rfl⟩ := fl
  have hlen : j < (j_fs E (M k) 0 fs).length := by
    rcases Nat.lt_or_ge j (j_fs E (M k) 0 fs).length with q | q
    · exact q
    · have := List.getElem?_eq_none_iff.mpr q
      rw [j_fs_get, hf] at this
      simp at this
  refine va_put (D := E.1) (cl := vwCl) (v := .int (Int32.ofInt v)) (ty := t) F.1 F.2.1 F.2.2.2.2.1 c2 ty c3 c4 F.2.2.2.1 F.2.2.2.2.2.1 hH.1 hH.2.1 hH.2.2 k (j_w_at hsh) c1 j hj (F.2.2.2.2.1 _ hl) (fun x h => by rw [hC] at h; exact h) hfin (by rw [c3 j hj, ht]) (j_nar hty).1 (j_nar hty).2 hlen hd (fun H1 locs1 hP hD hS => ?_)
  have e1 : (j_w E M).set k (E.2.1 k, .inr (ci, (j_fs E (M k) 0 fs).set j (.int (Int32.ofInt v)))) = j_w E (j_up M k (j : Int) v) := j_w_up hsh (by rw [j_fs_set hf]; rfl)
  rw [e1] at hP hD
  exact kk p l e R s m args below meth c cells slots Q E A F hsc hX H1 locs1 ls ⟨hP, hD, hS⟩ hL
theorem J_iald {k n : Nat} {i z : Int} (hd : decode mi.2.1 pc = .ok (.iaload, 1)) (hsh : j_sh[k]? = some (1, n, [])) (hn : n < 2147483648) (hi : 0 ≤ i ∧ i < (n : Int)) (kk : J sc d mi (pc + 1) L ((0, M k i) :: st) M X) : J sc d mi pc L ((0, i) :: (k + 10, z) :: st) M X := by
  intro p l e R s m args below meth c cells slots Q E A F hsc hX H locs ls hH hL
  have hk := kk p l e R s m args below meth c cells slots Q E A F hsc hX H locs ls hH hL
  refine va_iald (D := E.1) (cl := vwCl) (tys := j_ty E) (i := Int32.ofInt i) (f := fun j => Int32.ofInt (M k (j : Int))) F.1 F.2.1 F.2.2.2.2.2.1 hH.1 k 0 (j_w_at hsh) rfl (j_in hn hi) hd ?_
  rw [j_tn hn hi, j_toN hi.1]
  exact hk
theorem J_lald {k n : Nat} {i z : Int} (hd : decode mi.2.1 pc = .ok (.laload, 1)) (hsh : j_sh[k]? = some (2, n, [])) (hn : n < 2147483648) (hi : 0 ≤ i ∧ i < (n : Int)) (kk : J sc d mi (pc + 1) L ((1, M k i) :: st) M X) : J sc d mi pc L ((0, i) :: (k + 10, z) :: st) M X := by
  intro p l e R s m args below meth c cells slots Q E A F hsc hX H locs ls hH hL
  have hk := kk p l e R s m args below meth c cells slots Q E A F hsc hX H locs ls hH hL
  refine va_lald (D := E.1) (cl := vwCl) (tys := j_ty E) (i := Int32.ofInt i) (f := fun j => Int64.ofInt (M k (j : Int))) F.1 F.2.1 F.2.2.2.2.2.1 hH.1 k 1 (j_w_at hsh) rfl (j_in hn hi) hd ?_
  rw [j_tn hn hi, j_toN hi.1]
  exact hk
theorem J_bald {k n : Nat} {i z : Int} (hd : decode mi.2.1 pc = .ok (.baload, 1)) (hsh : j_sh[k]? = some (3, n, [])) (hn : n < 2147483648) (hi : 0 ≤ i ∧ i < (n : Int)) (kk : J sc d mi (pc + 1) L ((0, M k i) :: st) M X) : J sc d mi pc L ((0, i) :: (k + 10, z) :: st) M X := by
  intro p l e R s m args below meth c cells slots Q E A F hsc hX H locs ls hH hL
  have hk := kk p l e R s m args below meth c cells slots Q E A F hsc hX H locs ls hH hL
  refine va_zald (D := E.1) (cl := vwCl) (tys := j_ty E) (i := Int32.ofInt i) (f := fun j => Int32.ofInt (M k (j : Int))) F.1 F.2.1 F.2.2.2.2.2.1 hH.1 k 2 (j_w_at hsh) rfl (j_in hn hi) hd ?_
  rw [j_tn hn hi, j_toN hi.1]
  exact hk
theorem J_iast {k n : Nat} {i z v : Int} (hd : decode mi.2.1 pc = .ok (.iastore, 1)) (hsh : j_sh[k]? = some (1, n, [])) (hn : n < 2147483648) (hi : 0 ≤ i ∧ i < (n : Int)) (kk : J sc d mi (pc + 1) L st (j_up M k i v) X) : J sc d mi pc L ((0, v) :: (0, i) :: (k + 10, z) :: st) M X := by
  intro p l e R s m args below meth c cells slots Q E A F hsc hX H locs ls hH hL
  refine va_iast (D := E.1) (cl := vwCl) (tys := j_ty E) (i := Int32.ofInt i) (x := Int32.ofInt v) (f := fun j => Int32.ofInt (M k (j : Int))) F.1 F.2.1 F.2.2.2.2.2.1 hH.1 hH.2.1 hH.2.2 k 0 (j_w_at hsh) rfl (j_in hn hi) hd (fun H1 locs1 hP hD hS => ?_)
  have e1 : upd (fun j : Nat => Int32.ofInt (M k (j : Int))) (Int32.ofInt i).toNatClampNeg (Int32.ofInt v) = (fun j : Nat => Int32.ofInt (j_up M k i v k (j : Int))) := by
    funext j
    rw [j_tn hn hi]
    unfold upd j_up
    rw [if_pos rfl]
    by_cases hj : (j : Int) = i
    · rw [if_pos (by omega), if_pos hj]
    · rw [if_neg (by omega), if_neg hj]
  rw [e1] at hP hD
  have e2 : (j_w E M).set k (E.2.1 k, Sum.inl (E.2.2.1 0, n, Sum.inl (fun j : Nat => Int32.ofInt (j_up M k i v k (j : Int))))) = j_w E (j_up M k i v) := j_w_up hsh rfl
  rw [e2] at hP hD
  exact kk p l e R s m args below meth c cells slots Q E A F hsc hX H1 locs1 ls ⟨hP, hD, hS⟩ hL
theorem J_last {k n : Nat} {i z v : Int} (hd : decode mi.2.1 pc = .ok (.lastore, 1)) (hsh : j_sh[k]? = some (2, n, [])) (hn : n < 2147483648) (hi : 0 ≤ i ∧ i < (n : Int)) (kk : J sc d mi (pc + 1) L st (j_up M k i v) X) : J sc d mi pc L ((1, v) :: (0, i) :: (k + 10, z) :: st) M X := by
  intro p l e R s m args below meth c cells slots Q E A F hsc hX H locs ls hH hL
  refine va_last (D := E.1) (cl := vwCl) (tys := j_ty E) (i := Int32.ofInt i) (x := Int64.ofInt v) (f := fun j => Int64.ofInt (M k (j : Int))) F.1 F.2.1 F.2.2.2.2.2.1 hH.1 hH.2.1 hH.2.2 k 1 (j_w_at hsh) rfl (j_in hn hi) hd (fun H1 locs1 hP hD hS => ?_)
  have e1 : vp_updL (fun j : Nat => Int64.ofInt (M k (j : Int))) (Int32.ofInt i).toNatClampNeg (Int64.ofInt v) = (fun j : Nat => Int64.ofInt (j_up M k i v k (j : Int))) := by
    funext j
    rw [j_tn hn hi]
    unfold vp_updL j_up
    rw [if_pos rfl]
    by_cases hj : (j : Int) = i
    · rw [if_pos (by omega), if_pos hj]
    · rw [if_neg (by omega), if_neg hj]
  rw [e1] at hP hD
  have e2 : (j_w E M).set k (E.2.1 k, Sum.inl (E.2.2.1 1, n, Sum.inr <| Sum.inl (fun j : Nat => Int64.ofInt (j_up M k i v k (j : Int))))) = j_w E (j_up M k i v) := j_w_up hsh rfl
  rw [e2] at hP hD
  exact kk p l e R s m args below meth c cells slots Q E A F hsc hX H1 locs1 ls ⟨hP, hD, hS⟩ hL
theorem J_bast {k n : Nat} {i z v : Int} (hd : decode mi.2.1 pc = .ok (.bastore, 1)) (hsh : j_sh[k]? = some (3, n, [])) (hn : n < 2147483648) (hi : 0 ≤ i ∧ i < (n : Int)) (hv : v = 0 ∨ v = 1) (kk : J sc d mi (pc + 1) L st (j_up M k i v) X) : J sc d mi pc L ((0, v) :: (0, i) :: (k + 10, z) :: st) M X := by
  intro p l e R s m args below meth c cells slots Q E A F hsc hX H locs ls hH hL
  have hnr : vp_nar .boolean (Int32.ofInt v) = Int32.ofInt v := by
    rcases hv with rfl | rfl
    · decide +kernel
    · decide +kernel
  refine va_zast (D := E.1) (cl := vwCl) (tys := j_ty E) (i := Int32.ofInt i) (x := Int32.ofInt v) (f := fun j => Int32.ofInt (M k (j : Int))) F.1 F.2.1 F.2.2.2.2.2.1 hH.1 hH.2.1 hH.2.2 k 2 (j_w_at hsh) rfl (j_in hn hi) hd (fun H1 locs1 hP hD hS => ?_)
  rw [hnr] at hP hD
  have e1 : upd (fun j : Nat => Int32.ofInt (M k (j : Int))) (Int32.ofInt i).toNatClampNeg (Int32.ofInt v) = (fun j : Nat => Int32.ofInt (j_up M k i v k (j : Int))) := by
    funext j
    rw [j_tn hn hi]
    unfold upd j_up
    rw [if_pos rfl]
    by_cases hj : (j : Int) = i
    · rw [if_pos (by omega), if_pos hj]
    · rw [if_neg (by omega), if_neg hj]
  rw [e1] at hP hD
  have e2 : (j_w E M).set k (E.2.1 k, Sum.inl (E.2.2.1 2, n, Sum.inl (fun j : Nat => Int32.ofInt (j_up M k i v k (j : Int))))) = j_w E (j_up M k i v) := j_w_up hsh rfl
  rw [e2] at hP hD
  exact kk p l e R s m args below meth c cells slots Q E A F hsc hX H1 locs1 ls ⟨hP, hD, hS⟩ hL
theorem J_alen {k n : Nat} {z nz : Int} (hd : decode mi.2.1 pc = .ok (.arraylength, 1)) (hsh : j_sh[k]? = some (1, n, [])) (hnz : (n : Int) = nz) (kk : J sc d mi (pc + 1) L ((0, nz) :: st) M X) : J sc d mi pc L ((k + 10, z) :: st) M X := by
  intro p l e R s m args below meth c cells slots Q E A F hsc hX H locs ls hH hL
  refine va_alen (D := E.1) (cl := vwCl) (tys := j_ty E) F.1 F.2.1 F.2.2.2.2.2.1 hH.1 k 0 (j_w_at hsh) rfl (v := Int32.ofInt nz) ?_ hd (kk p l e R s m args below meth c cells slots Q E A F hsc hX H locs ls hH hL)
  rw [← hnz]
  rfl
theorem J_slen {n : Nat} {z nz : Int} {xs : Nat → Int} (hd : decode mi.2.1 pc = .ok (.arraylength, 1)) (hs : sc = some (n, xs)) (hnz : (n : Int) = nz) (kk : J sc d mi (pc + 1) L ((0, nz) :: st) M X) : J sc d mi pc L ((5, z) :: st) M X := by
  intro p l e R s m args below meth c cells slots Q E A F hsc hX H locs ls hH hL
  obtain ⟨x1, x2, x3⟩ := hsc n xs hs
  have hk := kk p l e R s m args below meth c cells slots Q E A F hsc hX H locs ls hH hL
  refine va_slen F.1 F.2.1 x1 x2 x3 hH.2.2 hd ?_
  have e : j_cv E (0, nz) = .int (Int32.ofNat n) := by
    rw [← hnz]; rfl
  rw [List.map_cons, e] at hk
  exact hk
theorem J_sld {n : Nat} {z i : Int} {xs : Nat → Int} (hd : decode mi.2.1 pc = .ok (.iaload, 1)) (hs : sc = some (n, xs)) (hn : n < 2147483648) (hi : 0 ≤ i ∧ i < (n : Int)) (kk : J sc d mi (pc + 1) L ((0, xs i.toNat) :: st) M X) : J sc d mi pc L ((0, i) :: (5, z) :: st) M X := by
  intro p l e R s m args below meth c cells slots Q E A F hsc hX H locs ls hH hL
  obtain ⟨x1, x2, x3⟩ := hsc n xs hs
  have hk := kk p l e R s m args below meth c cells slots Q E A F hsc hX H locs ls hH hL
  refine va_sld (i := Int32.ofInt i) F.1 F.2.1 x1 x2 x3 hH.2.2 (j_in hn hi) hd ?_
  rw [j_tn hn hi]
  exact hk
theorem J_getC {idx : Nat} (hd : decode mi.2.1 pc = .ok (.getstatic idx, 3)) (hl : Cond.fieldLink mi.1.cls idx "ShellPeel$Facets" "CHOICES" "[I" ∈ j_all) (kk : J sc d mi (pc + 3) L ((6, 0) :: st) M X) : J sc d mi pc L st M X := by
  intro p l e R s m args below meth c cells slots Q E A F hsc hX H locs ls hH hL
  exact va_gets F.1 F.2.1 F.2.2.2.2.2.2.2.2.2.2.2.1 hH.2.2 F.2.2.2.1 (F.2.2.2.2.1 _ hl) (fun _ h => h) hd (kk p l e R s m args below meth c cells slots Q E A F hsc hX H locs ls hH hL)
theorem J_cald {i z : Int} (hd : decode mi.2.1 pc = .ok (.iaload, 1)) (hi : 0 ≤ i ∧ i < 36) (kk : J sc d mi (pc + 1) L ((0, j_chs.getD i.toNat 0) :: st) M X) : J sc d mi pc L ((0, i) :: (6, z) :: st) M X := by
  intro p l e R s m args below meth c cells slots Q E A F hsc hX H locs ls hH hL
  have hi2 : 0 ≤ i ∧ i < ((36 : Nat) : Int) := by omega
  exact va_ti (i := Int32.ofInt i) F.1 F.2.1 F.2.2.2.2.2.2.2.2.2.2.2.2.1 hH.2.2 (j_in (by decide) hi2) (by rw [j_tn (by decide) hi2]; rfl) hd (kk p l e R s m args below meth c cells slots Q E A F hsc hX H locs ls hH hL)
theorem J_ldcT {idx i : Nat} {z : Int} {tx : String} (hd : decode mi.2.1 pc = .ok (.ldc idx, 2)) (ht : (mi.1.cls, idx, tx, i) ∈ j_texts) (hz : z.toNat = i) (kk : J sc d mi (pc + 2) L ((4, z) :: st) M X) : J sc d mi pc L st M X := by
  intro p l e R s m args below meth c cells slots Q E A F hsc hX H locs ls hH hL
  have h1 := F.2.2.2.2.2.2.2.2.2.2.2.2.2.2.1 _ ht
  subst hz
  exact va_ldcS F.1 F.2.1 F.2.2.2.1 h1 hd (kk p l e R s m args below meth c cells slots Q E A F hsc hX H locs ls hH hL)
end JMEM
