theorem fmmin1 : Cond.code Lib.Math.min.name Lib.Math.min.code 2 (some .int) ∈ j_all := j_mem 353 (by decide +kernel) (by decide +kernel)
theorem fmmin2 : Cond.initialized "java/lang/Math" ∈ j_all := j_mem 107 (by decide +kernel) (by decide +kernel)
theorem fmmin3 : Cond.static Lib.Math.min.name ∈ j_all := j_mem 352 (by decide +kernel) (by decide +kernel)
section JMmin
variable {sc : Option (Nat × (Nat → Int))} {d : Nat} {mi : jI} {pc : Nat} {L L' st : List jV} {M : jM} {X : jX}
theorem J_mmin {a b z : Int} {idx : Nat} (hd : decode mi.2.1 pc = .ok (.invokestatic idx, 3)) (hl : Cond.methodLink mi.1.cls idx Lib.Math.min.name ∈ j_all) (hdd : 1 ≤ d) (hw : j_wt st ≤ 8) (ha : -2147483648 ≤ a ∧ a < 2147483648) (hb : -2147483648 ≤ b ∧ b < 2147483648) (hz : (if b < a then b else a) = z) (kk : J sc d mi (pc + 3) L ((0, z) :: st) M X) : J sc d mi pc L ((0, b) :: (0, a) :: st) M X := by
  intro p l e R s m args below meth c cells slots Q E A F hsc hX H locs ls hH hL
  have hk := kk p l e R s m args below meth c cells slots Q E A F hsc hX H locs ls hH hL
  have e9 : j_cv E (0, z) = .int (if Int32.ofInt b < Int32.ofInt a then Int32.ofInt b else Int32.ofInt a) := by
    show Value.int (Int32.ofInt z) = _
    rw [← hz]
    by_cases q : b < a
    · rw [if_pos q, if_pos (by simp only [Int32.lt_iff_toInt_lt, j_oi ha, j_oi hb]; exact q)]
    · rw [if_neg q, if_neg (by simp only [Int32.lt_iff_toInt_lt, j_oi ha, j_oi hb]; exact q)]
  rw [List.map_cons, e9] at hk
  refine va_mmin F.1 F.2.1 (F.2.2.1.trans hL.1.symm) F.2.2.2.1 (F.2.2.2.2.1 _ hl) (F.2.2.2.2.1 _ fmmin3) (F.2.2.2.2.1 _ fmmin2) (F.2.2.2.2.1 _ fmmin1) ?_ ?_ F.2.2.2.2.2.2.2.2.2.1 F.2.2.2.2.2.2.2.2.2.2.1 hd hk
  · have := F.2.2.2.2.2.2.2.1
    omega
  · have := F.2.2.2.2.2.2.2.2.1
    rw [j_wt_eq]
    omega
end JMmin
theorem fmmax1 : Cond.code Lib.Math.max.name Lib.Math.max.code 2 (some .int) ∈ j_all := j_mem 356 (by decide +kernel) (by decide +kernel)
theorem fmmax2 : Cond.initialized "java/lang/Math" ∈ j_all := j_mem 107 (by decide +kernel) (by decide +kernel)
theorem fmmax3 : Cond.static Lib.Math.max.name ∈ j_all := j_mem 355 (by decide +kernel) (by decide +kernel)
section JMmax
variable {sc : Option (Nat × (Nat → Int))} {d : Nat} {mi : jI} {pc : Nat} {L L' st : List jV} {M : jM} {X : jX}
theorem J_mmax {a b z : Int} {idx : Nat} (hd : decode mi.2.1 pc = .ok (.invokestatic idx, 3)) (hl : Cond.methodLink mi.1.cls idx Lib.Math.max.name ∈ j_all) (hdd : 1 ≤ d) (hw : j_wt st ≤ 8) (ha : -2147483648 ≤ a ∧ a < 2147483648) (hb : -2147483648 ≤ b ∧ b < 2147483648) (hz : (if a < b then b else a) = z) (kk : J sc d mi (pc + 3) L ((0, z) :: st) M X) : J sc d mi pc L ((0, b) :: (0, a) :: st) M X := by
  intro p l e R s m args below meth c cells slots Q E A F hsc hX H locs ls hH hL
  have hk := kk p l e R s m args below meth c cells slots Q E A F hsc hX H locs ls hH hL
  have e9 : j_cv E (0, z) = .int (if Int32.ofInt a < Int32.ofInt b then Int32.ofInt b else Int32.ofInt a) := by
    show Value.int (Int32.ofInt z) = _
    rw [← hz]
    by_cases q : a < b
    · rw [if_pos q, if_pos (by simp only [Int32.lt_iff_toInt_lt, j_oi ha, j_oi hb]; exact q)]
    · rw [if_neg q, if_neg (by simp only [Int32.lt_iff_toInt_lt, j_oi ha, j_oi hb]; exact q)]
  rw [List.map_cons, e9] at hk
  refine va_mmax F.1 F.2.1 (F.2.2.1.trans hL.1.symm) F.2.2.2.1 (F.2.2.2.2.1 _ hl) (F.2.2.2.2.1 _ fmmax3) (F.2.2.2.2.1 _ fmmax2) (F.2.2.2.2.1 _ fmmax1) ?_ ?_ F.2.2.2.2.2.2.2.2.2.1 F.2.2.2.2.2.2.2.2.2.2.1 hd hk
  · have := F.2.2.2.2.2.2.2.1
    omega
  · have := F.2.2.2.2.2.2.2.2.1
    rw [j_wt_eq]
    omega
end JMmax
/-! the class's tape -/
def Tz (zs : List Int) (ks : List Nat) (M M' : jM) : Prop := Ch (1 :: ks) M M' ∧ ∀ z, z ∉ zs → M' 1 z = M 1 z
theorem Tz_rf {zs : List Int} {ks : List Nat} {M : jM} : Tz zs ks M M := ⟨Ch_rf, fun _ _ => rfl⟩
theorem Tz_tr {zs : List Int} {ks : List Nat} {M M1 M2 : jM} (h1 : Tz zs ks M M1) (h2 : Tz zs ks M1 M2) : Tz zs ks M M2 := ⟨Ch_tr h1.1 h2.1, fun z hz => (h2.2 z hz).trans (h1.2 z hz)⟩
theorem Tz_mo {zs zs' : List Int} {ks ks' : List Nat} {M M1 : jM} (h : Tz zs ks M M1) (h1 : ∀ z ∈ zs, z ∈ zs') (h2 : ∀ k ∈ ks, k ∈ ks') : Tz zs' ks' M M1 := ⟨Ch_mo h.1 (fun k hk => (List.mem_cons.mp hk).elim (fun e => by rw [e]; exact List.mem_cons_self) (fun e => List.mem_cons_of_mem _ (h2 k e))), fun z hz => h.2 z (fun q => hz (h1 z q))⟩
theorem Tz_upk {zs : List Int} {ks : List Nat} {M M1 : jM} {k : Nat} {z v : Int} (hk : k ∈ ks) (h1 : k ≠ 1) (h : Tz zs ks M M1) : Tz zs ks M (j_up M1 k z v) := ⟨Ch_up (List.mem_cons_of_mem _ hk) h.1, fun z' hz => by rw [j_up_ne (fun q => h1 q.symm)]; exact h.2 z' hz⟩
theorem Tz_upz {zs : List Int} {ks : List Nat} {M M1 : jM} {z v : Int} (hz : z ∈ zs) (h : Tz zs ks M M1) : Tz zs ks M (j_up M1 1 z v) := ⟨Ch_up List.mem_cons_self h.1, fun z' hz' => by rw [j_up_nz (fun q => hz' (by rw [q]; exact hz))]; exact h.2 z' hz'⟩
def TM (n : Nat) (tb : Nat → Nat) (M : jM) : Prop := n ≤ 200 ∧ M 1 8 = (n : Int) ∧ ∀ i : Nat, i < n → M 2 (i : Int) = (tb i : Int) ∧ tb i < 256
theorem tm_tz {n : Nat} {tb : Nat → Nat} {M M' : jM} {zs : List Int} {ks : List Nat} (hf : Tz zs ks M M') (hz : (8 : Int) ∉ zs) (hk : 2 ∉ ks) (h : TM n tb M) : TM n tb M' := by
  refine ⟨h.1, by rw [hf.2 8 hz]; exact h.2.1, fun i hi => ?_⟩
  rw [hf.1 2 (by simp [hk])]
  exact h.2.2 i hi
theorem tm_upF {n : Nat} {tb : Nat → Nat} {M : jM} {z v : Int} (hz : (8 : Int) ≠ z) (h : TM n tb M) : TM n tb (j_up M 1 z v) := ⟨h.1, ru_nz hz h.2.1, fun i hi => ⟨ru_ne (by decide) (h.2.2 i hi).1, (h.2.2 i hi).2⟩⟩
theorem tm_upA {n : Nat} {tb : Nat → Nat} {M : jM} {k : Nat} {z v : Int} (hk : 1 ≠ k ∧ 2 ≠ k) (h : TM n tb M) : TM n tb (j_up M k z v) := ⟨h.1, ru_ne hk.1 h.2.1, fun i hi => ⟨ru_ne hk.2 (h.2.2 i hi).1, (h.2.2 i hi).2⟩⟩
def kn (t : Nat) : Nat := if t = 0 then 0 else if t = 2 then 1 else if t = 3 then 2 else if t = 59 then 3 else 4
theorem kn_le (t : Nat) : kn t ≤ 4 := by
  unfold kn
  repeat' split
  all_goals decide
theorem kn1 {t : Nat} : kn t = 1 ↔ t = 2 := by
  unfold kn
  constructor
  · intro h
    split at h
    · omega
    split at h
    · assumption
    split at h
    · omega
    split at h <;> omega
  · intro h
    subst h
    rfl
theorem kn2 {t : Nat} : kn t = 2 ↔ t = 3 := by
  unfold kn
  constructor
  · intro h
    split at h
    · omega
    split at h
    · omega
    split at h
    · assumption
    split at h <;> omega
  · intro h
    subst h
    rfl
theorem kn0 {t : Nat} : kn t = 0 ↔ t = 0 := by
  unfold kn
  constructor
  · intro h
    split at h
    · assumption
    split at h
    · omega
    split at h
    · omega
    split at h <;> omega
  · intro h
    subst h
    rfl
theorem kn3 {t : Nat} : kn t = 3 ↔ t = 59 := by
  unfold kn
  constructor
  · intro h
    split at h
    · omega
    split at h
    · omega
    split at h
    · omega
    split at h
    · assumption
    · omega
  · intro h
    subst h
    rfl
/-- the token at s is the one that the class has before it -/
def TC (n : Nat) (tb : Nat → Nat) (s : Nat) (M : jM) : Prop := TM n tb M ∧ s ≤ n ∧ M 1 10 = (tkP n tb s : Int) ∧ M 1 11 = (tkN n tb s : Int) ∧ M 1 9 = (kn (tkK n tb s) : Int)
theorem tc_upF {n : Nat} {tb : Nat → Nat} {s : Nat} {M : jM} {z v : Int} (hz : (8 : Int) ≠ z ∧ (9 : Int) ≠ z ∧ (10 : Int) ≠ z ∧ (11 : Int) ≠ z) (h : TC n tb s M) : TC n tb s (j_up M 1 z v) := ⟨tm_upF hz.1 h.1, h.2.1, ru_nz hz.2.2.1 h.2.2.1, ru_nz hz.2.2.2 h.2.2.2.1, ru_nz hz.2.1 h.2.2.2.2⟩
theorem tc_upA {n : Nat} {tb : Nat → Nat} {s : Nat} {M : jM} {k : Nat} {z v : Int} (hk : 1 ≠ k ∧ 2 ≠ k) (h : TC n tb s M) : TC n tb s (j_up M k z v) := ⟨tm_upA hk h.1, h.2.1, ru_ne hk.1 h.2.2.1, ru_ne hk.1 h.2.2.2.1, ru_ne hk.1 h.2.2.2.2⟩
def MtQ (n : Nat) (tb : Nat → Nat) (s i : Nat) (M : jM) (z : Int) (M' : jM) : Prop := TC n tb s M' ∧ Tz [2, 3, 9, 10, 11] [] M M' ∧ z = (((wdB n tb s i).toNat : Nat) : Int) ∧ (wdB n tb s i = true → M' 1 2 = M 1 2) ∧ (wdB n tb s i = false → M' 1 2 = 1 ∧ M' 1 3 = (tkP n tb s : Int))
def mwB (n : Nat) (tb : Nat → Nat) (s hi : Nat) : Bool := (tkK n tb s == 3) && decide (1 ≤ tkW n tb s ∧ tkW n tb s ≤ hi)
def MwQ (n : Nat) (tb : Nat → Nat) (s hi : Nat) (M : jM) (z : Int) (M' : jM) : Prop := TC n tb s M' ∧ Tz [2, 3, 9, 10, 11, 12] [] M M' ∧ z = (((mwB n tb s hi).toNat : Nat) : Int) ∧ (mwB n tb s hi = true → M' 1 2 = M 1 2 ∧ M' 1 12 = (tkW n tb s : Int)) ∧ (mwB n tb s hi = false → M' 1 2 = ((if tkK n tb s = 3 then 2 else 1 : Nat) : Int) ∧ M' 1 3 = (tkP n tb s : Int))
theorem tk_whole {n : Nat} {tb : Nat → Nat} {s : Nat} (h : tkK n tb s = 3) : tkN n tb s - tkP n tb s ≤ 2 ∧ ∀ j, tkP n tb s ≤ j → j < tkN n tb s → 48 ≤ tb j ∧ tb j ≤ 57 := by
  unfold tkK at h
  split at h
  · omega
  rename_i h0
  split at h
  · split at h <;> omega
  · rename_i h1
    split at h
    · rename_i h2
      refine ⟨by split at h <;> omega, fun j h3 h4 => ?_⟩
      unfold tkN at h4
      rw [if_neg h0, if_neg h1, if_pos h2] at h4
      exact of_decide_eq_true (rnT_all (dgB tb) n _ j h3 h4)
    · split at h <;> omega
theorem dgW_s {tb : Nat → Nat} {a k : Nat} (hk : k < 2) (h : 48 ≤ tb (a + k) ∧ tb (a + k) ≤ 57) : ((dgW tb a k : Nat) : Int) * 10 + ((tb (a + k) : Nat) : Int) - 48 = ((dgW tb a (k + 1) : Nat) : Int) := by
  unfold dgW
  by_cases e : k = 0
  · subst e
    rw [if_pos rfl, if_neg (by omega), if_pos rfl]
    rw [Nat.add_zero] at h ⊢
    omega
  · have : k = 1 := by omega
    subst this
    rw [if_neg (by omega), if_pos rfl, if_neg (by omega), if_neg (by omega)]
    omega
theorem dgW_b {tb : Nat → Nat} {a k : Nat} (hk : k ≤ 2) (h : ∀ j, j < k → 48 ≤ tb (a + j) ∧ tb (a + j) ≤ 57) : dgW tb a k < 100 := by
  unfold dgW
  split
  · decide
  · split
    · have := h 0 (by omega)
      rw [Nat.add_zero] at this
      omega
    · have h0 := h 0 (by omega)
      have h1 := h 1 (by omega)
      rw [Nat.add_zero] at h0
      omega
set_option maxRecDepth 100000 in
set_option maxHeartbeats 4000000 in
theorem ev_X5_isLetter (x : Nat) (hx : x < 2147483648) (M : jM) : Ev 0 mX5_isLetter [(0, ((x : Nat) : Int))] M (fun z M' => z = ((Bool.toNat (decide (97 ≤ x ∧ x ≤ 122)) : Nat) : Int) ∧ M' = M) := by
  refine Ev_of (by decide +kernel) (Nat.le_of_ble_eq_true rfl) (L := [(0, ((x : Nat) : Int))]) rfl ?_
  refine J_iload_n dX5_isLetter_0 rfl ?_
  refine J_bipush dX5_isLetter_1 (by decide) ?_
  refine J_icmp_lt (tgt := 16) dX5_isLetter_3 rfl (j_R hx) (by decide) (fun h3 => ?_) (fun h3 => ?_)
  ·
    refine J_iconst dX5_isLetter_16 ?_
    refine J_zreturn dX5_isLetter_17 rfl (Or.inl rfl) ?_
    exact ⟨df (by omega), rfl⟩
  ·
    refine J_iload_n dX5_isLetter_6 rfl ?_
    refine J_bipush dX5_isLetter_7 (by decide) ?_
    refine J_icmp_gt (tgt := 16) dX5_isLetter_9 rfl (j_R hx) (by decide) (fun h9 => ?_) (fun h9 => ?_)
    ·
      refine J_iconst dX5_isLetter_16 ?_
      refine J_zreturn dX5_isLetter_17 rfl (Or.inl rfl) ?_
      exact ⟨df (by omega), rfl⟩
    ·
      refine J_iconst dX5_isLetter_12 ?_
      refine J_goto (tgt := 17) dX5_isLetter_13 rfl ?_
      refine J_zreturn dX5_isLetter_17 rfl (Or.inr rfl) ?_
      exact ⟨dt (by omega), rfl⟩
set_option maxRecDepth 100000 in
set_option maxHeartbeats 4000000 in
theorem ev_X5_isDigit (x : Nat) (hx : x < 2147483648) (M : jM) : Ev 0 mX5_isDigit [(0, ((x : Nat) : Int))] M (fun z M' => z = ((Bool.toNat (decide (48 ≤ x ∧ x ≤ 57)) : Nat) : Int) ∧ M' = M) := by
  refine Ev_of (by decide +kernel) (Nat.le_of_ble_eq_true rfl) (L := [(0, ((x : Nat) : Int))]) rfl ?_
  refine J_iload_n dX5_isDigit_0 rfl ?_
  refine J_bipush dX5_isDigit_1 (by decide) ?_
  refine J_icmp_lt (tgt := 16) dX5_isDigit_3 rfl (j_R hx) (by decide) (fun h3 => ?_) (fun h3 => ?_)
  ·
    refine J_iconst dX5_isDigit_16 ?_
    refine J_zreturn dX5_isDigit_17 rfl (Or.inl rfl) ?_
    exact ⟨df (by omega), rfl⟩
  ·
    refine J_iload_n dX5_isDigit_6 rfl ?_
    refine J_bipush dX5_isDigit_7 (by decide) ?_
    refine J_icmp_gt (tgt := 16) dX5_isDigit_9 rfl (j_R hx) (by decide) (fun h9 => ?_) (fun h9 => ?_)
    ·
      refine J_iconst dX5_isDigit_16 ?_
      refine J_zreturn dX5_isDigit_17 rfl (Or.inl rfl) ?_
      exact ⟨df (by omega), rfl⟩
    ·
      refine J_iconst dX5_isDigit_12 ?_
      refine J_goto (tgt := 17) dX5_isDigit_13 rfl ?_
      refine J_zreturn dX5_isDigit_17 rfl (Or.inr rfl) ?_
      exact ⟨dt (by omega), rfl⟩
set_option maxRecDepth 100000 in
set_option maxHeartbeats 4000000 in
theorem ev_X5_passLetters_L0 (n : Nat) (tb : Nat → Nat) (M : jM) (hM : TM n tb M) (t : Nat) (ht : t ≤ n) (h10 : M 1 10 = (t : Int)) (h11 : M 1 11 = (t : Int))  : ∀ (fu : Nat) (M1 : jM) (u : Nat) (f1 : Tz [11] [] M M1) (f2 : M1 1 11 = (u : Int)) (f3 : rnT (ltB tb) n t = rnT (ltB tb) n u) (f4 : t ≤ u ∧ u ≤ n) (hfu : n - u < fu), J none 1 mX5_passLetters 0 [(11, 0)] [] M1 (j_ret mX5_passLetters (fun z M' => z = ((rnT (ltB tb) n t - t : Nat) : Int) ∧ M' 1 11 = ((rnT (ltB tb) n t : Nat) : Int) ∧ Tz [11] [] M M')) := by
  intro fu
  induction fu with
  | zero => intro M1 u f1 f2 f3 f4 hfu; exact absurd hfu (Nat.not_lt_zero _)
  | succ fu ih =>
    intro M1 u f1 f2 f3 f4 hfu
    have hn2 := hM.1
    refine J_aload_n dX5_passLetters_0 rfl ?_
    refine J_getI dX5_passLetters_1 flX5_34 rfl rfl (J_top (v := ((u : Nat) : Int)) f2 ?_)
    refine J_aload_n dX5_passLetters_4 rfl ?_
    refine J_getI dX5_passLetters_5 flX5_31 rfl rfl (J_top (v := ((n : Nat) : Int)) (tm_tz f1 (by decide) (by decide) hM).2.1 ?_)
    refine J_icmp_ge (tgt := 39) dX5_passLetters_8 rfl (j_R (by omega)) (j_R (by have := hM.1; omega)) (fun h8 => ?_) (fun h8 => ?_)
    ·
      refine J_aload_n dX5_passLetters_39 rfl ?_
      refine J_getI dX5_passLetters_40 flX5_34 rfl rfl (J_top (v := ((u : Nat) : Int)) f2 ?_)
      refine J_aload_n dX5_passLetters_43 rfl ?_
      refine J_getI dX5_passLetters_44 flX5_66 rfl rfl (J_top (v := ((t : Nat) : Int)) (by rw [f1.2 10 (by decide)]; exact h10) ?_)
      refine J_isub dX5_passLetters_47 (J_top (v := (((u - t) : Nat) : Int)) (by omega) ?_)
      refine J_ireturn dX5_passLetters_48 rfl ?_
      have e9 : rnT (ltB tb) n t = u := by rw [f3]; exact rnT_end (by omega)
      rw [e9]
      exact ⟨rfl, f2, f1⟩
    ·
      refine J_aload_n dX5_passLetters_11 rfl ?_
      refine J_getR dX5_passLetters_12 flX5_11 rfl rfl ?_
      refine J_aload_n dX5_passLetters_15 rfl ?_
      refine J_getI dX5_passLetters_16 flX5_34 rfl rfl (J_top (v := ((u : Nat) : Int)) f2 ?_)
      refine J_iald dX5_passLetters_19 rfl (by decide) (by have := hM.1; omega) (J_top (v := (((tb u) : Nat) : Int)) ((tm_tz f1 (by decide) (by decide) hM).2.2 u (by omega)).1 ?_)
      refine J_callSiQ (cl := mX5_isLetter) [(0, (((tb u) : Nat) : Int))] [] dX5_passLetters_20 mlX5_113 csX5_isLetter rfl rfl (by decide) (Nat.le_of_ble_eq_true rfl) rfl (ev_X5_isLetter (tb u) (by have := (hM.2.2 u (by omega)).2; omega) M1) ?_
      refine J_ifb_eq (tgt := 39) dX5_passLetters_23 rfl (fun h23 => ?_) (fun h23 => ?_)
      ·
        refine J_aload_n dX5_passLetters_39 rfl ?_
        refine J_getI dX5_passLetters_40 flX5_34 rfl rfl (J_top (v := ((u : Nat) : Int)) f2 ?_)
        refine J_aload_n dX5_passLetters_43 rfl ?_
        refine J_getI dX5_passLetters_44 flX5_66 rfl rfl (J_top (v := ((t : Nat) : Int)) (by rw [f1.2 10 (by decide)]; exact h10) ?_)
        refine J_isub dX5_passLetters_47 (J_top (v := (((u - t) : Nat) : Int)) (by omega) ?_)
        refine J_ireturn dX5_passLetters_48 rfl ?_
        have e9 : rnT (ltB tb) n t = u := by rw [f3]; exact rnT_stop h23
        rw [e9]
        exact ⟨rfl, f2, f1⟩
      ·
        refine J_aload_n dX5_passLetters_26 rfl ?_
        refine J_dup dX5_passLetters_27 rfl ?_
        refine J_getI dX5_passLetters_28 flX5_34 rfl rfl (J_top (v := ((u : Nat) : Int)) f2 ?_)
        refine J_iconst dX5_passLetters_31 ?_
        refine J_iadd dX5_passLetters_32 (J_top (v := (((u + 1) : Nat) : Int)) (by omega) ?_)
        refine J_putI dX5_passLetters_33 flX5_34 rfl rfl (Or.inl rfl) ?_
        refine J_goto (tgt := 0) dX5_passLetters_36 rfl ?_
        exact ih _ _ (by exact Tz_upz (by decide) f1) (by exact j_up_eq) (by rw [f3, rnT_step (by omega) h23]) (by omega) (by omega)
set_option maxRecDepth 100000 in
set_option maxHeartbeats 4000000 in
theorem ev_X5_passLetters (n : Nat) (tb : Nat → Nat) (M : jM) (hM : TM n tb M) (t : Nat) (ht : t ≤ n) (h10 : M 1 10 = (t : Int)) (h11 : M 1 11 = (t : Int)) : Ev 1 mX5_passLetters [(11, 0)] M (fun z M' => z = ((rnT (ltB tb) n t - t : Nat) : Int) ∧ M' 1 11 = ((rnT (ltB tb) n t : Nat) : Int) ∧ Tz [11] [] M M') := by
  refine Ev_of (by decide +kernel) (Nat.le_of_ble_eq_true rfl) (L := [(11, 0)]) rfl ?_
  have hn2 := hM.1
  exact ev_X5_passLetters_L0 n tb M hM t ht h10 h11  _ _ _ (by exact Tz_rf) (by exact h11) (by rfl) (by omega) (Nat.lt_succ_self _)
set_option maxRecDepth 100000 in
set_option maxHeartbeats 4000000 in
theorem ev_X5_passDigits_L0 (n : Nat) (tb : Nat → Nat) (M : jM) (hM : TM n tb M) (t : Nat) (ht : t ≤ n) (h10 : M 1 10 = (t : Int)) (h11 : M 1 11 = (t : Int))  : ∀ (fu : Nat) (M1 : jM) (u : Nat) (f1 : Tz [11] [] M M1) (f2 : M1 1 11 = (u : Int)) (f3 : rnT (dgB tb) n t = rnT (dgB tb) n u) (f4 : t ≤ u ∧ u ≤ n) (hfu : n - u < fu), J none 1 mX5_passDigits 0 [(11, 0)] [] M1 (j_ret mX5_passDigits (fun z M' => z = ((rnT (dgB tb) n t - t : Nat) : Int) ∧ M' 1 11 = ((rnT (dgB tb) n t : Nat) : Int) ∧ Tz [11] [] M M')) := by
  intro fu
  induction fu with
  | zero => intro M1 u f1 f2 f3 f4 hfu; exact absurd hfu (Nat.not_lt_zero _)
  | succ fu ih =>
    intro M1 u f1 f2 f3 f4 hfu
    have hn2 := hM.1
    refine J_aload_n dX5_passDigits_0 rfl ?_
    refine J_getI dX5_passDigits_1 flX5_34 rfl rfl (J_top (v := ((u : Nat) : Int)) f2 ?_)
    refine J_aload_n dX5_passDigits_4 rfl ?_
    refine J_getI dX5_passDigits_5 flX5_31 rfl rfl (J_top (v := ((n : Nat) : Int)) (tm_tz f1 (by decide) (by decide) hM).2.1 ?_)
    refine J_icmp_ge (tgt := 39) dX5_passDigits_8 rfl (j_R (by omega)) (j_R (by have := hM.1; omega)) (fun h8 => ?_) (fun h8 => ?_)
    ·
      refine J_aload_n dX5_passDigits_39 rfl ?_
      refine J_getI dX5_passDigits_40 flX5_34 rfl rfl (J_top (v := ((u : Nat) : Int)) f2 ?_)
      refine J_aload_n dX5_passDigits_43 rfl ?_
      refine J_getI dX5_passDigits_44 flX5_66 rfl rfl (J_top (v := ((t : Nat) : Int)) (by rw [f1.2 10 (by decide)]; exact h10) ?_)
      refine J_isub dX5_passDigits_47 (J_top (v := (((u - t) : Nat) : Int)) (by omega) ?_)
      refine J_ireturn dX5_passDigits_48 rfl ?_
      have e9 : rnT (dgB tb) n t = u := by rw [f3]; exact rnT_end (by omega)
      rw [e9]
      exact ⟨rfl, f2, f1⟩
    ·
      refine J_aload_n dX5_passDigits_11 rfl ?_
      refine J_getR dX5_passDigits_12 flX5_11 rfl rfl ?_
      refine J_aload_n dX5_passDigits_15 rfl ?_
      refine J_getI dX5_passDigits_16 flX5_34 rfl rfl (J_top (v := ((u : Nat) : Int)) f2 ?_)
      refine J_iald dX5_passDigits_19 rfl (by decide) (by have := hM.1; omega) (J_top (v := (((tb u) : Nat) : Int)) ((tm_tz f1 (by decide) (by decide) hM).2.2 u (by omega)).1 ?_)
      refine J_callSiQ (cl := mX5_isDigit) [(0, (((tb u) : Nat) : Int))] [] dX5_passDigits_20 mlX5_119 csX5_isDigit rfl rfl (by decide) (Nat.le_of_ble_eq_true rfl) rfl (ev_X5_isDigit (tb u) (by have := (hM.2.2 u (by omega)).2; omega) M1) ?_
      refine J_ifb_eq (tgt := 39) dX5_passDigits_23 rfl (fun h23 => ?_) (fun h23 => ?_)
      ·
        refine J_aload_n dX5_passDigits_39 rfl ?_
        refine J_getI dX5_passDigits_40 flX5_34 rfl rfl (J_top (v := ((u : Nat) : Int)) f2 ?_)
        refine J_aload_n dX5_passDigits_43 rfl ?_
        refine J_getI dX5_passDigits_44 flX5_66 rfl rfl (J_top (v := ((t : Nat) : Int)) (by rw [f1.2 10 (by decide)]; exact h10) ?_)
        refine J_isub dX5_passDigits_47 (J_top (v := (((u - t) : Nat) : Int)) (by omega) ?_)
        refine J_ireturn dX5_passDigits_48 rfl ?_
        have e9 : rnT (dgB tb) n t = u := by rw [f3]; exact rnT_stop h23
        rw [e9]
        exact ⟨rfl, f2, f1⟩
      ·
        refine J_aload_n dX5_passDigits_26 rfl ?_
        refine J_dup dX5_passDigits_27 rfl ?_
        refine J_getI dX5_passDigits_28 flX5_34 rfl rfl (J_top (v := ((u : Nat) : Int)) f2 ?_)
        refine J_iconst dX5_passDigits_31 ?_
        refine J_iadd dX5_passDigits_32 (J_top (v := (((u + 1) : Nat) : Int)) (by omega) ?_)
        refine J_putI dX5_passDigits_33 flX5_34 rfl rfl (Or.inl rfl) ?_
        refine J_goto (tgt := 0) dX5_passDigits_36 rfl ?_
        exact ih _ _ (by exact Tz_upz (by decide) f1) (by exact j_up_eq) (by rw [f3, rnT_step (by omega) h23]) (by omega) (by omega)
set_option maxRecDepth 100000 in
set_option maxHeartbeats 4000000 in
theorem ev_X5_passDigits (n : Nat) (tb : Nat → Nat) (M : jM) (hM : TM n tb M) (t : Nat) (ht : t ≤ n) (h10 : M 1 10 = (t : Int)) (h11 : M 1 11 = (t : Int)) : Ev 1 mX5_passDigits [(11, 0)] M (fun z M' => z = ((rnT (dgB tb) n t - t : Nat) : Int) ∧ M' 1 11 = ((rnT (dgB tb) n t : Nat) : Int) ∧ Tz [11] [] M M') := by
  refine Ev_of (by decide +kernel) (Nat.le_of_ble_eq_true rfl) (L := [(11, 0)]) rfl ?_
  have hn2 := hM.1
  exact ev_X5_passDigits_L0 n tb M hM t ht h10 h11  _ _ _ (by exact Tz_rf) (by exact h11) (by rfl) (by omega) (Nat.lt_succ_self _)
set_option maxRecDepth 100000 in
set_option maxHeartbeats 4000000 in
theorem ev_X5_step_L8 (n : Nat) (tb : Nat → Nat) (M : jM) (hM : TM n tb M) (s : Nat) (hsn : s ≤ n) (hs : M 1 11 = (s : Int))  : ∀ (fu : Nat) (M1 : jM) (t : Nat) (f1 : Tz [9, 10, 11] [] M M1) (f2 : M1 1 10 = (t : Int)) (f3 : tkP n tb s = rnT (blB tb) n t) (f4 : t ≤ n) (hfu : n - t < fu), J none 2 mX5_step 8 [(11, 0)] [] M1 (j_ret mX5_step (fun z M' => TC n tb s M' ∧ Tz [9, 10, 11] [] M M')) := by
  intro fu
  induction fu with
  | zero => intro M1 t f1 f2 f3 f4 hfu; exact absurd hfu (Nat.not_lt_zero _)
  | succ fu ih =>
    intro M1 t f1 f2 f3 f4 hfu
    have hn2 := hM.1
    refine J_aload_n dX5_step_8 rfl ?_
    refine J_getI dX5_step_9 flX5_66 rfl rfl (J_top (v := ((t : Nat) : Int)) f2 ?_)
    refine J_aload_n dX5_step_12 rfl ?_
    refine J_getI dX5_step_13 flX5_31 rfl rfl (J_top (v := ((n : Nat) : Int)) (tm_tz f1 (by decide) (by decide) hM).2.1 ?_)
    refine J_icmp_ge (tgt := 46) dX5_step_16 rfl (j_R (by omega)) (j_R (by have := hM.1; omega)) (fun h16 => ?_) (fun h16 => ?_)
    ·
      have hP : tkP n tb s = t := by rw [f3]; first | exact rnT_end (by omega) | exact rnT_stop (beq_eq_false_iff_ne.mpr (by omega))
      refine J_aload_n dX5_step_46 rfl ?_
      refine J_aload_n dX5_step_47 rfl ?_
      refine J_getI dX5_step_48 flX5_66 rfl rfl (J_top (v := ((t : Nat) : Int)) f2 ?_)
      refine J_putI dX5_step_51 flX5_34 rfl rfl (Or.inl rfl) ?_
      refine J_aload_n dX5_step_54 rfl ?_
      refine J_getI dX5_step_55 flX5_66 rfl rfl (J_top (v := ((t : Nat) : Int)) (ru_nz (by decide) f2) ?_)
      refine J_aload_n dX5_step_58 rfl ?_
      refine J_getI dX5_step_59 flX5_31 rfl rfl (J_top (v := ((n : Nat) : Int)) (tm_upF (by decide) (tm_tz f1 (by decide) (by decide) hM)).2.1 ?_)
      refine J_icmp_lt (tgt := 73) dX5_step_62 rfl (j_R (by omega)) (j_R (by have := hM.1; omega)) (fun h62 => ?_) (fun h62 => ?_)
      · omega
      ·
        refine J_aload_n dX5_step_65 rfl ?_
        refine J_iconst dX5_step_66 ?_
        refine J_putI dX5_step_67 flX5_59 rfl rfl (Or.inl rfl) ?_
        refine J_goto (tgt := 177) dX5_step_70 rfl ?_
        refine J_return dX5_step_177 rfl ?_
        refine ⟨⟨tm_upF (by decide) (tm_upF (by decide) (tm_tz f1 (by decide) (by decide) hM)), hsn, ?_, ?_, ?_⟩, Tz_upz (by decide) (Tz_upz (by decide) f1)⟩
        · rw [j_up_nz (by decide), j_up_nz (by decide), f2, hP]
        · rw [j_up_nz (by decide), j_up_eq]; congr 1; unfold tkN; rw [hP, if_pos (by omega)]
        · rw [j_up_eq]; unfold tkK; rw [hP, if_pos (by omega)]; rfl
    ·
      refine J_aload_n dX5_step_19 rfl ?_
      refine J_getR dX5_step_20 flX5_11 rfl rfl ?_
      refine J_aload_n dX5_step_23 rfl ?_
      refine J_getI dX5_step_24 flX5_66 rfl rfl (J_top (v := ((t : Nat) : Int)) f2 ?_)
      refine J_iald dX5_step_27 rfl (by decide) (by have := hM.1; omega) (J_top (v := (((tb t) : Nat) : Int)) ((tm_tz f1 (by decide) (by decide) hM).2.2 t (by omega)).1 ?_)
      refine J_bipush dX5_step_28 (by decide) ?_
      refine J_icmp_ne (tgt := 46) dX5_step_30 rfl (j_R (by have := (hM.2.2 t (by omega)).2; omega)) (by decide) (fun h30 => ?_) (fun h30 => ?_)
      ·
        have hP : tkP n tb s = t := by rw [f3]; first | exact rnT_end (by omega) | exact rnT_stop (beq_eq_false_iff_ne.mpr (by omega))
        refine J_aload_n dX5_step_46 rfl ?_
        refine J_aload_n dX5_step_47 rfl ?_
        refine J_getI dX5_step_48 flX5_66 rfl rfl (J_top (v := ((t : Nat) : Int)) f2 ?_)
        refine J_putI dX5_step_51 flX5_34 rfl rfl (Or.inl rfl) ?_
        refine J_aload_n dX5_step_54 rfl ?_
        refine J_getI dX5_step_55 flX5_66 rfl rfl (J_top (v := ((t : Nat) : Int)) (ru_nz (by decide) f2) ?_)
        refine J_aload_n dX5_step_58 rfl ?_
        refine J_getI dX5_step_59 flX5_31 rfl rfl (J_top (v := ((n : Nat) : Int)) (tm_upF (by decide) (tm_tz f1 (by decide) (by decide) hM)).2.1 ?_)
        refine J_icmp_lt (tgt := 73) dX5_step_62 rfl (j_R (by omega)) (j_R (by have := hM.1; omega)) (fun h62 => ?_) (fun h62 => ?_)
        ·
          refine J_aload_n dX5_step_73 rfl ?_
          refine J_getR dX5_step_74 flX5_11 rfl rfl ?_
          refine J_aload_n dX5_step_77 rfl ?_
          refine J_getI dX5_step_78 flX5_66 rfl rfl (J_top (v := ((t : Nat) : Int)) (ru_nz (by decide) f2) ?_)
          refine J_iald dX5_step_81 rfl (by decide) (by have := hM.1; omega) (J_top (v := (((tb t) : Nat) : Int)) ((tm_upF (by decide) (tm_tz f1 (by decide) (by decide) hM)).2.2 t (by omega)).1 ?_)
          refine J_callSiQ (cl := mX5_isLetter) [(0, (((tb t) : Nat) : Int))] [] dX5_step_82 mlX5_113 csX5_isLetter rfl rfl (by decide) (Nat.le_of_ble_eq_true rfl) rfl (ev_X5_isLetter (tb t) (by have := (hM.2.2 t (by omega)).2; omega) (j_up M1 1 11 ((t : Nat) : Int))) ?_
          refine J_ifb_eq (tgt := 109) dX5_step_85 rfl (fun h85 => ?_) (fun h85 => ?_)
          ·
            refine J_aload_n dX5_step_109 rfl ?_
            refine J_getR dX5_step_110 flX5_11 rfl rfl ?_
            refine J_aload_n dX5_step_113 rfl ?_
            refine J_getI dX5_step_114 flX5_66 rfl rfl (J_top (v := ((t : Nat) : Int)) (ru_nz (by decide) f2) ?_)
            refine J_iald dX5_step_117 rfl (by decide) (by have := hM.1; omega) (J_top (v := (((tb t) : Nat) : Int)) ((tm_upF (by decide) (tm_tz f1 (by decide) (by decide) hM)).2.2 t (by omega)).1 ?_)
            refine J_callSiQ (cl := mX5_isDigit) [(0, (((tb t) : Nat) : Int))] [] dX5_step_118 mlX5_119 csX5_isDigit rfl rfl (by decide) (Nat.le_of_ble_eq_true rfl) rfl (ev_X5_isDigit (tb t) (by have := (hM.2.2 t (by omega)).2; omega) (j_up M1 1 11 ((t : Nat) : Int))) ?_
            refine J_ifb_eq (tgt := 144) dX5_step_121 rfl (fun h121 => ?_) (fun h121 => ?_)
            ·
              refine J_aload_n dX5_step_144 rfl ?_
              refine J_aload_n dX5_step_145 rfl ?_
              refine J_getR dX5_step_146 flX5_11 rfl rfl ?_
              refine J_aload_n dX5_step_149 rfl ?_
              refine J_getI dX5_step_150 flX5_66 rfl rfl (J_top (v := ((t : Nat) : Int)) (ru_nz (by decide) f2) ?_)
              refine J_iald dX5_step_153 rfl (by decide) (by have := hM.1; omega) (J_top (v := (((tb t) : Nat) : Int)) ((tm_upF (by decide) (tm_tz f1 (by decide) (by decide) hM)).2.2 t (by omega)).1 ?_)
              refine J_bipush dX5_step_154 (by decide) ?_
              refine J_icmp_ne (tgt := 163) dX5_step_156 rfl (j_R (by have := (hM.2.2 t (by omega)).2; omega)) (by decide) (fun h156 => ?_) (fun h156 => ?_)
              ·
                refine J_iconst dX5_step_163 ?_
                refine J_putI dX5_step_164 flX5_59 rfl rfl (Or.inl rfl) ?_
                refine J_aload_n dX5_step_167 rfl ?_
                refine J_aload_n dX5_step_168 rfl ?_
                refine J_getI dX5_step_169 flX5_66 rfl rfl (J_top (v := ((t : Nat) : Int)) (ru_nz (by decide) (ru_nz (by decide) f2)) ?_)
                refine J_iconst dX5_step_172 ?_
                refine J_iadd dX5_step_173 (J_top (v := (((t + 1) : Nat) : Int)) (by omega) ?_)
                refine J_putI dX5_step_174 flX5_34 rfl rfl (Or.inl rfl) ?_
                refine J_return dX5_step_177 rfl ?_
                have hl : ltB tb t = false := h85
                have hd : dgB tb t = false := h121
                have hN : tkN n tb s = t + 1 := by unfold tkN; rw [hP, if_neg (by omega), if_neg (by rw [hl]; decide), if_neg (by rw [hd]; decide)]
                refine ⟨⟨tm_upF (by decide) (tm_upF (by decide) (tm_upF (by decide) (tm_tz f1 (by decide) (by decide) hM))), hsn, ?_, ?_, ?_⟩, Tz_upz (by decide) (Tz_upz (by decide) (Tz_upz (by decide) f1))⟩
                · rw [j_up_nz (by decide), j_up_nz (by decide), j_up_nz (by decide), f2, hP]
                · rw [j_up_eq, hN]
                · rw [j_up_nz (by decide), j_up_eq]; unfold tkK; rw [hP, if_neg (by omega), if_neg (by rw [hl]; decide), if_neg (by rw [hd]; decide), if_neg (by omega)]; rfl
              ·
                refine J_iconst dX5_step_159 ?_
                refine J_goto (tgt := 164) dX5_step_160 rfl ?_
                refine J_putI dX5_step_164 flX5_59 rfl rfl (Or.inl rfl) ?_
                refine J_aload_n dX5_step_167 rfl ?_
                refine J_aload_n dX5_step_168 rfl ?_
                refine J_getI dX5_step_169 flX5_66 rfl rfl (J_top (v := ((t : Nat) : Int)) (ru_nz (by decide) (ru_nz (by decide) f2)) ?_)
                refine J_iconst dX5_step_172 ?_
                refine J_iadd dX5_step_173 (J_top (v := (((t + 1) : Nat) : Int)) (by omega) ?_)
                refine J_putI dX5_step_174 flX5_34 rfl rfl (Or.inl rfl) ?_
                refine J_return dX5_step_177 rfl ?_
                have hl : ltB tb t = false := h85
                have hd : dgB tb t = false := h121
                have hN : tkN n tb s = t + 1 := by unfold tkN; rw [hP, if_neg (by omega), if_neg (by rw [hl]; decide), if_neg (by rw [hd]; decide)]
                refine ⟨⟨tm_upF (by decide) (tm_upF (by decide) (tm_upF (by decide) (tm_tz f1 (by decide) (by decide) hM))), hsn, ?_, ?_, ?_⟩, Tz_upz (by decide) (Tz_upz (by decide) (Tz_upz (by decide) f1))⟩
                · rw [j_up_nz (by decide), j_up_nz (by decide), j_up_nz (by decide), f2, hP]
                · rw [j_up_eq, hN]
                · rw [j_up_nz (by decide), j_up_eq]; unfold tkK; rw [hP, if_neg (by omega), if_neg (by rw [hl]; decide), if_neg (by rw [hd]; decide), if_pos (by omega)]; rfl
            ·
              refine J_aload_n dX5_step_124 rfl ?_
              refine J_aload_n dX5_step_125 rfl ?_
              refine J_callVi (cl := mX5_passDigits) [] [(11, 0)] dX5_step_126 mlX5_122 cvX5_passDigits rfl rfl rfl rfl rfl (by decide) (Nat.le_of_ble_eq_true rfl) rfl (ev_X5_passDigits n tb (j_up M1 1 11 ((t : Nat) : Int)) (tm_upF (by decide) (tm_tz f1 (by decide) (by decide) hM)) t f4 (ru_nz (by decide) f2) j_up_eq) (fun z126 Ma hq126 => ?_)
              obtain ⟨rfl, a2, a3⟩ := hq126
              refine J_iconst dX5_step_129 ?_
              refine J_icmp_gt (tgt := 137) dX5_step_130 rfl (j_R (by have := rnT_le (dgB tb) n t f4; omega)) (by decide) (fun h130 => ?_) (fun h130 => ?_)
              ·
                refine J_iconst dX5_step_137 ?_
                refine J_putI dX5_step_138 flX5_59 rfl rfl (Or.inl rfl) ?_
                refine J_goto (tgt := 177) dX5_step_141 rfl ?_
                refine J_return dX5_step_177 rfl ?_
                have hl : ltB tb t = false := h85
                have hd : dgB tb t = true := h121
                have hN : tkN n tb s = rnT (dgB tb) n t := by unfold tkN; rw [hP, if_neg (by omega), if_neg (by rw [hl]; decide), if_pos hd]
                refine ⟨⟨tm_upF (by decide) (tm_tz a3 (by decide) (by decide) (tm_upF (by decide) (tm_tz f1 (by decide) (by decide) hM))), hsn, ?_, ?_, ?_⟩, Tz_upz (by decide) (Tz_tr (Tz_upz (by decide) f1) (Tz_mo a3 (by decide) (by decide)))⟩
                · rw [j_up_nz (by decide), a3.2 10 (by decide), j_up_nz (by decide), f2, hP]
                · rw [j_up_nz (by decide), a2, hN]
                · rw [j_up_eq]; unfold tkK; rw [hN, hP, if_neg (by omega), if_neg (by rw [hl]; decide), if_pos hd, if_pos (by omega)]; rfl
              ·
                refine J_iconst dX5_step_133 ?_
                refine J_goto (tgt := 138) dX5_step_134 rfl ?_
                refine J_putI dX5_step_138 flX5_59 rfl rfl (Or.inl rfl) ?_
                refine J_goto (tgt := 177) dX5_step_141 rfl ?_
                refine J_return dX5_step_177 rfl ?_
                have hl : ltB tb t = false := h85
                have hd : dgB tb t = true := h121
                have hN : tkN n tb s = rnT (dgB tb) n t := by unfold tkN; rw [hP, if_neg (by omega), if_neg (by rw [hl]; decide), if_pos hd]
                refine ⟨⟨tm_upF (by decide) (tm_tz a3 (by decide) (by decide) (tm_upF (by decide) (tm_tz f1 (by decide) (by decide) hM))), hsn, ?_, ?_, ?_⟩, Tz_upz (by decide) (Tz_tr (Tz_upz (by decide) f1) (Tz_mo a3 (by decide) (by decide)))⟩
                · rw [j_up_nz (by decide), a3.2 10 (by decide), j_up_nz (by decide), f2, hP]
                · rw [j_up_nz (by decide), a2, hN]
                · rw [j_up_eq]; unfold tkK; rw [hN, hP, if_neg (by omega), if_neg (by rw [hl]; decide), if_pos hd, if_neg (by omega)]; rfl
          ·
            refine J_aload_n dX5_step_88 rfl ?_
            refine J_aload_n dX5_step_89 rfl ?_
            refine J_callVi (cl := mX5_passLetters) [] [(11, 0)] dX5_step_90 mlX5_116 cvX5_passLetters rfl rfl rfl rfl rfl (by decide) (Nat.le_of_ble_eq_true rfl) rfl (ev_X5_passLetters n tb (j_up M1 1 11 ((t : Nat) : Int)) (tm_upF (by decide) (tm_tz f1 (by decide) (by decide) hM)) t f4 (ru_nz (by decide) f2) j_up_eq) (fun z90 Ma hq90 => ?_)
            obtain ⟨rfl, a2, a3⟩ := hq90
            refine J_bipush dX5_step_93 (by decide) ?_
            refine J_icmp_gt (tgt := 102) dX5_step_95 rfl (j_R (by have := rnT_le (ltB tb) n t f4; omega)) (by decide) (fun h95 => ?_) (fun h95 => ?_)
            ·
              refine J_iconst dX5_step_102 ?_
              refine J_putI dX5_step_103 flX5_59 rfl rfl (Or.inl rfl) ?_
              refine J_goto (tgt := 177) dX5_step_106 rfl ?_
              refine J_return dX5_step_177 rfl ?_
              have hl : ltB tb t = true := h85
              have hN : tkN n tb s = rnT (ltB tb) n t := by unfold tkN; rw [hP, if_neg (by omega), if_pos hl]
              refine ⟨⟨tm_upF (by decide) (tm_tz a3 (by decide) (by decide) (tm_upF (by decide) (tm_tz f1 (by decide) (by decide) hM))), hsn, ?_, ?_, ?_⟩, Tz_upz (by decide) (Tz_tr (Tz_upz (by decide) f1) (Tz_mo a3 (by decide) (by decide)))⟩
              · rw [j_up_nz (by decide), a3.2 10 (by decide), j_up_nz (by decide), f2, hP]
              · rw [j_up_nz (by decide), a2, hN]
              · rw [j_up_eq]; unfold tkK; rw [hN, hP, if_neg (by omega), if_pos hl, if_pos (by omega)]; rfl
            ·
              refine J_iconst dX5_step_98 ?_
              refine J_goto (tgt := 103) dX5_step_99 rfl ?_
              refine J_putI dX5_step_103 flX5_59 rfl rfl (Or.inl rfl) ?_
              refine J_goto (tgt := 177) dX5_step_106 rfl ?_
              refine J_return dX5_step_177 rfl ?_
              have hl : ltB tb t = true := h85
              have hN : tkN n tb s = rnT (ltB tb) n t := by unfold tkN; rw [hP, if_neg (by omega), if_pos hl]
              refine ⟨⟨tm_upF (by decide) (tm_tz a3 (by decide) (by decide) (tm_upF (by decide) (tm_tz f1 (by decide) (by decide) hM))), hsn, ?_, ?_, ?_⟩, Tz_upz (by decide) (Tz_tr (Tz_upz (by decide) f1) (Tz_mo a3 (by decide) (by decide)))⟩
              · rw [j_up_nz (by decide), a3.2 10 (by decide), j_up_nz (by decide), f2, hP]
              · rw [j_up_nz (by decide), a2, hN]
              · rw [j_up_eq]; unfold tkK; rw [hN, hP, if_neg (by omega), if_pos hl, if_neg (by omega)]; rfl
        · omega
      ·
        refine J_aload_n dX5_step_33 rfl ?_
        refine J_dup dX5_step_34 rfl ?_
        refine J_getI dX5_step_35 flX5_66 rfl rfl (J_top (v := ((t : Nat) : Int)) f2 ?_)
        refine J_iconst dX5_step_38 ?_
        refine J_iadd dX5_step_39 (J_top (v := (((t + 1) : Nat) : Int)) (by omega) ?_)
        refine J_putI dX5_step_40 flX5_66 rfl rfl (Or.inl rfl) ?_
        refine J_goto (tgt := 8) dX5_step_43 rfl ?_
        exact ih _ _ (by exact Tz_upz (by decide) f1) (by exact j_up_eq) (by rw [f3, rnT_step (q := blB tb) (by omega) (beq_iff_eq.mpr (by omega))]) (by omega) (by omega)
set_option maxRecDepth 100000 in
set_option maxHeartbeats 4000000 in
theorem ev_X5_step (n : Nat) (tb : Nat → Nat) (M : jM) (hM : TM n tb M) (s : Nat) (hsn : s ≤ n) (hs : M 1 11 = (s : Int)) : Ev 2 mX5_step [(11, 0)] M (fun z M' => TC n tb s M' ∧ Tz [9, 10, 11] [] M M') := by
  refine Ev_of (by decide +kernel) (Nat.le_of_ble_eq_true rfl) (L := [(11, 0)]) rfl ?_
  have hn2 := hM.1
  refine J_aload_n dX5_step_0 rfl ?_
  refine J_aload_n dX5_step_1 rfl ?_
  refine J_getI dX5_step_2 flX5_34 rfl rfl (J_top (v := ((s : Nat) : Int)) hs ?_)
  refine J_putI dX5_step_5 flX5_66 rfl rfl (Or.inl rfl) ?_
  exact ev_X5_step_L8 n tb M hM s hsn hs  _ _ _ (by exact Tz_upz (by decide) Tz_rf) (by exact j_up_eq) (by rfl) (by omega) (Nat.lt_succ_self _)
set_option maxRecDepth 100000 in
set_option maxHeartbeats 4000000 in
theorem ev_X5_failed (k p : Int) (M : jM) (hp : M 1 10 = p) : Ev 0 mX5_failed [(11, 0), (0, k)] M (fun z M' => z = 0 ∧ M' = j_up (j_up M 1 2 k) 1 3 p) := by
  refine Ev_of (by decide +kernel) (Nat.le_of_ble_eq_true rfl) (L := [(11, 0), (0, k)]) rfl ?_
  refine J_aload_n dX5_failed_0 rfl ?_
  refine J_iload_n dX5_failed_1 rfl ?_
  refine J_putI dX5_failed_2 flX5_37 rfl rfl (Or.inl rfl) ?_
  refine J_aload_n dX5_failed_5 rfl ?_
  refine J_aload_n dX5_failed_6 rfl ?_
  refine J_getI dX5_failed_7 flX5_66 rfl rfl (J_top (v := p) (ru_nz (by decide) hp) ?_)
  refine J_putI dX5_failed_10 flX5_40 rfl rfl (Or.inl rfl) ?_
  refine J_iconst dX5_failed_13 ?_
  refine J_zreturn dX5_failed_14 rfl (Or.inl rfl) ?_
  exact ⟨rfl, rfl⟩
set_option maxRecDepth 100000 in
set_option maxHeartbeats 4000000 in
theorem ev_X5_wordIs_L28 (n : Nat) (tb : Nat → Nat) (s : Nat) (M : jM) (hC : TC n tb s M) (i : Nat) (hi : i < 4) (e1 : tkK n tb s = 2) (e2 : tkN n tb s - tkP n tb s = j_len.getD i 0) : ∀ (fu : Nat) (k : Nat) (f1 : allN k (fun k => tb (tkP n tb s + k) == j_ltr i k) = true) (f2 : k ≤ j_len.getD i 0) (hfu : j_len.getD i 0 - k < fu), J none 4 mX5_wordIs 28 [(11, 0), (4, ((i : Nat) : Int)), (0, ((k : Nat) : Int))] [] M (j_ret mX5_wordIs (fun z M' => z = ((Bool.toNat (wdB n tb s i) : Nat) : Int) ∧ M' = M)) := by
  intro fu
  induction fu with
  | zero => intro k f1 f2 hfu; exact absurd hfu (Nat.not_lt_zero _)
  | succ fu ih =>
    intro k f1 f2 hfu
    have hM := hC.1
    have hn2 := hC.1.1
    have hsn := hC.2.1
    have hN := tkN_le (tb := tb) hC.2.1
    have hPN := tkN_ge n tb s
    have hK := kn_le (tkK n tb s)
    have hl8 := j_len_ok i hi
    refine J_iload_n dX5_wordIs_28 rfl ?_
    refine J_aload_nT dX5_wordIs_29 rfl ?_
    refine J_callTiQ (cl := mJ0_length_8abf5) [] [(0, ((k : Nat) : Int))] dX5_wordIs_30 mlX5_104 cvJ0_length_8abf5 rfl rfl (by omega) rfl (by decide) (Nat.le_of_ble_eq_true rfl) rfl (ev_length i (by omega) M) ?_
    refine J_icmp_ge (tgt := 75) dX5_wordIs_33 rfl (j_R (by omega)) (j_R (by have := j_len_ok i (by omega); omega)) (fun h33 => ?_) (fun h33 => ?_)
    ·
      refine J_iconst dX5_wordIs_75 ?_
      refine J_zreturn dX5_wordIs_76 rfl (Or.inr rfl) ?_
      have hk : k = j_len.getD i 0 := by omega
      exact ⟨bt (by unfold wdB; rw [beq_iff_eq.mpr e1, beq_iff_eq.mpr e2, ← hk, f1]; rfl), rfl⟩
    ·
      refine J_aload_n dX5_wordIs_36 rfl ?_
      refine J_getI dX5_wordIs_37 flX5_66 rfl rfl (J_top (v := (((tkP n tb s) : Nat) : Int)) hC.2.2.1 ?_)
      refine J_iload_n dX5_wordIs_40 rfl ?_
      refine J_iadd dX5_wordIs_41 (J_top (v := ((((tkP n tb s) + k) : Nat) : Int)) (by omega) ?_)
      refine J_sipush dX5_wordIs_42 (by decide) ?_
      refine J_icmp_ge (tgt := 75) dX5_wordIs_45 rfl (j_R (by omega)) (by decide) (fun h45 => ?_) (fun h45 => ?_)
      · omega
      ·
        refine J_aload_n dX5_wordIs_48 rfl ?_
        refine J_getR dX5_wordIs_49 flX5_11 rfl rfl ?_
        refine J_aload_n dX5_wordIs_52 rfl ?_
        refine J_getI dX5_wordIs_53 flX5_66 rfl rfl (J_top (v := (((tkP n tb s) : Nat) : Int)) hC.2.2.1 ?_)
        refine J_iload_n dX5_wordIs_56 rfl ?_
        refine J_iadd dX5_wordIs_57 (J_top (v := ((((tkP n tb s) + k) : Nat) : Int)) (by omega) ?_)
        refine J_iald dX5_wordIs_58 rfl (by decide) (by have := hM.1; omega) (J_top (v := (((tb ((tkP n tb s) + k)) : Nat) : Int)) (hC.1.2.2 ((tkP n tb s) + k) (by omega)).1 ?_)
        refine J_aload_nT dX5_wordIs_59 rfl ?_
        refine J_iload_n dX5_wordIs_60 rfl ?_
        refine J_callTiQ (cl := mJ0_charAt_5068e) [(0, ((k : Nat) : Int))] [(0, (((tb ((tkP n tb s) + k)) : Nat) : Int))] dX5_wordIs_61 mlX5_109 cvJ0_charAt_5068e rfl rfl (by omega) rfl (by decide) (Nat.le_of_ble_eq_true rfl) rfl (ev_charAt i k (by omega) (by omega) M) ?_
        refine J_icmp_eq (tgt := 69) dX5_wordIs_64 rfl (j_R (by have := (hM.2.2 ((tkP n tb s) + k) (by omega)).2; omega)) (j_R (by have := (j_ltr_ok i (by omega) k (by have := j_len_ok i (by omega); omega)).2; omega)) (fun h64 => ?_) (fun h64 => ?_)
        ·
          refine J_iinc (v := (((k + 1) : Nat) : Int)) (L' := [(11, 0), (4, ((i : Nat) : Int)), (0, (((k + 1) : Nat) : Int))]) dX5_wordIs_69 rfl (by omega) (by decide) rfl rfl ?_
          refine J_goto (tgt := 28) dX5_wordIs_72 rfl ?_
          exact ih _ (by rw [allN_t (by exact beq_iff_eq.mpr (by omega)), f1]) (by omega) (by omega)
        ·
          refine J_iconst dX5_wordIs_67 ?_
          refine J_zreturn dX5_wordIs_68 rfl (Or.inl rfl) ?_
          exact ⟨bf (by unfold wdB; rw [allN_no (k := k) (by exact beq_eq_false_iff_ne.mpr (by omega)) (by omega)]; simp), rfl⟩
set_option maxRecDepth 100000 in
set_option maxHeartbeats 4000000 in
theorem ev_X5_wordIs (n : Nat) (tb : Nat → Nat) (s : Nat) (M : jM) (hC : TC n tb s M) (i : Nat) (hi : i < 4) : Ev 4 mX5_wordIs [(11, 0), (4, ((i : Nat) : Int))] M (fun z M' => z = ((Bool.toNat (wdB n tb s i) : Nat) : Int) ∧ M' = M) := by
  refine Ev_of (by decide +kernel) (Nat.le_of_ble_eq_true rfl) (L := [(11, 0), (4, ((i : Nat) : Int)), (9, 0)]) rfl ?_
  have hM := hC.1
  have hn2 := hC.1.1
  have hsn := hC.2.1
  have hN := tkN_le (tb := tb) hC.2.1
  have hPN := tkN_ge n tb s
  have hK := kn_le (tkK n tb s)
  have hl8 := j_len_ok i hi
  refine J_aload_n dX5_wordIs_0 rfl ?_
  refine J_getI dX5_wordIs_1 flX5_59 rfl rfl (J_top (v := (((kn (tkK n tb s)) : Nat) : Int)) hC.2.2.2.2 ?_)
  refine J_iconst dX5_wordIs_4 ?_
  refine J_icmp_ne (tgt := 24) dX5_wordIs_5 rfl (j_R (by have := kn_le (tkK n tb s); omega)) (by decide) (fun h5 => ?_) (fun h5 => ?_)
  ·
    refine J_iconst dX5_wordIs_24 ?_
    refine J_zreturn dX5_wordIs_25 rfl (Or.inl rfl) ?_
    exact ⟨bf (by unfold wdB; rw [beq_eq_false_iff_ne.mpr (fun q => absurd (kn1.mpr q) (by omega) : ¬ tkK n tb s = 2)]; rfl), rfl⟩
  ·
    refine J_aload_n dX5_wordIs_8 rfl ?_
    refine J_getI dX5_wordIs_9 flX5_34 rfl rfl (J_top (v := (((tkN n tb s) : Nat) : Int)) hC.2.2.2.1 ?_)
    refine J_aload_n dX5_wordIs_12 rfl ?_
    refine J_getI dX5_wordIs_13 flX5_66 rfl rfl (J_top (v := (((tkP n tb s) : Nat) : Int)) hC.2.2.1 ?_)
    refine J_isub dX5_wordIs_16 ?_
    refine J_aload_nT dX5_wordIs_17 rfl ?_
    refine J_callTiQ (cl := mJ0_length_8abf5) [] [(0, ((((tkN n tb s) : Nat) : Int) - (((tkP n tb s) : Nat) : Int)))] dX5_wordIs_18 mlX5_104 cvJ0_length_8abf5 rfl rfl (by omega) rfl (by decide) (Nat.le_of_ble_eq_true rfl) rfl (ev_length i (by omega) M) ?_
    refine J_icmp_eq (tgt := 26) dX5_wordIs_21 rfl (by omega) (j_R (by have := j_len_ok i (by omega); omega)) (fun h21 => ?_) (fun h21 => ?_)
    ·
      refine J_iconst dX5_wordIs_26 ?_
      refine J_istore_n (L' := [(11, 0), (4, ((i : Nat) : Int)), (0, 0)]) dX5_wordIs_27 (by decide) rfl rfl ?_
      refine J_eq (L' := [(11, 0), (4, ((i : Nat) : Int)), (0, ((0 : Nat) : Int))]) rfl rfl rfl ?_
      exact ev_X5_wordIs_L28 n tb s M hC i hi (kn1.mp (by omega)) (by omega) _ _ (by rfl) (by omega) (Nat.lt_succ_self _)
    ·
      refine J_iconst dX5_wordIs_24 ?_
      refine J_zreturn dX5_wordIs_25 rfl (Or.inl rfl) ?_
      exact ⟨bf (by unfold wdB; rw [beq_eq_false_iff_ne.mpr (by omega : ¬ tkN n tb s - tkP n tb s = j_len.getD i 0)]; simp), rfl⟩
set_option maxRecDepth 100000 in
set_option maxHeartbeats 4000000 in
theorem ev_X5_meets (n : Nat) (tb : Nat → Nat) (s : Nat) (M : jM) (hM : TM n tb M) (hsn : s ≤ n) (hs : M 1 11 = (s : Int)) (i : Nat) (hi : i < 4) : Ev 5 mX5_meets [(11, 0), (4, ((i : Nat) : Int))] M (fun z M' => MtQ n tb s i M z M') := by
  refine Ev_of (by decide +kernel) (Nat.le_of_ble_eq_true rfl) (L := [(11, 0), (4, ((i : Nat) : Int))]) rfl ?_
  refine J_aload_n dX5_meets_0 rfl ?_
  refine J_callVv (cl := mX5_step) [] [] dX5_meets_1 mlX5_56 cvX5_step rfl rfl rfl rfl rfl (by decide) (Nat.le_of_ble_eq_true rfl) rfl (ev_X5_step n tb M hM s hsn hs) (fun Ma hq1 => ?_)
  obtain ⟨a1, a2⟩ := hq1
  refine J_aload_n dX5_meets_4 rfl ?_
  refine J_aload_nT dX5_meets_5 rfl ?_
  refine J_callViQ (cl := mX5_wordIs) [(4, ((i : Nat) : Int))] [] dX5_meets_6 mlX5_71 cvX5_wordIs rfl rfl rfl rfl rfl (by decide) (Nat.le_of_ble_eq_true rfl) rfl (ev_X5_wordIs n tb s Ma a1 i (by omega)) ?_
  refine J_ifb_ne (tgt := 20) dX5_meets_9 rfl (fun h9 => ?_) (fun h9 => ?_)
  ·
    refine J_iconst dX5_meets_20 ?_
    refine J_goto (tgt := 25) dX5_meets_21 rfl ?_
    refine J_zreturn dX5_meets_25 rfl (Or.inr rfl) ?_
    exact ⟨a1, Tz_mo a2 (by decide) (by decide), by rw [h9]; rfl, fun _ => a2.2 2 (by decide), fun q => by rw [h9] at q; exact absurd q (by decide)⟩
  ·
    refine J_aload_n dX5_meets_12 rfl ?_
    refine J_iconst dX5_meets_13 ?_
    refine J_callViQ (cl := mX5_failed) [(0, 1)] [] dX5_meets_14 mlX5_62 cvX5_failed rfl rfl rfl rfl rfl (by decide) (Nat.le_of_ble_eq_true rfl) rfl (ev_X5_failed 1 (((tkP n tb s) : Nat) : Int) Ma a1.2.2.1) ?_
    refine J_if_eq (tgt := 24) dX5_meets_17 rfl (by decide) (fun h17 => ?_) (fun h17 => ?_)
    ·
      refine J_iconst dX5_meets_24 ?_
      refine J_zreturn dX5_meets_25 rfl (Or.inl rfl) ?_
      exact ⟨tc_upF (by decide) (tc_upF (by decide) a1), Tz_upz (by decide) (Tz_upz (by decide) (Tz_mo a2 (by decide) (by decide))), by rw [h9]; rfl, fun q => by rw [h9] at q; exact absurd q (by decide), fun _ => ⟨by rw [j_up_nz (by decide), j_up_eq], j_up_eq⟩⟩
    · exact absurd h17 (by decide)
set_option maxRecDepth 100000 in
set_option maxHeartbeats 4000000 in
theorem ev_X5_meetsWhole_L28 (n : Nat) (tb : Nat → Nat) (s : Nat) (M : jM) (hM : TM n tb M) (hsn : s ≤ n) (hs : M 1 11 = (s : Int)) (hi : Nat) (hh : hi ≤ 100) (Ma : jM) (a1 : TC n tb s Ma) (a2 : Tz [9, 10, 11] [] M Ma) (e1 : tkK n tb s = 3) : ∀ (fu : Nat) (M2 : jM) (k : Nat) (g1 : Tz [12] [] (j_up Ma 1 12 0) M2) (g2 : M2 1 12 = (dgW tb (tkP n tb s) k : Int)) (g3 : k ≤ tkN n tb s - (tkP n tb s)) (hfu : tkN n tb s - (tkP n tb s) - k < fu), J none 3 mX5_meetsWhole 28 [(11, 0), (0, ((hi : Nat) : Int)), (0, ((((tkP n tb s) + k) : Nat) : Int))] [] M2 (j_ret mX5_meetsWhole (fun z M' => MwQ n tb s hi M z M')) := by
  intro fu
  induction fu with
  | zero => intro M2 k g1 g2 g3 hfu; exact absurd hfu (Nat.not_lt_zero _)
  | succ fu ih =>
    intro M2 k g1 g2 g3 hfu
    have hN := tkN_le (tb := tb) hsn
    have hPN := tkN_ge n tb s
    have hn2 := hM.1
    obtain ⟨w2, wl⟩ := tk_whole e1
    have hgt := tkN_gt (n := n) (tb := tb) (s := s) (by omega)
    refine J_iload_n dX5_meetsWhole_28 rfl ?_
    refine J_aload_n dX5_meetsWhole_29 rfl ?_
    refine J_getI dX5_meetsWhole_30 flX5_34 rfl rfl (J_top (v := (((tkN n tb s) : Nat) : Int)) (by rw [g1.2 11 (by decide)]; exact ru_nz (by decide) a1.2.2.2.1) ?_)
    refine J_icmp_ge (tgt := 70) dX5_meetsWhole_33 rfl (j_R (by omega)) (j_R (by omega)) (fun h33 => ?_) (fun h33 => ?_)
    ·
      refine J_aload_n dX5_meetsWhole_70 rfl ?_
      refine J_getI dX5_meetsWhole_71 flX5_90 rfl rfl (J_top (v := (((dgW tb (tkP n tb s) k) : Nat) : Int)) g2 ?_)
      refine J_iconst dX5_meetsWhole_74 ?_
      refine J_icmp_lt (tgt := 86) dX5_meetsWhole_75 rfl (j_R (by have := dgW_b (tb := tb) (a := tkP n tb s) (k := k) (by omega) (fun j hj => wl _ (by omega) (by omega)); omega)) (by decide) (fun h75 => ?_) (fun h75 => ?_)
      ·
        refine J_aload_n dX5_meetsWhole_86 rfl ?_
        refine J_iconst dX5_meetsWhole_87 ?_
        refine J_callViQ (cl := mX5_failed) [(0, 2)] [] dX5_meetsWhole_88 mlX5_62 cvX5_failed rfl rfl rfl rfl rfl (by decide) (Nat.le_of_ble_eq_true rfl) rfl (ev_X5_failed 2 (((tkP n tb s) : Nat) : Int) M2 (by rw [g1.2 10 (by decide)]; exact ru_nz (by decide) a1.2.2.1)) ?_
        refine J_if_eq (tgt := 98) dX5_meetsWhole_91 rfl (by decide) (fun h91 => ?_) (fun h91 => ?_)
        ·
          refine J_iconst dX5_meetsWhole_98 ?_
          refine J_zreturn dX5_meetsWhole_99 rfl (Or.inl rfl) ?_
          have hk : k = tkN n tb s - tkP n tb s := by omega
          have e2 : dgW tb (tkP n tb s) k = tkW n tb s := by unfold tkW; rw [← hk]
          rw [e2] at g2
          have hq : mwB n tb s hi = false := by unfold mwB; rw [decide_eq_false (by omega), Bool.and_false]
          refine ⟨⟨tm_upF (by decide) (tm_upF (by decide) (tm_tz g1 (by decide) (by decide) (tm_upF (by decide) a1.1))), hsn, ?_, ?_, ?_⟩, ?_, by rw [hq]; rfl, fun q => by rw [hq] at q; exact absurd q (by decide), fun _ => ⟨?_, ?_⟩⟩
          · rw [j_up_nz (by decide), j_up_nz (by decide), g1.2 10 (by decide)]; exact ru_nz (by decide) a1.2.2.1
          · rw [j_up_nz (by decide), j_up_nz (by decide), g1.2 11 (by decide)]; exact ru_nz (by decide) a1.2.2.2.1
          · rw [j_up_nz (by decide), j_up_nz (by decide), g1.2 9 (by decide)]; exact ru_nz (by decide) a1.2.2.2.2
          · exact Tz_upz (by decide) (Tz_upz (by decide) (Tz_tr (Tz_upz (by decide) (Tz_mo a2 (by decide) (by decide))) (Tz_mo g1 (by decide) (by decide))))
          · rw [j_up_nz (by decide), j_up_eq, if_pos e1]; rfl
          · exact j_up_eq
        · exact absurd h91 (by decide)
      ·
        refine J_aload_n dX5_meetsWhole_78 rfl ?_
        refine J_getI dX5_meetsWhole_79 flX5_90 rfl rfl (J_top (v := (((dgW tb (tkP n tb s) k) : Nat) : Int)) g2 ?_)
        refine J_iload_n dX5_meetsWhole_82 rfl ?_
        refine J_icmp_le (tgt := 94) dX5_meetsWhole_83 rfl (j_R (by have := dgW_b (tb := tb) (a := tkP n tb s) (k := k) (by omega) (fun j hj => wl _ (by omega) (by omega)); omega)) (j_R (by omega)) (fun h83 => ?_) (fun h83 => ?_)
        ·
          refine J_iconst dX5_meetsWhole_94 ?_
          refine J_goto (tgt := 99) dX5_meetsWhole_95 rfl ?_
          refine J_zreturn dX5_meetsWhole_99 rfl (Or.inr rfl) ?_
          have hk : k = tkN n tb s - tkP n tb s := by omega
          have e2 : dgW tb (tkP n tb s) k = tkW n tb s := by unfold tkW; rw [← hk]
          rw [e2] at g2
          have hq : mwB n tb s hi = true := by unfold mwB; rw [beq_iff_eq.mpr e1, decide_eq_true (by omega)]; rfl
          refine ⟨⟨tm_tz g1 (by decide) (by decide) (tm_upF (by decide) a1.1), hsn, ?_, ?_, ?_⟩, ?_, by rw [hq]; rfl, fun _ => ⟨?_, g2⟩, fun q => by rw [hq] at q; exact absurd q (by decide)⟩
          · rw [g1.2 10 (by decide)]; exact ru_nz (by decide) a1.2.2.1
          · rw [g1.2 11 (by decide)]; exact ru_nz (by decide) a1.2.2.2.1
          · rw [g1.2 9 (by decide)]; exact ru_nz (by decide) a1.2.2.2.2
          · exact Tz_tr (Tz_upz (by decide) (Tz_mo a2 (by decide) (by decide))) (Tz_mo g1 (by decide) (by decide))
          · rw [g1.2 2 (by decide)]; exact ru_nz (by decide) (a2.2 2 (by decide))
        ·
          refine J_aload_n dX5_meetsWhole_86 rfl ?_
          refine J_iconst dX5_meetsWhole_87 ?_
          refine J_callViQ (cl := mX5_failed) [(0, 2)] [] dX5_meetsWhole_88 mlX5_62 cvX5_failed rfl rfl rfl rfl rfl (by decide) (Nat.le_of_ble_eq_true rfl) rfl (ev_X5_failed 2 (((tkP n tb s) : Nat) : Int) M2 (by rw [g1.2 10 (by decide)]; exact ru_nz (by decide) a1.2.2.1)) ?_
          refine J_if_eq (tgt := 98) dX5_meetsWhole_91 rfl (by decide) (fun h91 => ?_) (fun h91 => ?_)
          ·
            refine J_iconst dX5_meetsWhole_98 ?_
            refine J_zreturn dX5_meetsWhole_99 rfl (Or.inl rfl) ?_
            have hk : k = tkN n tb s - tkP n tb s := by omega
            have e2 : dgW tb (tkP n tb s) k = tkW n tb s := by unfold tkW; rw [← hk]
            rw [e2] at g2
            have hq : mwB n tb s hi = false := by unfold mwB; rw [decide_eq_false (by omega), Bool.and_false]
            refine ⟨⟨tm_upF (by decide) (tm_upF (by decide) (tm_tz g1 (by decide) (by decide) (tm_upF (by decide) a1.1))), hsn, ?_, ?_, ?_⟩, ?_, by rw [hq]; rfl, fun q => by rw [hq] at q; exact absurd q (by decide), fun _ => ⟨?_, ?_⟩⟩
            · rw [j_up_nz (by decide), j_up_nz (by decide), g1.2 10 (by decide)]; exact ru_nz (by decide) a1.2.2.1
            · rw [j_up_nz (by decide), j_up_nz (by decide), g1.2 11 (by decide)]; exact ru_nz (by decide) a1.2.2.2.1
            · rw [j_up_nz (by decide), j_up_nz (by decide), g1.2 9 (by decide)]; exact ru_nz (by decide) a1.2.2.2.2
            · exact Tz_upz (by decide) (Tz_upz (by decide) (Tz_tr (Tz_upz (by decide) (Tz_mo a2 (by decide) (by decide))) (Tz_mo g1 (by decide) (by decide))))
            · rw [j_up_nz (by decide), j_up_eq, if_pos e1]; rfl
            · exact j_up_eq
          · exact absurd h91 (by decide)
    ·
      refine J_iload_n dX5_meetsWhole_36 rfl ?_
      refine J_sipush dX5_meetsWhole_37 (by decide) ?_
      refine J_icmp_ge (tgt := 70) dX5_meetsWhole_40 rfl (j_R (by omega)) (by decide) (fun h40 => ?_) (fun h40 => ?_)
      · omega
      ·
        refine J_aload_n dX5_meetsWhole_43 rfl ?_
        refine J_aload_n dX5_meetsWhole_44 rfl ?_
        refine J_getI dX5_meetsWhole_45 flX5_90 rfl rfl (J_top (v := (((dgW tb (tkP n tb s) k) : Nat) : Int)) g2 ?_)
        refine J_bipush dX5_meetsWhole_48 (by decide) ?_
        refine J_imul dX5_meetsWhole_50 (J_top (v := ((((dgW tb (tkP n tb s) k) * 10) : Nat) : Int)) (Int.natCast_mul _ _).symm ?_)
        refine J_aload_n dX5_meetsWhole_51 rfl ?_
        refine J_getR dX5_meetsWhole_52 flX5_11 rfl rfl ?_
        refine J_iload_n dX5_meetsWhole_55 rfl ?_
        refine J_iald dX5_meetsWhole_56 rfl (by decide) (by have := hM.1; omega) (J_top (v := (((tb ((tkP n tb s) + k)) : Nat) : Int)) ((tm_tz g1 (by decide) (by decide) (tm_upF (by decide) a1.1)).2.2 ((tkP n tb s) + k) (by omega)).1 ?_)
        refine J_iadd dX5_meetsWhole_57 (J_top (v := (((((dgW tb (tkP n tb s) k) * 10) + (tb ((tkP n tb s) + k))) : Nat) : Int)) (by omega) ?_)
        refine J_bipush dX5_meetsWhole_58 (by decide) ?_
        refine J_isub dX5_meetsWhole_60 (J_top (v := (((dgW tb (tkP n tb s) (k + 1)) : Nat) : Int)) (dgW_s (by omega) (wl _ (by omega) (by omega))) ?_)
        refine J_putI dX5_meetsWhole_61 flX5_90 rfl rfl (Or.inl rfl) ?_
        refine J_iinc (v := (((((tkP n tb s) + k) + 1) : Nat) : Int)) (L' := [(11, 0), (0, ((hi : Nat) : Int)), (0, (((((tkP n tb s) + k) + 1) : Nat) : Int))]) dX5_meetsWhole_64 rfl (by omega) (by decide) rfl rfl ?_
        refine J_goto (tgt := 28) dX5_meetsWhole_67 rfl ?_
        exact ih _ (k + 1) (by exact Tz_upz (by decide) g1) (by exact j_up_eq) (by omega) (by omega)
set_option maxRecDepth 100000 in
set_option maxHeartbeats 4000000 in
theorem ev_X5_meetsWhole (n : Nat) (tb : Nat → Nat) (s : Nat) (M : jM) (hM : TM n tb M) (hsn : s ≤ n) (hs : M 1 11 = (s : Int)) (hi : Nat) (hh : hi ≤ 100) : Ev 3 mX5_meetsWhole [(11, 0), (0, ((hi : Nat) : Int))] M (fun z M' => MwQ n tb s hi M z M') := by
  refine Ev_of (by decide +kernel) (Nat.le_of_ble_eq_true rfl) (L := [(11, 0), (0, ((hi : Nat) : Int)), (9, 0)]) rfl ?_
  have hN := tkN_le (tb := tb) hsn
  have hPN := tkN_ge n tb s
  have hn2 := hM.1
  refine J_aload_n dX5_meetsWhole_0 rfl ?_
  refine J_callVv (cl := mX5_step) [] [] dX5_meetsWhole_1 mlX5_56 cvX5_step rfl rfl rfl rfl rfl (by decide) (Nat.le_of_ble_eq_true rfl) rfl (ev_X5_step n tb M hM s hsn hs) (fun Ma hq1 => ?_)
  obtain ⟨a1, a2⟩ := hq1
  refine J_aload_n dX5_meetsWhole_4 rfl ?_
  refine J_getI dX5_meetsWhole_5 flX5_59 rfl rfl (J_top (v := (((kn (tkK n tb s)) : Nat) : Int)) a1.2.2.2.2 ?_)
  refine J_iconst dX5_meetsWhole_8 ?_
  refine J_icmp_eq (tgt := 18) dX5_meetsWhole_9 rfl (j_R (by have := kn_le (tkK n tb s); omega)) (by decide) (fun h9 => ?_) (fun h9 => ?_)
  ·
    have e1 : tkK n tb s = 3 := kn2.mp (by omega)
    obtain ⟨w2, wl⟩ := tk_whole e1
    have hgt := tkN_gt (n := n) (tb := tb) (s := s) (by omega)
    refine J_aload_n dX5_meetsWhole_18 rfl ?_
    refine J_iconst dX5_meetsWhole_19 ?_
    refine J_putI dX5_meetsWhole_20 flX5_90 rfl rfl (Or.inl rfl) ?_
    refine J_aload_n dX5_meetsWhole_23 rfl ?_
    refine J_getI dX5_meetsWhole_24 flX5_66 rfl rfl (J_top (v := ((((tkP n tb s) + 0) : Nat) : Int)) (ru_nz (by decide) a1.2.2.1) ?_)
    refine J_istore_n (L' := [(11, 0), (0, ((hi : Nat) : Int)), (0, ((((tkP n tb s) + 0) : Nat) : Int))]) dX5_meetsWhole_27 (by decide) rfl rfl ?_
    exact ev_X5_meetsWhole_L28 n tb s M hM hsn hs hi hh Ma a1 a2 e1 _ _ _ (by exact Tz_rf) (by exact j_up_eq) (by omega) (Nat.lt_succ_self _)
  ·
    refine J_aload_n dX5_meetsWhole_12 rfl ?_
    refine J_iconst dX5_meetsWhole_13 ?_
    refine J_callViQ (cl := mX5_failed) [(0, 1)] [] dX5_meetsWhole_14 mlX5_62 cvX5_failed rfl rfl rfl rfl rfl (by decide) (Nat.le_of_ble_eq_true rfl) rfl (ev_X5_failed 1 (((tkP n tb s) : Nat) : Int) Ma a1.2.2.1) ?_
    refine J_zreturn dX5_meetsWhole_17 rfl (Or.inl rfl) ?_
    have e0 : ¬ tkK n tb s = 3 := fun q => absurd (kn2.mpr q) (by omega)
    exact ⟨tc_upF (by decide) (tc_upF (by decide) a1), Tz_upz (by decide) (Tz_upz (by decide) (Tz_mo a2 (by decide) (by decide))), by unfold mwB; rw [beq_eq_false_iff_ne.mpr e0]; rfl, fun q => by unfold mwB at q; rw [beq_eq_false_iff_ne.mpr e0, Bool.false_and] at q; exact absurd q (by decide), fun _ => ⟨by rw [j_up_nz (by decide), j_up_eq, if_neg e0]; rfl, j_up_eq⟩⟩
set_option maxRecDepth 100000 in
set_option maxHeartbeats 4000000 in
theorem ev_X5_wordSet_L7 (n : Nat) (tb : Nat → Nat) (s : Nat) (M : jM) (hC : TC n tb s M) (P : Nat) (hP7 : P ≤ 7) (hp : M 1 5 = (P : Int)) (hw : tkK n tb s = 2)  : ∀ (fu : Nat) (k : Nat) (f1 : wsO P tb (tkP n tb s) k = true) (f2 : k ≤ tkN n tb s - (tkP n tb s)) (hfu : tkN n tb s - (tkP n tb s) - k < fu), J none 0 mX5_wordSet 7 [(11, 0), (0, (((wsB tb (tkP n tb s) k) : Nat) : Int)), (0, ((((tkP n tb s) + k) : Nat) : Int)), (9, 0)] [] M (j_ret mX5_wordSet (fun z M' => z = ((if wsO P tb (tkP n tb s) (tkN n tb s - (tkP n tb s)) = true then fcS n tb s else 0 : Nat) : Int) ∧ M' = M)) := by
  intro fu
  induction fu with
  | zero => intro k f1 f2 hfu; exact absurd hfu (Nat.not_lt_zero _)
  | succ fu ih =>
    intro k f1 f2 hfu
    have hM := hC.1
    have hn2 := hC.1.1
    have hsn := hC.2.1
    have hN := tkN_le (tb := tb) hC.2.1
    have hPN := tkN_ge n tb s
    have hK := kn_le (tkK n tb s)
    obtain ⟨w7, wl⟩ := tk_word hw
    refine J_iload_n dX5_wordSet_7 rfl ?_
    refine J_aload_n dX5_wordSet_8 rfl ?_
    refine J_getI dX5_wordSet_9 flX5_34 rfl rfl (J_top (v := (((tkN n tb s) : Nat) : Int)) hC.2.2.2.1 ?_)
    refine J_icmp_ge (tgt := 63) dX5_wordSet_12 rfl (j_R (by omega)) (j_R (by have := tkN_le (tb := tb) hC.2.1; omega)) (fun h12 => ?_) (fun h12 => ?_)
    ·
      refine J_iload_n dX5_wordSet_63 rfl ?_
      refine J_ireturn dX5_wordSet_64 rfl ?_
      have hk : k = tkN n tb s - tkP n tb s := by omega
      exact ⟨by unfold fcS; rw [← hk, if_pos f1], rfl⟩
    ·
      refine J_iload_n dX5_wordSet_15 rfl ?_
      refine J_sipush dX5_wordSet_16 (by decide) ?_
      refine J_icmp_ge (tgt := 63) dX5_wordSet_19 rfl (j_R (by omega)) (by decide) (fun h19 => ?_) (fun h19 => ?_)
      · omega
      ·
        refine J_aload_n dX5_wordSet_22 rfl ?_
        refine J_getR dX5_wordSet_23 flX5_11 rfl rfl ?_
        refine J_iload_n dX5_wordSet_26 rfl ?_
        refine J_iald dX5_wordSet_27 rfl (by decide) (by have := hM.1; omega) (J_top (v := (((tb ((tkP n tb s) + k)) : Nat) : Int)) (hC.1.2.2 ((tkP n tb s) + k) (by omega)).1 ?_)
        refine J_bipush dX5_wordSet_28 (by decide) ?_
        refine J_isub dX5_wordSet_30 (J_top (v := (((tb ((tkP n tb s) + k) - 97) : Nat) : Int)) (by have := wl (tkP n tb s + k) (by omega) (by omega); omega) ?_)
        refine J_istore_n (L' := [(11, 0), (0, (((wsB tb (tkP n tb s) k) : Nat) : Int)), (0, ((((tkP n tb s) + k) : Nat) : Int)), (0, (((tb ((tkP n tb s) + k) - 97) : Nat) : Int))]) dX5_wordSet_31 (by decide) rfl rfl ?_
        refine J_iload_n dX5_wordSet_32 rfl ?_
        refine J_aload_n dX5_wordSet_33 rfl ?_
        refine J_getI dX5_wordSet_34 flX5_43 rfl rfl (J_top (v := ((P : Nat) : Int)) hp ?_)
        refine J_icmp_ge (tgt := 49) dX5_wordSet_37 rfl (j_R (by have := wl (tkP n tb s + k) (by omega) (by omega); omega)) (j_R (by omega)) (fun h37 => ?_) (fun h37 => ?_)
        ·
          refine J_iconst dX5_wordSet_49 ?_
          refine J_ireturn dX5_wordSet_50 rfl ?_
          exact ⟨by rw [if_neg]; rfl; intro q; have q2 := wsO_dn (k := k + 1) q (by omega); simp only [wsO, Bool.and_eq_true, decide_eq_true_eq] at q2; omega, rfl⟩
        ·
          refine J_iload_n dX5_wordSet_40 rfl ?_
          refine J_iload_n dX5_wordSet_41 rfl ?_
          refine J_ishr dX5_wordSet_42 (J_top (v := ((((wsB tb (tkP n tb s) k) >>> (tb ((tkP n tb s) + k) - 97)) : Nat) : Int)) (j_shrN rfl rfl (p12 (by omega) (wsB_lt k f1)) (by have := wl (tkP n tb s + k) (by omega) (by omega); omega)) ?_)
          refine J_iconst dX5_wordSet_43 ?_
          refine J_iand dX5_wordSet_44 (J_top (v := ((Bool.toNat (Nat.testBit (wsB tb (tkP n tb s) k) (tb ((tkP n tb s) + k) - 97)) : Nat) : Int)) ((j_andN rfl rfl (nb_shr (p12 (by omega) (wsB_lt k f1))) (by decide)).trans (congrArg Nat.cast (bit_one _ _))) ?_)
          refine J_iconst dX5_wordSet_45 ?_
          refine J_icmp_ne (tgt := 51) dX5_wordSet_46 rfl (j_R (nb_bool _)) (by decide) (fun h46 => ?_) (fun h46 => ?_)
          ·
            refine J_iload_n dX5_wordSet_51 rfl ?_
            refine J_iconst dX5_wordSet_52 ?_
            refine J_iload_n dX5_wordSet_53 rfl ?_
            refine J_ishl dX5_wordSet_54 (J_top (v := (((2 ^ (tb ((tkP n tb s) + k) - 97)) : Nat) : Int)) (j_shl1 rfl rfl (by have := wl (tkP n tb s + k) (by omega) (by omega); omega)) ?_)
            refine J_ior dX5_wordSet_55 (J_top (v := ((((wsB tb (tkP n tb s) k) ||| (2 ^ (tb ((tkP n tb s) + k) - 97))) : Nat) : Int)) (j_orN rfl rfl (p12 (by omega) (wsB_lt k f1)) (nb_p2 (by have := wl (tkP n tb s + k) (by omega) (by omega); omega))) ?_)
            refine J_istore_n (L' := [(11, 0), (0, ((((wsB tb (tkP n tb s) k) ||| (2 ^ (tb ((tkP n tb s) + k) - 97))) : Nat) : Int)), (0, ((((tkP n tb s) + k) : Nat) : Int)), (0, (((tb ((tkP n tb s) + k) - 97) : Nat) : Int))]) dX5_wordSet_56 (by decide) rfl rfl ?_
            refine J_iinc (v := (((((tkP n tb s) + k) + 1) : Nat) : Int)) (L' := [(11, 0), (0, ((((wsB tb (tkP n tb s) k) ||| (2 ^ (tb ((tkP n tb s) + k) - 97))) : Nat) : Int)), (0, (((((tkP n tb s) + k) + 1) : Nat) : Int)), (0, (((tb ((tkP n tb s) + k) - 97) : Nat) : Int))]) dX5_wordSet_57 rfl (by omega) (by decide) rfl rfl ?_
            refine J_goto (tgt := 7) dX5_wordSet_60 rfl ?_
            refine J_unset 3 (L' := [(11, 0), (0, ((((wsB tb (tkP n tb s) k) ||| (2 ^ (tb ((tkP n tb s) + k) - 97))) : Nat) : Int)), (0, (((((tkP n tb s) + k) + 1) : Nat) : Int)), (9, 0)]) rfl ?_
            exact ih (k + 1) (by simp only [wsO]; rw [f1, decide_eq_true (by omega : tb (tkP n tb s + k) - 97 < P), bf' h46]; rfl) (by omega) (by omega)
          ·
            refine J_iconst dX5_wordSet_49 ?_
            refine J_ireturn dX5_wordSet_50 rfl ?_
            exact ⟨by rw [if_neg]; rfl; intro q; have q2 := wsO_dn (k := k + 1) q (by omega); simp only [wsO, Bool.and_eq_true, decide_eq_true_eq] at q2; rw [bt' h46] at q2; exact absurd q2.2.2 (by decide), rfl⟩
set_option maxRecDepth 100000 in
set_option maxHeartbeats 4000000 in
theorem ev_X5_wordSet (n : Nat) (tb : Nat → Nat) (s : Nat) (M : jM) (hC : TC n tb s M) (P : Nat) (hP7 : P ≤ 7) (hp : M 1 5 = (P : Int)) (hw : tkK n tb s = 2) : Ev 0 mX5_wordSet [(11, 0)] M (fun z M' => z = ((if wsO P tb (tkP n tb s) (tkN n tb s - (tkP n tb s)) = true then fcS n tb s else 0 : Nat) : Int) ∧ M' = M) := by
  refine Ev_of (by decide +kernel) (Nat.le_of_ble_eq_true rfl) (L := [(11, 0), (9, 0), (9, 0), (9, 0)]) rfl ?_
  have hM := hC.1
  have hn2 := hC.1.1
  have hsn := hC.2.1
  have hN := tkN_le (tb := tb) hC.2.1
  have hPN := tkN_ge n tb s
  have hK := kn_le (tkK n tb s)
  obtain ⟨w7, wl⟩ := tk_word hw
  refine J_iconst dX5_wordSet_0 ?_
  refine J_istore_n (L' := [(11, 0), (0, 0), (9, 0), (9, 0)]) dX5_wordSet_1 (by decide) rfl rfl ?_
  refine J_aload_n dX5_wordSet_2 rfl ?_
  refine J_getI dX5_wordSet_3 flX5_66 rfl rfl (J_top (v := ((((tkP n tb s) + 0) : Nat) : Int)) hC.2.2.1 ?_)
  refine J_istore_n (L' := [(11, 0), (0, 0), (0, ((((tkP n tb s) + 0) : Nat) : Int)), (9, 0)]) dX5_wordSet_6 (by decide) rfl rfl ?_
  refine J_eq (L' := [(11, 0), (0, ((0 : Nat) : Int)), (0, ((((tkP n tb s) + 0) : Nat) : Int)), (9, 0)]) rfl rfl rfl ?_
  exact ev_X5_wordSet_L7 n tb s M hC P hP7 hp hw  _ _ (by rfl) (by omega) (Nat.lt_succ_self _)
