/-- a row of sets of points -/
def RowA (c : Nat) (M : jM) (m : Nat) (G : Nat → Nat) : Prop := ∀ k : Nat, k < m → M c (k : Int) = (G k : Int) ∧ G k < 128
theorem rowA_ch {c : Nat} {M M' : jM} {m : Nat} {G : Nat → Nat} {ks : List Nat} (hc : Ch ks M M') (hk : c ∉ ks) (h : RowA c M m G) : RowA c M' m G := by
  intro k hk'
  rw [hc c hk]
  exact h k hk'
theorem MR.row {P D n : Nat} {F O : Nat → Nat} {M : jM} (h : MR P D n F O M) : RowA 25 M n F := fun _ hk => ⟨h.gF hk, h.fb hk⟩
/-- but for some fields of the reference's object and some cells nothing changes -/
def Fz (zs : List Int) (ks : List Nat) (M M' : jM) : Prop := Ch (23 :: ks) M M' ∧ ∀ z, z ∉ zs → M' 23 z = M 23 z
theorem Fz_rf {zs : List Int} {ks : List Nat} {M : jM} : Fz zs ks M M := ⟨Ch_rf, fun _ _ => rfl⟩
theorem Fz_tr {zs : List Int} {ks : List Nat} {M M1 M2 : jM} (h1 : Fz zs ks M M1) (h2 : Fz zs ks M1 M2) : Fz zs ks M M2 := ⟨Ch_tr h1.1 h2.1, fun z hz => (h2.2 z hz).trans (h1.2 z hz)⟩
theorem Fz_mo {zs zs' : List Int} {ks ks' : List Nat} {M M1 : jM} (h : Fz zs ks M M1) (h1 : ∀ z ∈ zs, z ∈ zs') (h2 : ∀ k ∈ ks, k ∈ ks') : Fz zs' ks' M M1 := ⟨Ch_mo h.1 (fun k hk => (List.mem_cons.mp hk).elim (fun e => by rw [e]; exact List.mem_cons_self) (fun e => List.mem_cons_of_mem _ (h2 k e))), fun z hz => h.2 z (fun q => hz (h1 z q))⟩
theorem Fz_ch {zs : List Int} {ks : List Nat} {M M1 : jM} (h : Ch ks M M1) (h23 : 23 ∉ ks) : Fz zs ks M M1 := ⟨Ch_mo h (fun _ hk => List.mem_cons_of_mem _ hk), fun z _ => by rw [h 23 h23]⟩
theorem Fz_upk {zs : List Int} {ks : List Nat} {M M1 : jM} {k : Nat} {z v : Int} (hk : k ∈ ks) (h23 : k ≠ 23) (h : Fz zs ks M M1) : Fz zs ks M (j_up M1 k z v) := ⟨Ch_up (List.mem_cons_of_mem _ hk) h.1, fun z' hz => by rw [j_up_ne (fun q => h23 q.symm)]; exact h.2 z' hz⟩
theorem Fz_upz {zs : List Int} {ks : List Nat} {M M1 : jM} {z v : Int} (hz : z ∈ zs) (h : Fz zs ks M M1) : Fz zs ks M (j_up M1 23 z v) := ⟨Ch_up List.mem_cons_self h.1, fun z' hz' => by rw [j_up_nz (fun q => hz' (by rw [q]; exact hz))]; exact h.2 z' hz'⟩
theorem mr_fz {zs : List Int} {ks : List Nat} {P D n : Nat} {F O : Nat → Nat} {M M' : jM} (hf : Fz zs ks M M') (hz : (6 : Int) ∉ zs ∧ (7 : Int) ∉ zs ∧ (8 : Int) ∉ zs ∧ (11 : Int) ∉ zs) (hk : 25 ∉ ks ∧ 26 ∉ ks) (h : MR P D n F O M) : MR P D n F O M' := by
  obtain ⟨h0, h1, h2, h3, h4, h5, h6⟩ := h
  have k25 : M' 25 = M 25 := hf.1 25 (by simp [hk.1])
  have k26 : M' 26 = M 26 := hf.1 26 (by simp [hk.2])
  exact ⟨h0, by rw [hf.2 6 hz.1]; exact h1, by rw [hf.2 7 hz.2.1]; exact h2, by rw [hf.2 8 hz.2.2.1]; exact h3, by rw [hf.2 11 hz.2.2.2]; exact h4, by rw [k25]; exact h5, by rw [k26]; exact h6⟩
theorem ia_fz {zs : List Int} {ks : List Nat} {M M' : jM} {G : Nat → Bool} (hf : Fz zs ks M M') (hk : 28 ∉ ks) (h : IA M G) : IA M' G := ia_ch hf.1 (by simp [hk]) h
theorem bit_lt {s m k : Nat} (hs : s < 2 ^ m) (h : s.testBit k = true) : k < m := by
  rcases Nat.lt_or_ge k m with q | q
  · exact q
  · have := Nat.testBit_lt_two_pow (Nat.lt_of_lt_of_le hs (Nat.pow_le_pow_right (by decide) q))
    rw [this] at h
    exact absurd h (by decide)
theorem p12 {s m : Nat} (hm : m ≤ 12) (hs : s < 2 ^ m) : s < 2147483648 := by
  have := Nat.pow_le_pow_right (n := 2) (by decide) hm
  omega
/-- a facet joins a set of others of a row -/
def jnQ (G : Nat → Nat) (i s k : Nat) : Nat → Bool := fun o => s.testBit o && (popc (G i &&& G o) + 1 == popc (G i)) && sbs (G i &&& G k) (G o)
def jnS (G : Nat → Nat) (i s : Nat) : Bool := allN 12 (fun k => !s.testBit k || anyN 12 (jnQ G i s k))
/-- the set of the facets at the first places -/
def ahd (O : Nat → Nat) : Nat → Nat
  | 0 => 0
  | k + 1 => ahd O k ||| 2 ^ O k
theorem ahd_lt {O : Nat → Nat} {n k : Nat} (h : ∀ i, i < k → O i < n) : ahd O k < 2 ^ n := by
  induction k with
  | zero => exact Nat.two_pow_pos n
  | succ k ih => exact Nat.or_lt_two_pow (ih (fun i hi => h i (by omega))) (Nat.pow_lt_pow_right (by decide) (h k (by omega)))
theorem MR.ah {P D n : Nat} {F O : Nat → Nat} {M : jM} (h : MR P D n F O M) {k : Nat} (hk : k ≤ n) : ahd O k < 2 ^ n := ahd_lt (fun i hi => h.ob (by omega))
theorem MR.ah31 {P D n : Nat} {F O : Nat → Nat} {M : jM} (h : MR P D n F O M) {k : Nat} (hk : k ≤ n) : ahd O k < 2147483648 := p12 h.hn (h.ah hk)
def jnA (F O : Nat → Nat) (k : Nat) : Bool := jnS F (O k) (ahd O k)
def rsQ (F O : Nat → Nat) (pl p : Nat) : Nat → Bool := fun k => sbs (ndf (F (O pl)) (2 ^ p)) (F (O k))
def rst (F O : Nat → Nat) (pl : Nat) : Nat := mskN 7 (fun p => (F (O pl)).testBit p && anyN pl (rsQ F O pl p))
def gdN (n : Nat) (F O : Nat → Nat) : Int := fstN n (fun k => !jnA F O k) (n : Int)
theorem or_if (x p : Nat) (a b : Bool) : (x ||| (if a = true then 2 ^ p else 0)) ||| (if b = true then 2 ^ p else 0) = x ||| (if (a || b) = true then 2 ^ p else 0) := by
  rw [Nat.or_assoc]
  cases a <;> cases b <;> simp
set_option maxRecDepth 100000 in
set_option maxHeartbeats 4000000 in
theorem ev_X7_laysFaces_25_L19 (m : Nat) (hm : m ≤ 12) (G : Nat → Nat) (M : jM) (hG : RowA 25 M m G) (s : Nat) (hs : s < 128) (K0 : ∀ (M3 : jM) (c1 : Ch [28] M M3) (c2 : (∀ t : Nat, t < s + 1 → M3 28 (t : Int) = (((isF m G t).toNat : Nat) : Int))), J none 1 mX7_laysFaces 54 [(33, 0), (35, 0), (0, ((m : Nat) : Int)), (0, ((s : Nat) : Int)), (9, 0)] [] M3 (j_ret mX7_laysFaces (fun z M' => Ch [28] M M' ∧ IA M' (isF m G)))) : ∀ (fu : Nat) (M2 : jM) (k : Nat) (g1 : Ch [28] M M2) (g2 : (∀ t : Nat, t < s → M2 28 (t : Int) = (((isF m G t).toNat : Nat) : Int))) (g3 : M2 28 (s : Int) = (((anyN k (fun k => sbs s (G k))).toNat : Nat) : Int)) (g4 : k ≤ m) (hfu : m - k < fu), J none 1 mX7_laysFaces 19 [(33, 0), (35, 0), (0, ((m : Nat) : Int)), (0, ((s : Nat) : Int)), (0, ((k : Nat) : Int))] [] M2 (j_ret mX7_laysFaces (fun z M' => Ch [28] M M' ∧ IA M' (isF m G))) := by
  intro fu
  induction fu with
  | zero => intro M2 k g1 g2 g3 g4 hfu; exact absurd hfu (Nat.not_lt_zero _)
  | succ fu ih =>
    intro M2 k g1 g2 g3 g4 hfu
    refine J_iload dX7_laysFaces_19 rfl ?_
    refine J_iload_n dX7_laysFaces_21 rfl ?_
    refine J_icmp_ge (tgt := 54) dX7_laysFaces_22 rfl (j_R (by omega)) (j_R (by omega)) (fun h22 => ?_) (fun h22 => ?_)
    ·
      refine J_unset 4 (L' := [(33, 0), (35, 0), (0, ((m : Nat) : Int)), (0, ((s : Nat) : Int)), (9, 0)]) rfl ?_
      exact K0 _ (by exact g1) (by intro t ht; rcases Nat.lt_or_ge t s with q | q; exact g2 t q; rw [show t = s by omega, g3]; rw [show k = m by omega]; rfl)
    ·
      refine J_aload_n dX7_laysFaces_25 rfl ?_
      refine J_getR dX7_laysFaces_26 flX7_26 rfl rfl ?_
      refine J_iload_n dX7_laysFaces_29 rfl ?_
      refine J_bald dX7_laysFaces_30 rfl (by decide) (by omega) (J_top (v := ((Bool.toNat (anyN k (fun k => sbs s (G k))) : Nat) : Int)) g3 ?_)
      refine J_ifb_ne (tgt := 54) dX7_laysFaces_31 rfl (fun h31 => ?_) (fun h31 => ?_)
      ·
        refine J_unset 4 (L' := [(33, 0), (35, 0), (0, ((m : Nat) : Int)), (0, ((s : Nat) : Int)), (9, 0)]) rfl ?_
        exact K0 _ (by exact g1) (by intro t ht; rcases Nat.lt_or_ge t s with q | q; exact g2 t q; rw [show t = s by omega, g3]; rw [h31]; unfold isF; rw [anyN_up h31 g4])
      ·
        refine J_aload_n dX7_laysFaces_34 rfl ?_
        refine J_getR dX7_laysFaces_35 flX7_26 rfl rfl ?_
        refine J_iload_n dX7_laysFaces_38 rfl ?_
        refine J_iload_n dX7_laysFaces_39 rfl ?_
        refine J_aload_n dX7_laysFaces_40 rfl ?_
        refine J_iload dX7_laysFaces_41 rfl ?_
        refine J_iald dX7_laysFaces_43 rfl (by decide) (by omega) (J_top (v := (((G k) : Nat) : Int)) (by rw [g1 25 (by decide)]; exact (hG k (by omega)).1) ?_)
        refine J_callSiQ (cl := mX7_lies) [(0, ((s : Nat) : Int)), (0, (((G k) : Nat) : Int))] [(0, ((s : Nat) : Int)), (38, 0)] dX7_laysFaces_44 mlX7_183 csX7_lies rfl rfl (by decide) (Nat.le_of_ble_eq_true rfl) rfl (ev_X7_lies s (G k) (by omega) (by have := (hG k (by omega)).2; omega) M2) ?_
        refine J_bast dX7_laysFaces_47 rfl (by decide) (by omega) (b01 _) ?_
        refine J_iinc (v := (((k + 1) : Nat) : Int)) (L' := [(33, 0), (35, 0), (0, ((m : Nat) : Int)), (0, ((s : Nat) : Int)), (0, (((k + 1) : Nat) : Int))]) dX7_laysFaces_48 rfl (by omega) (by decide) rfl rfl ?_
        refine J_goto (tgt := 19) dX7_laysFaces_51 rfl ?_
        exact ih _ _ (by exact Ch_up (by decide) g1) (by intro t ht; rw [j_up_nz (by omega)]; exact g2 t ht) (by rw [j_up_eq]; simp [anyN, h31]) (by omega) (by omega)
set_option maxRecDepth 100000 in
set_option maxHeartbeats 4000000 in
theorem ev_X7_laysFaces_25_L2 (m : Nat) (hm : m ≤ 12) (G : Nat → Nat) (M : jM) (hG : RowA 25 M m G)  : ∀ (fu : Nat) (M1 : jM) (s : Nat) (f1 : Ch [28] M M1) (f2 : (∀ t : Nat, t < s → M1 28 (t : Int) = (((isF m G t).toNat : Nat) : Int))) (f3 : s ≤ 128) (hfu : 128 - s < fu), J none 1 mX7_laysFaces 2 [(33, 0), (35, 0), (0, ((m : Nat) : Int)), (0, ((s : Nat) : Int)), (9, 0)] [] M1 (j_ret mX7_laysFaces (fun z M' => Ch [28] M M' ∧ IA M' (isF m G))) := by
  intro fu
  induction fu with
  | zero => intro M1 s f1 f2 f3 hfu; exact absurd hfu (Nat.not_lt_zero _)
  | succ fu ih =>
    intro M1 s f1 f2 f3 hfu
    refine J_iload_n dX7_laysFaces_2 rfl ?_
    refine J_sipush dX7_laysFaces_3 (by decide) ?_
    refine J_icmp_ge (tgt := 60) dX7_laysFaces_6 rfl (j_R (by omega)) (by decide) (fun h6 => ?_) (fun h6 => ?_)
    ·
      refine J_return dX7_laysFaces_60 rfl ?_
      have : s = 128 := by omega
      subst this
      exact ⟨f1, f2⟩
    ·
      refine J_aload_n dX7_laysFaces_9 rfl ?_
      refine J_getR dX7_laysFaces_10 flX7_26 rfl rfl ?_
      refine J_iload_n dX7_laysFaces_13 rfl ?_
      refine J_iconst dX7_laysFaces_14 ?_
      refine J_bast dX7_laysFaces_15 rfl (by decide) (by omega) (Or.inl rfl) ?_
      refine J_iconst dX7_laysFaces_16 ?_
      refine J_istore (L' := [(33, 0), (35, 0), (0, ((m : Nat) : Int)), (0, ((s : Nat) : Int)), (0, 0)]) dX7_laysFaces_17 (by decide) rfl rfl ?_
      refine J_eq (L' := [(33, 0), (35, 0), (0, ((m : Nat) : Int)), (0, ((s : Nat) : Int)), (0, ((0 : Nat) : Int))]) rfl rfl rfl ?_
      refine ev_X7_laysFaces_25_L19 m hm G M hG s (by omega) (fun M3 c1 c2 => ?_) _ _ _ (by exact Ch_up (by decide) f1) (by intro t ht; rw [j_up_nz (by omega)]; exact f2 t ht) (by rw [j_up_eq]; rfl) (by omega) (Nat.lt_succ_self _)
      ·
        refine J_iinc (v := (((s + 1) : Nat) : Int)) (L' := [(33, 0), (35, 0), (0, ((m : Nat) : Int)), (0, (((s + 1) : Nat) : Int)), (9, 0)]) dX7_laysFaces_54 rfl (by omega) (by decide) rfl rfl ?_
        refine J_goto (tgt := 2) dX7_laysFaces_57 rfl ?_
        exact ih _ _ (by exact c1) (by exact c2) (by omega) (by omega)
set_option maxRecDepth 100000 in
set_option maxHeartbeats 4000000 in
theorem ev_X7_laysFaces_25 (m : Nat) (hm : m ≤ 12) (G : Nat → Nat) (M : jM) (hG : RowA 25 M m G) : Ev 1 mX7_laysFaces [(33, 0), (35, 0), (0, ((m : Nat) : Int))] M (fun z M' => Ch [28] M M' ∧ IA M' (isF m G)) := by
  refine Ev_of (by decide +kernel) (Nat.le_of_ble_eq_true rfl) (L := [(33, 0), (35, 0), (0, ((m : Nat) : Int)), (9, 0), (9, 0)]) rfl ?_
  refine J_iconst dX7_laysFaces_0 ?_
  refine J_istore_n (L' := [(33, 0), (35, 0), (0, ((m : Nat) : Int)), (0, 0), (9, 0)]) dX7_laysFaces_1 (by decide) rfl rfl ?_
  refine J_eq (L' := [(33, 0), (35, 0), (0, ((m : Nat) : Int)), (0, ((0 : Nat) : Int)), (9, 0)]) rfl rfl rfl ?_
  exact ev_X7_laysFaces_25_L2 m hm G M hG  _ _ _ (by exact Ch_rf) (by intro t ht; omega) (by omega) (Nat.lt_succ_self _)
set_option maxRecDepth 100000 in
set_option maxHeartbeats 4000000 in
theorem ev_X7_laysFaces_31_L19 (m : Nat) (hm : m ≤ 128) (G : Nat → Nat) (M : jM) (hG : RowA 31 M m G) (s : Nat) (hs : s < 128) (K0 : ∀ (M3 : jM) (c1 : Ch [28] M M3) (c2 : (∀ t : Nat, t < s + 1 → M3 28 (t : Int) = (((isF m G t).toNat : Nat) : Int))), J none 1 mX7_laysFaces 54 [(33, 0), (41, 0), (0, ((m : Nat) : Int)), (0, ((s : Nat) : Int)), (9, 0)] [] M3 (j_ret mX7_laysFaces (fun z M' => Ch [28] M M' ∧ IA M' (isF m G)))) : ∀ (fu : Nat) (M2 : jM) (k : Nat) (g1 : Ch [28] M M2) (g2 : (∀ t : Nat, t < s → M2 28 (t : Int) = (((isF m G t).toNat : Nat) : Int))) (g3 : M2 28 (s : Int) = (((anyN k (fun k => sbs s (G k))).toNat : Nat) : Int)) (g4 : k ≤ m) (hfu : m - k < fu), J none 1 mX7_laysFaces 19 [(33, 0), (41, 0), (0, ((m : Nat) : Int)), (0, ((s : Nat) : Int)), (0, ((k : Nat) : Int))] [] M2 (j_ret mX7_laysFaces (fun z M' => Ch [28] M M' ∧ IA M' (isF m G))) := by
  intro fu
  induction fu with
  | zero => intro M2 k g1 g2 g3 g4 hfu; exact absurd hfu (Nat.not_lt_zero _)
  | succ fu ih =>
    intro M2 k g1 g2 g3 g4 hfu
    refine J_iload dX7_laysFaces_19 rfl ?_
    refine J_iload_n dX7_laysFaces_21 rfl ?_
    refine J_icmp_ge (tgt := 54) dX7_laysFaces_22 rfl (j_R (by omega)) (j_R (by omega)) (fun h22 => ?_) (fun h22 => ?_)
    ·
      refine J_unset 4 (L' := [(33, 0), (41, 0), (0, ((m : Nat) : Int)), (0, ((s : Nat) : Int)), (9, 0)]) rfl ?_
      exact K0 _ (by exact g1) (by intro t ht; rcases Nat.lt_or_ge t s with q | q; exact g2 t q; rw [show t = s by omega, g3]; rw [show k = m by omega]; rfl)
    ·
      refine J_aload_n dX7_laysFaces_25 rfl ?_
      refine J_getR dX7_laysFaces_26 flX7_26 rfl rfl ?_
      refine J_iload_n dX7_laysFaces_29 rfl ?_
      refine J_bald dX7_laysFaces_30 rfl (by decide) (by omega) (J_top (v := ((Bool.toNat (anyN k (fun k => sbs s (G k))) : Nat) : Int)) g3 ?_)
      refine J_ifb_ne (tgt := 54) dX7_laysFaces_31 rfl (fun h31 => ?_) (fun h31 => ?_)
      ·
        refine J_unset 4 (L' := [(33, 0), (41, 0), (0, ((m : Nat) : Int)), (0, ((s : Nat) : Int)), (9, 0)]) rfl ?_
        exact K0 _ (by exact g1) (by intro t ht; rcases Nat.lt_or_ge t s with q | q; exact g2 t q; rw [show t = s by omega, g3]; rw [h31]; unfold isF; rw [anyN_up h31 g4])
      ·
        refine J_aload_n dX7_laysFaces_34 rfl ?_
        refine J_getR dX7_laysFaces_35 flX7_26 rfl rfl ?_
        refine J_iload_n dX7_laysFaces_38 rfl ?_
        refine J_iload_n dX7_laysFaces_39 rfl ?_
        refine J_aload_n dX7_laysFaces_40 rfl ?_
        refine J_iload dX7_laysFaces_41 rfl ?_
        refine J_iald dX7_laysFaces_43 rfl (by decide) (by omega) (J_top (v := (((G k) : Nat) : Int)) (by rw [g1 31 (by decide)]; exact (hG k (by omega)).1) ?_)
        refine J_callSiQ (cl := mX7_lies) [(0, ((s : Nat) : Int)), (0, (((G k) : Nat) : Int))] [(0, ((s : Nat) : Int)), (38, 0)] dX7_laysFaces_44 mlX7_183 csX7_lies rfl rfl (by decide) (Nat.le_of_ble_eq_true rfl) rfl (ev_X7_lies s (G k) (by omega) (by have := (hG k (by omega)).2; omega) M2) ?_
        refine J_bast dX7_laysFaces_47 rfl (by decide) (by omega) (b01 _) ?_
        refine J_iinc (v := (((k + 1) : Nat) : Int)) (L' := [(33, 0), (41, 0), (0, ((m : Nat) : Int)), (0, ((s : Nat) : Int)), (0, (((k + 1) : Nat) : Int))]) dX7_laysFaces_48 rfl (by omega) (by decide) rfl rfl ?_
        refine J_goto (tgt := 19) dX7_laysFaces_51 rfl ?_
        exact ih _ _ (by exact Ch_up (by decide) g1) (by intro t ht; rw [j_up_nz (by omega)]; exact g2 t ht) (by rw [j_up_eq]; simp [anyN, h31]) (by omega) (by omega)
set_option maxRecDepth 100000 in
set_option maxHeartbeats 4000000 in
theorem ev_X7_laysFaces_31_L2 (m : Nat) (hm : m ≤ 128) (G : Nat → Nat) (M : jM) (hG : RowA 31 M m G)  : ∀ (fu : Nat) (M1 : jM) (s : Nat) (f1 : Ch [28] M M1) (f2 : (∀ t : Nat, t < s → M1 28 (t : Int) = (((isF m G t).toNat : Nat) : Int))) (f3 : s ≤ 128) (hfu : 128 - s < fu), J none 1 mX7_laysFaces 2 [(33, 0), (41, 0), (0, ((m : Nat) : Int)), (0, ((s : Nat) : Int)), (9, 0)] [] M1 (j_ret mX7_laysFaces (fun z M' => Ch [28] M M' ∧ IA M' (isF m G))) := by
  intro fu
  induction fu with
  | zero => intro M1 s f1 f2 f3 hfu; exact absurd hfu (Nat.not_lt_zero _)
  | succ fu ih =>
    intro M1 s f1 f2 f3 hfu
    refine J_iload_n dX7_laysFaces_2 rfl ?_
    refine J_sipush dX7_laysFaces_3 (by decide) ?_
    refine J_icmp_ge (tgt := 60) dX7_laysFaces_6 rfl (j_R (by omega)) (by decide) (fun h6 => ?_) (fun h6 => ?_)
    ·
      refine J_return dX7_laysFaces_60 rfl ?_
      have : s = 128 := by omega
      subst this
      exact ⟨f1, f2⟩
    ·
      refine J_aload_n dX7_laysFaces_9 rfl ?_
      refine J_getR dX7_laysFaces_10 flX7_26 rfl rfl ?_
      refine J_iload_n dX7_laysFaces_13 rfl ?_
      refine J_iconst dX7_laysFaces_14 ?_
      refine J_bast dX7_laysFaces_15 rfl (by decide) (by omega) (Or.inl rfl) ?_
      refine J_iconst dX7_laysFaces_16 ?_
      refine J_istore (L' := [(33, 0), (41, 0), (0, ((m : Nat) : Int)), (0, ((s : Nat) : Int)), (0, 0)]) dX7_laysFaces_17 (by decide) rfl rfl ?_
      refine J_eq (L' := [(33, 0), (41, 0), (0, ((m : Nat) : Int)), (0, ((s : Nat) : Int)), (0, ((0 : Nat) : Int))]) rfl rfl rfl ?_
      refine ev_X7_laysFaces_31_L19 m hm G M hG s (by omega) (fun M3 c1 c2 => ?_) _ _ _ (by exact Ch_up (by decide) f1) (by intro t ht; rw [j_up_nz (by omega)]; exact f2 t ht) (by rw [j_up_eq]; rfl) (by omega) (Nat.lt_succ_self _)
      ·
        refine J_iinc (v := (((s + 1) : Nat) : Int)) (L' := [(33, 0), (41, 0), (0, ((m : Nat) : Int)), (0, (((s + 1) : Nat) : Int)), (9, 0)]) dX7_laysFaces_54 rfl (by omega) (by decide) rfl rfl ?_
        refine J_goto (tgt := 2) dX7_laysFaces_57 rfl ?_
        exact ih _ _ (by exact c1) (by exact c2) (by omega) (by omega)
set_option maxRecDepth 100000 in
set_option maxHeartbeats 4000000 in
theorem ev_X7_laysFaces_31 (m : Nat) (hm : m ≤ 128) (G : Nat → Nat) (M : jM) (hG : RowA 31 M m G) : Ev 1 mX7_laysFaces [(33, 0), (41, 0), (0, ((m : Nat) : Int))] M (fun z M' => Ch [28] M M' ∧ IA M' (isF m G)) := by
  refine Ev_of (by decide +kernel) (Nat.le_of_ble_eq_true rfl) (L := [(33, 0), (41, 0), (0, ((m : Nat) : Int)), (9, 0), (9, 0)]) rfl ?_
  refine J_iconst dX7_laysFaces_0 ?_
  refine J_istore_n (L' := [(33, 0), (41, 0), (0, ((m : Nat) : Int)), (0, 0), (9, 0)]) dX7_laysFaces_1 (by decide) rfl rfl ?_
  refine J_eq (L' := [(33, 0), (41, 0), (0, ((m : Nat) : Int)), (0, ((0 : Nat) : Int)), (9, 0)]) rfl rfl rfl ?_
  exact ev_X7_laysFaces_31_L2 m hm G M hG  _ _ _ (by exact Ch_rf) (by intro t ht; omega) (by omega) (Nat.lt_succ_self _)
set_option maxRecDepth 100000 in
set_option maxHeartbeats 4000000 in
theorem ev_X7_laysFaces_36_L19 (m : Nat) (hm : m ≤ 12) (G : Nat → Nat) (M : jM) (hG : RowA 36 M m G) (s : Nat) (hs : s < 128) (K0 : ∀ (M3 : jM) (c1 : Ch [28] M M3) (c2 : (∀ t : Nat, t < s + 1 → M3 28 (t : Int) = (((isF m G t).toNat : Nat) : Int))), J none 1 mX7_laysFaces 54 [(33, 0), (46, 0), (0, ((m : Nat) : Int)), (0, ((s : Nat) : Int)), (9, 0)] [] M3 (j_ret mX7_laysFaces (fun z M' => Ch [28] M M' ∧ IA M' (isF m G)))) : ∀ (fu : Nat) (M2 : jM) (k : Nat) (g1 : Ch [28] M M2) (g2 : (∀ t : Nat, t < s → M2 28 (t : Int) = (((isF m G t).toNat : Nat) : Int))) (g3 : M2 28 (s : Int) = (((anyN k (fun k => sbs s (G k))).toNat : Nat) : Int)) (g4 : k ≤ m) (hfu : m - k < fu), J none 1 mX7_laysFaces 19 [(33, 0), (46, 0), (0, ((m : Nat) : Int)), (0, ((s : Nat) : Int)), (0, ((k : Nat) : Int))] [] M2 (j_ret mX7_laysFaces (fun z M' => Ch [28] M M' ∧ IA M' (isF m G))) := by
  intro fu
  induction fu with
  | zero => intro M2 k g1 g2 g3 g4 hfu; exact absurd hfu (Nat.not_lt_zero _)
  | succ fu ih =>
    intro M2 k g1 g2 g3 g4 hfu
    refine J_iload dX7_laysFaces_19 rfl ?_
    refine J_iload_n dX7_laysFaces_21 rfl ?_
    refine J_icmp_ge (tgt := 54) dX7_laysFaces_22 rfl (j_R (by omega)) (j_R (by omega)) (fun h22 => ?_) (fun h22 => ?_)
    ·
      refine J_unset 4 (L' := [(33, 0), (46, 0), (0, ((m : Nat) : Int)), (0, ((s : Nat) : Int)), (9, 0)]) rfl ?_
      exact K0 _ (by exact g1) (by intro t ht; rcases Nat.lt_or_ge t s with q | q; exact g2 t q; rw [show t = s by omega, g3]; rw [show k = m by omega]; rfl)
    ·
      refine J_aload_n dX7_laysFaces_25 rfl ?_
      refine J_getR dX7_laysFaces_26 flX7_26 rfl rfl ?_
      refine J_iload_n dX7_laysFaces_29 rfl ?_
      refine J_bald dX7_laysFaces_30 rfl (by decide) (by omega) (J_top (v := ((Bool.toNat (anyN k (fun k => sbs s (G k))) : Nat) : Int)) g3 ?_)
      refine J_ifb_ne (tgt := 54) dX7_laysFaces_31 rfl (fun h31 => ?_) (fun h31 => ?_)
      ·
        refine J_unset 4 (L' := [(33, 0), (46, 0), (0, ((m : Nat) : Int)), (0, ((s : Nat) : Int)), (9, 0)]) rfl ?_
        exact K0 _ (by exact g1) (by intro t ht; rcases Nat.lt_or_ge t s with q | q; exact g2 t q; rw [show t = s by omega, g3]; rw [h31]; unfold isF; rw [anyN_up h31 g4])
      ·
        refine J_aload_n dX7_laysFaces_34 rfl ?_
        refine J_getR dX7_laysFaces_35 flX7_26 rfl rfl ?_
        refine J_iload_n dX7_laysFaces_38 rfl ?_
        refine J_iload_n dX7_laysFaces_39 rfl ?_
        refine J_aload_n dX7_laysFaces_40 rfl ?_
        refine J_iload dX7_laysFaces_41 rfl ?_
        refine J_iald dX7_laysFaces_43 rfl (by decide) (by omega) (J_top (v := (((G k) : Nat) : Int)) (by rw [g1 36 (by decide)]; exact (hG k (by omega)).1) ?_)
        refine J_callSiQ (cl := mX7_lies) [(0, ((s : Nat) : Int)), (0, (((G k) : Nat) : Int))] [(0, ((s : Nat) : Int)), (38, 0)] dX7_laysFaces_44 mlX7_183 csX7_lies rfl rfl (by decide) (Nat.le_of_ble_eq_true rfl) rfl (ev_X7_lies s (G k) (by omega) (by have := (hG k (by omega)).2; omega) M2) ?_
        refine J_bast dX7_laysFaces_47 rfl (by decide) (by omega) (b01 _) ?_
        refine J_iinc (v := (((k + 1) : Nat) : Int)) (L' := [(33, 0), (46, 0), (0, ((m : Nat) : Int)), (0, ((s : Nat) : Int)), (0, (((k + 1) : Nat) : Int))]) dX7_laysFaces_48 rfl (by omega) (by decide) rfl rfl ?_
        refine J_goto (tgt := 19) dX7_laysFaces_51 rfl ?_
        exact ih _ _ (by exact Ch_up (by decide) g1) (by intro t ht; rw [j_up_nz (by omega)]; exact g2 t ht) (by rw [j_up_eq]; simp [anyN, h31]) (by omega) (by omega)
set_option maxRecDepth 100000 in
set_option maxHeartbeats 4000000 in
theorem ev_X7_laysFaces_36_L2 (m : Nat) (hm : m ≤ 12) (G : Nat → Nat) (M : jM) (hG : RowA 36 M m G)  : ∀ (fu : Nat) (M1 : jM) (s : Nat) (f1 : Ch [28] M M1) (f2 : (∀ t : Nat, t < s → M1 28 (t : Int) = (((isF m G t).toNat : Nat) : Int))) (f3 : s ≤ 128) (hfu : 128 - s < fu), J none 1 mX7_laysFaces 2 [(33, 0), (46, 0), (0, ((m : Nat) : Int)), (0, ((s : Nat) : Int)), (9, 0)] [] M1 (j_ret mX7_laysFaces (fun z M' => Ch [28] M M' ∧ IA M' (isF m G))) := by
  intro fu
  induction fu with
  | zero => intro M1 s f1 f2 f3 hfu; exact absurd hfu (Nat.not_lt_zero _)
  | succ fu ih =>
    intro M1 s f1 f2 f3 hfu
    refine J_iload_n dX7_laysFaces_2 rfl ?_
    refine J_sipush dX7_laysFaces_3 (by decide) ?_
    refine J_icmp_ge (tgt := 60) dX7_laysFaces_6 rfl (j_R (by omega)) (by decide) (fun h6 => ?_) (fun h6 => ?_)
    ·
      refine J_return dX7_laysFaces_60 rfl ?_
      have : s = 128 := by omega
      subst this
      exact ⟨f1, f2⟩
    ·
      refine J_aload_n dX7_laysFaces_9 rfl ?_
      refine J_getR dX7_laysFaces_10 flX7_26 rfl rfl ?_
      refine J_iload_n dX7_laysFaces_13 rfl ?_
      refine J_iconst dX7_laysFaces_14 ?_
      refine J_bast dX7_laysFaces_15 rfl (by decide) (by omega) (Or.inl rfl) ?_
      refine J_iconst dX7_laysFaces_16 ?_
      refine J_istore (L' := [(33, 0), (46, 0), (0, ((m : Nat) : Int)), (0, ((s : Nat) : Int)), (0, 0)]) dX7_laysFaces_17 (by decide) rfl rfl ?_
      refine J_eq (L' := [(33, 0), (46, 0), (0, ((m : Nat) : Int)), (0, ((s : Nat) : Int)), (0, ((0 : Nat) : Int))]) rfl rfl rfl ?_
      refine ev_X7_laysFaces_36_L19 m hm G M hG s (by omega) (fun M3 c1 c2 => ?_) _ _ _ (by exact Ch_up (by decide) f1) (by intro t ht; rw [j_up_nz (by omega)]; exact f2 t ht) (by rw [j_up_eq]; rfl) (by omega) (Nat.lt_succ_self _)
      ·
        refine J_iinc (v := (((s + 1) : Nat) : Int)) (L' := [(33, 0), (46, 0), (0, ((m : Nat) : Int)), (0, (((s + 1) : Nat) : Int)), (9, 0)]) dX7_laysFaces_54 rfl (by omega) (by decide) rfl rfl ?_
        refine J_goto (tgt := 2) dX7_laysFaces_57 rfl ?_
        exact ih _ _ (by exact c1) (by exact c2) (by omega) (by omega)
set_option maxRecDepth 100000 in
set_option maxHeartbeats 4000000 in
theorem ev_X7_laysFaces_36 (m : Nat) (hm : m ≤ 12) (G : Nat → Nat) (M : jM) (hG : RowA 36 M m G) : Ev 1 mX7_laysFaces [(33, 0), (46, 0), (0, ((m : Nat) : Int))] M (fun z M' => Ch [28] M M' ∧ IA M' (isF m G)) := by
  refine Ev_of (by decide +kernel) (Nat.le_of_ble_eq_true rfl) (L := [(33, 0), (46, 0), (0, ((m : Nat) : Int)), (9, 0), (9, 0)]) rfl ?_
  refine J_iconst dX7_laysFaces_0 ?_
  refine J_istore_n (L' := [(33, 0), (46, 0), (0, ((m : Nat) : Int)), (0, 0), (9, 0)]) dX7_laysFaces_1 (by decide) rfl rfl ?_
  refine J_eq (L' := [(33, 0), (46, 0), (0, ((m : Nat) : Int)), (0, ((0 : Nat) : Int)), (9, 0)]) rfl rfl rfl ?_
  exact ev_X7_laysFaces_36_L2 m hm G M hG  _ _ _ (by exact Ch_rf) (by intro t ht; omega) (by omega) (Nat.lt_succ_self _)
set_option maxRecDepth 100000 in
set_option maxHeartbeats 4000000 in
theorem ev_X7_laysOwn (P D n : Nat) (F O : Nat → Nat) (M : jM) (hR : MR P D n F O M) : Ev 2 mX7_laysOwn [(33, 0)] M (fun z M' => Ch [28] M M' ∧ IA M' (isF n F)) := by
  refine Ev_of (by decide +kernel) (Nat.le_of_ble_eq_true rfl) (L := [(33, 0)]) rfl ?_
  have hn12 := MR.hn hR
  have hP7 := MR.hP hR
  have hD5 := MR.hD hR
  refine J_aload_n dX7_laysOwn_0 rfl ?_
  refine J_aload_n dX7_laysOwn_1 rfl ?_
  refine J_getR dX7_laysOwn_2 flX7_17 rfl rfl ?_
  refine J_aload_n dX7_laysOwn_5 rfl ?_
  refine J_getI dX7_laysOwn_6 flX7_176 rfl rfl (J_top (v := ((n : Nat) : Int)) (MR.gn hR) ?_)
  refine J_callVv (cl := mX7_laysFaces) [(35, 0), (0, ((n : Nat) : Int))] [] dX7_laysOwn_9 mlX7_195 cvX7_laysFaces rfl rfl rfl rfl rfl (by decide) (Nat.le_of_ble_eq_true rfl) rfl (ev_X7_laysFaces_25 n (by omega) F M (MR.row hR)) (fun M1 hq9 => ?_)
  obtain ⟨c1, c2⟩ := hq9
  refine J_return dX7_laysOwn_12 rfl ?_
  exact ⟨c1, c2⟩
set_option maxRecDepth 100000 in
set_option maxHeartbeats 4000000 in
theorem ev_X7_laysMissing_L7 (P D n : Nat) (F O : Nat → Nat) (M : jM) (hR : MR P D n F O M) (G : Nat → Bool) (hG : IA M G)  : ∀ (fu : Nat) (M1 : jM) (s : Nat) (f1 : Fz [27] [31] M M1) (f2 : M1 23 27 = ((cntN s (msg P G) : Nat) : Int)) (f3 : ∀ j : Nat, j < cntN s (msg P G) → M1 31 (j : Int) = nthN s (msg P G) (j : Int)) (f4 : 1 ≤ s) (f5 : s ≤ 2 ^ P) (hfu : 2 ^ P - s < fu), J none 2 mX7_laysMissing 7 [(33, 0), (0, ((s : Nat) : Int))] [] M1 (j_ret mX7_laysMissing (fun z M' => Fz [27] [31] M M' ∧ M' 23 27 = ((cntN (2 ^ P) (msg P G) : Nat) : Int) ∧ ∀ j : Nat, j < cntN (2 ^ P) (msg P G) → M' 31 (j : Int) = nthN (2 ^ P) (msg P G) (j : Int))) := by
  intro fu
  induction fu with
  | zero => intro M1 s f1 f2 f3 f4 f5 hfu; exact absurd hfu (Nat.not_lt_zero _)
  | succ fu ih =>
    intro M1 s f1 f2 f3 f4 f5 hfu
    have hn12 := MR.hn hR
    have hP7 := MR.hP hR
    have hD5 := MR.hD hR
    have h2P : 2 ^ P ≤ 128 := Nat.pow_le_pow_right (n := 2) (by decide) hP7
    have h2p := Nat.two_pow_pos P
    refine J_iload_n dX7_laysMissing_7 rfl ?_
    refine J_aload_n dX7_laysMissing_8 rfl ?_
    refine J_callViQ (cl := mX7_allPoints) [] [(0, ((s : Nat) : Int))] dX7_laysMissing_9 mlX7_212 cvX7_allPoints rfl rfl rfl rfl rfl (by decide) (Nat.le_of_ble_eq_true rfl) rfl (ev_X7_allPoints P D n F O M1 (mr_fz f1 (by decide) (by decide) hR)) ?_
    refine J_icmp_gt (tgt := 49) dX7_laysMissing_12 rfl (j_R (by omega)) (j_R (ap31 (mr_fz f1 (by decide) (by decide) hR))) (fun h12 => ?_) (fun h12 => ?_)
    ·
      refine J_return dX7_laysMissing_49 rfl ?_
      have : s = 2 ^ P := by omega
      subst this
      exact ⟨f1, f2, f3⟩
    ·
      refine J_aload_n dX7_laysMissing_15 rfl ?_
      refine J_iload_n dX7_laysMissing_16 rfl ?_
      refine J_callViQ (cl := mX7_isMissing) [(0, ((s : Nat) : Int))] [] dX7_laysMissing_17 mlX7_215 cvX7_isMissing rfl rfl rfl rfl rfl (by decide) (Nat.le_of_ble_eq_true rfl) rfl (ev_X7_isMissing P D n F O M1 (mr_fz f1 (by decide) (by decide) hR) G (ia_fz f1 (by decide) hG) s (by omega)) ?_
      refine J_ifb_eq (tgt := 43) dX7_laysMissing_20 rfl (fun h20 => ?_) (fun h20 => ?_)
      ·
        refine J_iinc (v := (((s + 1) : Nat) : Int)) (L' := [(33, 0), (0, (((s + 1) : Nat) : Int))]) dX7_laysMissing_43 rfl (by omega) (by decide) rfl rfl ?_
        refine J_goto (tgt := 7) dX7_laysMissing_46 rfl ?_
        exact ih _ _ (by exact f1) (by rw [f2, cntN_f h20]) (by intro j hj; rw [cntN_f h20] at hj; rw [f3 j hj]; exact (nthN_stay (m := s) (by have := nthN_ge (p := (msg P G)) hj; omega) (by omega)).symm) (by omega) (by omega) (by omega)
      ·
        refine J_aload_n dX7_laysMissing_23 rfl ?_
        refine J_getR dX7_laysMissing_24 flX7_37 rfl rfl ?_
        refine J_aload_n dX7_laysMissing_27 rfl ?_
        refine J_getI dX7_laysMissing_28 flX7_209 rfl rfl (J_top (v := (((cntN s (msg P G)) : Nat) : Int)) f2 ?_)
        refine J_iload_n dX7_laysMissing_31 rfl ?_
        refine J_iast dX7_laysMissing_32 rfl (by decide) (by have := cntN_le s (msg P G); omega) ?_
        refine J_aload_n dX7_laysMissing_33 rfl ?_
        refine J_dup dX7_laysMissing_34 rfl ?_
        refine J_getI dX7_laysMissing_35 flX7_209 rfl rfl (J_top (v := (((cntN s (msg P G)) : Nat) : Int)) (by rw [j_up_ne (by decide)]; exact f2) ?_)
        refine J_iconst dX7_laysMissing_38 ?_
        refine J_iadd dX7_laysMissing_39 (J_top (v := (((cntN s (msg P G) + 1) : Nat) : Int)) (by omega) ?_)
        refine J_putI dX7_laysMissing_40 flX7_209 rfl rfl (Or.inl rfl) ?_
        refine J_iinc (v := (((s + 1) : Nat) : Int)) (L' := [(33, 0), (0, (((s + 1) : Nat) : Int))]) dX7_laysMissing_43 rfl (by omega) (by decide) rfl rfl ?_
        refine J_goto (tgt := 7) dX7_laysMissing_46 rfl ?_
        exact ih _ _ (by exact Fz_upz (by decide) (Fz_upk (by decide) (by decide) f1)) (by rw [j_up_eq, cntN_t h20]) (by intro j hj; rw [j_up_ne (by decide)]; rw [cntN_t h20] at hj; by_cases hjs : j = cntN s (msg P G); rw [hjs, j_up_eq, nthN_hit h20 rfl (by omega)]; rw [j_up_nz (by omega), f3 j (by omega)]; exact (nthN_stay (m := s) (by have := nthN_ge (p := (msg P G)) (n := s) (i := j) (by omega); omega) (by omega)).symm) (by omega) (by omega) (by omega)
set_option maxRecDepth 100000 in
set_option maxHeartbeats 4000000 in
theorem ev_X7_laysMissing (P D n : Nat) (F O : Nat → Nat) (M : jM) (hR : MR P D n F O M) (G : Nat → Bool) (hG : IA M G) : Ev 2 mX7_laysMissing [(33, 0)] M (fun z M' => Fz [27] [31] M M' ∧ M' 23 27 = ((cntN (2 ^ P) (msg P G) : Nat) : Int) ∧ ∀ j : Nat, j < cntN (2 ^ P) (msg P G) → M' 31 (j : Int) = nthN (2 ^ P) (msg P G) (j : Int)) := by
  refine Ev_of (by decide +kernel) (Nat.le_of_ble_eq_true rfl) (L := [(33, 0), (9, 0)]) rfl ?_
  have hn12 := MR.hn hR
  have hP7 := MR.hP hR
  have hD5 := MR.hD hR
  have h2P : 2 ^ P ≤ 128 := Nat.pow_le_pow_right (n := 2) (by decide) hP7
  have h2p := Nat.two_pow_pos P
  refine J_aload_n dX7_laysMissing_0 rfl ?_
  refine J_iconst dX7_laysMissing_1 ?_
  refine J_putI dX7_laysMissing_2 flX7_209 rfl rfl (Or.inl rfl) ?_
  refine J_iconst dX7_laysMissing_5 ?_
  refine J_istore_n (L' := [(33, 0), (0, 1)]) dX7_laysMissing_6 (by decide) rfl rfl ?_
  refine J_eq (L' := [(33, 0), (0, ((1 : Nat) : Int))]) rfl rfl rfl ?_
  exact ev_X7_laysMissing_L7 P D n F O M hR G hG  _ _ _ (by exact Fz_upz (by decide) Fz_rf) (by rw [j_up_eq]; simp [cntN, msg]) (by intro j hj; simp [cntN, msg] at hj) (by omega) (by omega) (Nat.lt_succ_self _)
set_option maxRecDepth 100000 in
set_option maxHeartbeats 4000000 in
theorem ev_X7_joinsSet_25_L37 (m : Nat) (hm : m ≤ 12) (G : Nat → Nat) (M : jM) (hG : RowA 25 M m G) (i s : Nat) (hi : i < m) (hs : s < 2 ^ m) (k : Nat) (hk : k < 12) (h28 : Nat.testBit s k = true) (K0 : ∀ (b : Bool) (g : b = anyN 12 (jnQ G i s k)), J none 1 mX7_joinsSet 101 [(35, 0), (0, ((i : Nat) : Int)), (0, ((s : Nat) : Int)), (0, (((G i) : Nat) : Int)), (0, (((popc (G i) : Nat) : Int) - 1)), (0, ((k : Nat) : Int)), (0, ((Bool.toNat (b) : Nat) : Int)), (9, 0)] [] M (j_ret mX7_joinsSet (fun z M' => z = ((Bool.toNat (jnS G i s) : Nat) : Int) ∧ M' = M))) : ∀ (fu : Nat) (b : Bool) (o : Nat) (g1 : b = anyN o (jnQ G i s k)) (g2 : o ≤ 12) (hfu : 12 - o < fu), J none 1 mX7_joinsSet 37 [(35, 0), (0, ((i : Nat) : Int)), (0, ((s : Nat) : Int)), (0, (((G i) : Nat) : Int)), (0, (((popc (G i) : Nat) : Int) - 1)), (0, ((k : Nat) : Int)), (0, ((Bool.toNat (b) : Nat) : Int)), (0, ((o : Nat) : Int))] [] M (j_ret mX7_joinsSet (fun z M' => z = ((Bool.toNat (jnS G i s) : Nat) : Int) ∧ M' = M)) := by
  intro fu
  induction fu with
  | zero => intro b o g1 g2 hfu; exact absurd hfu (Nat.not_lt_zero _)
  | succ fu ih =>
    intro b o g1 g2 hfu
    refine J_iload dX7_joinsSet_37 rfl ?_
    refine J_bipush dX7_joinsSet_39 (by decide) ?_
    refine J_icmp_ge (tgt := 101) dX7_joinsSet_41 rfl (j_R (by omega)) (by decide) (fun h41 => ?_) (fun h41 => ?_)
    ·
      refine J_unset 7 (L' := [(35, 0), (0, ((i : Nat) : Int)), (0, ((s : Nat) : Int)), (0, (((G i) : Nat) : Int)), (0, (((popc (G i) : Nat) : Int) - 1)), (0, ((k : Nat) : Int)), (0, ((Bool.toNat (b) : Nat) : Int)), (9, 0)]) rfl ?_
      exact K0 _ (by rw [show o = 12 by omega] at g1; exact g1)
    ·
      refine J_iload dX7_joinsSet_44 rfl ?_
      refine J_ifb_ne (tgt := 101) dX7_joinsSet_46 rfl (fun h46 => ?_) (fun h46 => ?_)
      ·
        refine J_unset 7 (L' := [(35, 0), (0, ((i : Nat) : Int)), (0, ((s : Nat) : Int)), (0, (((G i) : Nat) : Int)), (0, (((popc (G i) : Nat) : Int) - 1)), (0, ((k : Nat) : Int)), (0, ((Bool.toNat (b) : Nat) : Int)), (9, 0)]) rfl ?_
        exact K0 _ (by rw [h46] at g1 ⊢; rw [anyN_up g1.symm g2])
      ·
        refine J_iload_n dX7_joinsSet_49 rfl ?_
        refine J_iload dX7_joinsSet_50 rfl ?_
        refine J_callSiQ (cl := mX7_has) [(0, ((s : Nat) : Int)), (0, ((o : Nat) : Int))] [] dX7_joinsSet_52 mlX7_132 csX7_has rfl rfl (by decide) (Nat.le_of_ble_eq_true rfl) rfl (ev_X7_has s o (p12 hm hs) (by omega) M) ?_
        refine J_ifb_eq (tgt := 92) dX7_joinsSet_55 rfl (fun h55 => ?_) (fun h55 => ?_)
        ·
          refine J_iconst dX7_joinsSet_92 ?_
          refine J_istore (L' := [(35, 0), (0, ((i : Nat) : Int)), (0, ((s : Nat) : Int)), (0, (((G i) : Nat) : Int)), (0, (((popc (G i) : Nat) : Int) - 1)), (0, ((k : Nat) : Int)), (0, 0), (0, ((o : Nat) : Int))]) dX7_joinsSet_93 (by decide) rfl rfl ?_
          refine J_iinc (v := (((o + 1) : Nat) : Int)) (L' := [(35, 0), (0, ((i : Nat) : Int)), (0, ((s : Nat) : Int)), (0, (((G i) : Nat) : Int)), (0, (((popc (G i) : Nat) : Int) - 1)), (0, ((k : Nat) : Int)), (0, 0), (0, (((o + 1) : Nat) : Int))]) dX7_joinsSet_95 rfl (by omega) (by decide) rfl rfl ?_
          refine J_goto (tgt := 37) dX7_joinsSet_98 rfl ?_
          refine J_eq (L' := [(35, 0), (0, ((i : Nat) : Int)), (0, ((s : Nat) : Int)), (0, (((G i) : Nat) : Int)), (0, (((popc (G i) : Nat) : Int) - 1)), (0, ((k : Nat) : Int)), (0, ((Bool.toNat (false) : Nat) : Int)), (0, (((o + 1) : Nat) : Int))]) rfl rfl rfl ?_
          exact ih _ _ (by rw [anyN_f (by simp [jnQ, h55]), ← g1, h46]) (by omega) (by omega)
        ·
          refine J_iload_n dX7_joinsSet_58 rfl ?_
          refine J_aload_n dX7_joinsSet_59 rfl ?_
          refine J_iload dX7_joinsSet_60 rfl ?_
          refine J_iald dX7_joinsSet_62 rfl (by decide) (by have := (bit_lt hs h55); omega) (J_top (v := (((G o) : Nat) : Int)) (hG o (bit_lt hs h55)).1 ?_)
          refine J_iand dX7_joinsSet_63 (J_top (v := ((((G i) &&& (G o)) : Nat) : Int)) (j_andN rfl rfl (by have := (hG i hi).2; omega) (by have := (hG o (bit_lt hs h55)).2; omega)) ?_)
          refine J_callSiQ (cl := mX7_many) [(0, ((((G i) &&& (G o)) : Nat) : Int))] [] dX7_joinsSet_64 mlX7_136 csX7_many rfl rfl (by decide) (Nat.le_of_ble_eq_true rfl) rfl (ev_X7_many ((G i) &&& (G o)) (nb_and (by have := (hG i hi).2; omega)) M) ?_
          refine J_iload dX7_joinsSet_67 rfl ?_
          refine J_icmp_ne (tgt := 92) dX7_joinsSet_69 rfl (by have := popc_le (G i &&& G o); have := (hG i hi).2; have := nb_and (b := G o) (hG i hi).2; omega) (by have := popc_le (G i); have := (hG i hi).2; omega) (fun h69 => ?_) (fun h69 => ?_)
          ·
            refine J_iconst dX7_joinsSet_92 ?_
            refine J_istore (L' := [(35, 0), (0, ((i : Nat) : Int)), (0, ((s : Nat) : Int)), (0, (((G i) : Nat) : Int)), (0, (((popc (G i) : Nat) : Int) - 1)), (0, ((k : Nat) : Int)), (0, 0), (0, ((o : Nat) : Int))]) dX7_joinsSet_93 (by decide) rfl rfl ?_
            refine J_iinc (v := (((o + 1) : Nat) : Int)) (L' := [(35, 0), (0, ((i : Nat) : Int)), (0, ((s : Nat) : Int)), (0, (((G i) : Nat) : Int)), (0, (((popc (G i) : Nat) : Int) - 1)), (0, ((k : Nat) : Int)), (0, 0), (0, (((o + 1) : Nat) : Int))]) dX7_joinsSet_95 rfl (by omega) (by decide) rfl rfl ?_
            refine J_goto (tgt := 37) dX7_joinsSet_98 rfl ?_
            refine J_eq (L' := [(35, 0), (0, ((i : Nat) : Int)), (0, ((s : Nat) : Int)), (0, (((G i) : Nat) : Int)), (0, (((popc (G i) : Nat) : Int) - 1)), (0, ((k : Nat) : Int)), (0, ((Bool.toNat (false) : Nat) : Int)), (0, (((o + 1) : Nat) : Int))]) rfl rfl rfl ?_
            exact ih _ _ (by rw [anyN_f (by have hne : (popc (G i &&& G o) + 1 == popc (G i)) = false := beq_eq_false_iff_ne.mpr (by omega); simp [jnQ, hne]), ← g1, h46]) (by omega) (by omega)
          ·
            refine J_iload_n dX7_joinsSet_72 rfl ?_
            refine J_aload_n dX7_joinsSet_73 rfl ?_
            refine J_iload dX7_joinsSet_74 rfl ?_
            refine J_iald dX7_joinsSet_76 rfl (by decide) (by have := (bit_lt hs h28); omega) (J_top (v := (((G k) : Nat) : Int)) (hG k (bit_lt hs h28)).1 ?_)
            refine J_iand dX7_joinsSet_77 (J_top (v := ((((G i) &&& (G k)) : Nat) : Int)) (j_andN rfl rfl (by have := (hG i hi).2; omega) (by have := (hG k (bit_lt hs h28)).2; omega)) ?_)
            refine J_aload_n dX7_joinsSet_78 rfl ?_
            refine J_iload dX7_joinsSet_79 rfl ?_
            refine J_iald dX7_joinsSet_81 rfl (by decide) (by have := (bit_lt hs h55); omega) (J_top (v := (((G o) : Nat) : Int)) (hG o (bit_lt hs h55)).1 ?_)
            refine J_callSiQ (cl := mX7_lies) [(0, ((((G i) &&& (G k)) : Nat) : Int)), (0, (((G o) : Nat) : Int))] [] dX7_joinsSet_82 mlX7_183 csX7_lies rfl rfl (by decide) (Nat.le_of_ble_eq_true rfl) rfl (ev_X7_lies ((G i) &&& (G k)) (G o) (nb_and (by have := (hG i hi).2; omega)) (by have := (hG o (bit_lt hs h55)).2; omega) M) ?_
            refine J_ifb_eq (tgt := 92) dX7_joinsSet_85 rfl (fun h85 => ?_) (fun h85 => ?_)
            ·
              refine J_iconst dX7_joinsSet_92 ?_
              refine J_istore (L' := [(35, 0), (0, ((i : Nat) : Int)), (0, ((s : Nat) : Int)), (0, (((G i) : Nat) : Int)), (0, (((popc (G i) : Nat) : Int) - 1)), (0, ((k : Nat) : Int)), (0, 0), (0, ((o : Nat) : Int))]) dX7_joinsSet_93 (by decide) rfl rfl ?_
              refine J_iinc (v := (((o + 1) : Nat) : Int)) (L' := [(35, 0), (0, ((i : Nat) : Int)), (0, ((s : Nat) : Int)), (0, (((G i) : Nat) : Int)), (0, (((popc (G i) : Nat) : Int) - 1)), (0, ((k : Nat) : Int)), (0, 0), (0, (((o + 1) : Nat) : Int))]) dX7_joinsSet_95 rfl (by omega) (by decide) rfl rfl ?_
              refine J_goto (tgt := 37) dX7_joinsSet_98 rfl ?_
              refine J_eq (L' := [(35, 0), (0, ((i : Nat) : Int)), (0, ((s : Nat) : Int)), (0, (((G i) : Nat) : Int)), (0, (((popc (G i) : Nat) : Int) - 1)), (0, ((k : Nat) : Int)), (0, ((Bool.toNat (false) : Nat) : Int)), (0, (((o + 1) : Nat) : Int))]) rfl rfl rfl ?_
              exact ih _ _ (by rw [anyN_f (by simp [jnQ, h85]), ← g1, h46]) (by omega) (by omega)
            ·
              refine J_iconst dX7_joinsSet_88 ?_
              refine J_goto (tgt := 93) dX7_joinsSet_89 rfl ?_
              refine J_istore (L' := [(35, 0), (0, ((i : Nat) : Int)), (0, ((s : Nat) : Int)), (0, (((G i) : Nat) : Int)), (0, (((popc (G i) : Nat) : Int) - 1)), (0, ((k : Nat) : Int)), (0, 1), (0, ((o : Nat) : Int))]) dX7_joinsSet_93 (by decide) rfl rfl ?_
              refine J_iinc (v := (((o + 1) : Nat) : Int)) (L' := [(35, 0), (0, ((i : Nat) : Int)), (0, ((s : Nat) : Int)), (0, (((G i) : Nat) : Int)), (0, (((popc (G i) : Nat) : Int) - 1)), (0, ((k : Nat) : Int)), (0, 1), (0, (((o + 1) : Nat) : Int))]) dX7_joinsSet_95 rfl (by omega) (by decide) rfl rfl ?_
              refine J_goto (tgt := 37) dX7_joinsSet_98 rfl ?_
              refine J_eq (L' := [(35, 0), (0, ((i : Nat) : Int)), (0, ((s : Nat) : Int)), (0, (((G i) : Nat) : Int)), (0, (((popc (G i) : Nat) : Int) - 1)), (0, ((k : Nat) : Int)), (0, ((Bool.toNat (true) : Nat) : Int)), (0, (((o + 1) : Nat) : Int))]) rfl rfl rfl ?_
              exact ih _ _ (by exact (anyN_t (by simp [jnQ, h55, h85]; omega)).symm) (by omega) (by omega)
set_option maxRecDepth 100000 in
set_option maxHeartbeats 4000000 in
theorem ev_X7_joinsSet_25_L15 (m : Nat) (hm : m ≤ 12) (G : Nat → Nat) (M : jM) (hG : RowA 25 M m G) (i s : Nat) (hi : i < m) (hs : s < 2 ^ m)  : ∀ (fu : Nat) (k : Nat) (f1 : allN k (fun k => !s.testBit k || anyN 12 (jnQ G i s k)) = true) (f2 : k ≤ 12) (hfu : 12 - k < fu), J none 1 mX7_joinsSet 15 [(35, 0), (0, ((i : Nat) : Int)), (0, ((s : Nat) : Int)), (0, (((G i) : Nat) : Int)), (0, (((popc (G i) : Nat) : Int) - 1)), (0, ((k : Nat) : Int)), (9, 0), (9, 0)] [] M (j_ret mX7_joinsSet (fun z M' => z = ((Bool.toNat (jnS G i s) : Nat) : Int) ∧ M' = M)) := by
  intro fu
  induction fu with
  | zero => intro k f1 f2 hfu; exact absurd hfu (Nat.not_lt_zero _)
  | succ fu ih =>
    intro k f1 f2 hfu
    refine J_iload dX7_joinsSet_15 rfl ?_
    refine J_bipush dX7_joinsSet_17 (by decide) ?_
    refine J_icmp_ge (tgt := 114) dX7_joinsSet_19 rfl (j_R (by omega)) (by decide) (fun h19 => ?_) (fun h19 => ?_)
    ·
      refine J_iconst dX7_joinsSet_114 ?_
      refine J_zreturn dX7_joinsSet_115 rfl (Or.inr rfl) ?_
      have : k = 12 := by omega
      subst this
      exact ⟨bt f1, rfl⟩
    ·
      refine J_iload_n dX7_joinsSet_22 rfl ?_
      refine J_iload dX7_joinsSet_23 rfl ?_
      refine J_callSiQ (cl := mX7_has) [(0, ((s : Nat) : Int)), (0, ((k : Nat) : Int))] [] dX7_joinsSet_25 mlX7_132 csX7_has rfl rfl (by decide) (Nat.le_of_ble_eq_true rfl) rfl (ev_X7_has s k (p12 hm hs) (by omega) M) ?_
      refine J_ifb_eq (tgt := 108) dX7_joinsSet_28 rfl (fun h28 => ?_) (fun h28 => ?_)
      ·
        refine J_iinc (v := (((k + 1) : Nat) : Int)) (L' := [(35, 0), (0, ((i : Nat) : Int)), (0, ((s : Nat) : Int)), (0, (((G i) : Nat) : Int)), (0, (((popc (G i) : Nat) : Int) - 1)), (0, (((k + 1) : Nat) : Int)), (9, 0), (9, 0)]) dX7_joinsSet_108 rfl (by omega) (by decide) rfl rfl ?_
        refine J_goto (tgt := 15) dX7_joinsSet_111 rfl ?_
        exact ih _ (by rw [allN_t (by simp [h28]), f1]) (by omega) (by omega)
      ·
        refine J_iconst dX7_joinsSet_31 ?_
        refine J_istore (L' := [(35, 0), (0, ((i : Nat) : Int)), (0, ((s : Nat) : Int)), (0, (((G i) : Nat) : Int)), (0, (((popc (G i) : Nat) : Int) - 1)), (0, ((k : Nat) : Int)), (0, 0), (9, 0)]) dX7_joinsSet_32 (by decide) rfl rfl ?_
        refine J_iconst dX7_joinsSet_34 ?_
        refine J_istore (L' := [(35, 0), (0, ((i : Nat) : Int)), (0, ((s : Nat) : Int)), (0, (((G i) : Nat) : Int)), (0, (((popc (G i) : Nat) : Int) - 1)), (0, ((k : Nat) : Int)), (0, 0), (0, 0)]) dX7_joinsSet_35 (by decide) rfl rfl ?_
        refine J_eq (L' := [(35, 0), (0, ((i : Nat) : Int)), (0, ((s : Nat) : Int)), (0, (((G i) : Nat) : Int)), (0, (((popc (G i) : Nat) : Int) - 1)), (0, ((k : Nat) : Int)), (0, ((Bool.toNat (false) : Nat) : Int)), (0, ((0 : Nat) : Int))]) rfl rfl rfl ?_
        refine ev_X7_joinsSet_25_L37 m hm G M hG i s hi hs k (by omega) h28 (fun b g => ?_) _ _ _ (by rfl) (by omega) (Nat.lt_succ_self _)
        ·
          refine J_iload dX7_joinsSet_101 rfl ?_
          refine J_ifb_ne (tgt := 108) dX7_joinsSet_103 rfl (fun h103 => ?_) (fun h103 => ?_)
          ·
            refine J_iinc (v := (((k + 1) : Nat) : Int)) (L' := [(35, 0), (0, ((i : Nat) : Int)), (0, ((s : Nat) : Int)), (0, (((G i) : Nat) : Int)), (0, (((popc (G i) : Nat) : Int) - 1)), (0, (((k + 1) : Nat) : Int)), (0, ((Bool.toNat (b) : Nat) : Int)), (9, 0)]) dX7_joinsSet_108 rfl (by omega) (by decide) rfl rfl ?_
            refine J_goto (tgt := 15) dX7_joinsSet_111 rfl ?_
            refine J_unset 6 (L' := [(35, 0), (0, ((i : Nat) : Int)), (0, ((s : Nat) : Int)), (0, (((G i) : Nat) : Int)), (0, (((popc (G i) : Nat) : Int) - 1)), (0, (((k + 1) : Nat) : Int)), (9, 0), (9, 0)]) rfl ?_
            exact ih _ (by rw [allN_t (by simp [h28, ← g, h103]), f1]) (by omega) (by omega)
          ·
            refine J_iconst dX7_joinsSet_106 ?_
            refine J_zreturn dX7_joinsSet_107 rfl (Or.inl rfl) ?_
            exact ⟨bf (by unfold jnS; exact allN_no (k := k) (by simp [h28, ← g, h103]) (by omega)), rfl⟩
set_option maxRecDepth 100000 in
set_option maxHeartbeats 4000000 in
theorem ev_X7_joinsSet_25 (m : Nat) (hm : m ≤ 12) (G : Nat → Nat) (M : jM) (hG : RowA 25 M m G) (i s : Nat) (hi : i < m) (hs : s < 2 ^ m) : Ev 1 mX7_joinsSet [(35, 0), (0, ((i : Nat) : Int)), (0, ((s : Nat) : Int))] M (fun z M' => z = ((Bool.toNat (jnS G i s) : Nat) : Int) ∧ M' = M) := by
  refine Ev_of (by decide +kernel) (Nat.le_of_ble_eq_true rfl) (L := [(35, 0), (0, ((i : Nat) : Int)), (0, ((s : Nat) : Int)), (9, 0), (9, 0), (9, 0), (9, 0), (9, 0)]) rfl ?_
  refine J_aload_n dX7_joinsSet_0 rfl ?_
  refine J_iload_n dX7_joinsSet_1 rfl ?_
  refine J_iald dX7_joinsSet_2 rfl (by decide) (by have := hi; omega) (J_top (v := (((G i) : Nat) : Int)) (hG i hi).1 ?_)
  refine J_istore_n (L' := [(35, 0), (0, ((i : Nat) : Int)), (0, ((s : Nat) : Int)), (0, (((G i) : Nat) : Int)), (9, 0), (9, 0), (9, 0), (9, 0)]) dX7_joinsSet_3 (by decide) rfl rfl ?_
  refine J_iload_n dX7_joinsSet_4 rfl ?_
  refine J_callSiQ (cl := mX7_many) [(0, (((G i) : Nat) : Int))] [] dX7_joinsSet_5 mlX7_136 csX7_many rfl rfl (by decide) (Nat.le_of_ble_eq_true rfl) rfl (ev_X7_many (G i) (by have := (hG i hi).2; omega) M) ?_
  refine J_iconst dX7_joinsSet_8 ?_
  refine J_isub dX7_joinsSet_9 (J_top (v := (((popc (G i) : Nat) : Int) - 1)) rfl ?_)
  refine J_istore (L' := [(35, 0), (0, ((i : Nat) : Int)), (0, ((s : Nat) : Int)), (0, (((G i) : Nat) : Int)), (0, (((popc (G i) : Nat) : Int) - 1)), (9, 0), (9, 0), (9, 0)]) dX7_joinsSet_10 (by decide) rfl rfl ?_
  refine J_iconst dX7_joinsSet_12 ?_
  refine J_istore (L' := [(35, 0), (0, ((i : Nat) : Int)), (0, ((s : Nat) : Int)), (0, (((G i) : Nat) : Int)), (0, (((popc (G i) : Nat) : Int) - 1)), (0, 0), (9, 0), (9, 0)]) dX7_joinsSet_13 (by decide) rfl rfl ?_
  refine J_eq (L' := [(35, 0), (0, ((i : Nat) : Int)), (0, ((s : Nat) : Int)), (0, (((G i) : Nat) : Int)), (0, (((popc (G i) : Nat) : Int) - 1)), (0, ((0 : Nat) : Int)), (9, 0), (9, 0)]) rfl rfl rfl ?_
  exact ev_X7_joinsSet_25_L15 m hm G M hG i s hi hs  _ _ (by rfl) (by omega) (Nat.lt_succ_self _)
set_option maxRecDepth 100000 in
set_option maxHeartbeats 4000000 in
theorem ev_X7_joinsSet_36_L37 (m : Nat) (hm : m ≤ 12) (G : Nat → Nat) (M : jM) (hG : RowA 36 M m G) (i s : Nat) (hi : i < m) (hs : s < 2 ^ m) (k : Nat) (hk : k < 12) (h28 : Nat.testBit s k = true) (K0 : ∀ (b : Bool) (g : b = anyN 12 (jnQ G i s k)), J none 1 mX7_joinsSet 101 [(46, 0), (0, ((i : Nat) : Int)), (0, ((s : Nat) : Int)), (0, (((G i) : Nat) : Int)), (0, (((popc (G i) : Nat) : Int) - 1)), (0, ((k : Nat) : Int)), (0, ((Bool.toNat (b) : Nat) : Int)), (9, 0)] [] M (j_ret mX7_joinsSet (fun z M' => z = ((Bool.toNat (jnS G i s) : Nat) : Int) ∧ M' = M))) : ∀ (fu : Nat) (b : Bool) (o : Nat) (g1 : b = anyN o (jnQ G i s k)) (g2 : o ≤ 12) (hfu : 12 - o < fu), J none 1 mX7_joinsSet 37 [(46, 0), (0, ((i : Nat) : Int)), (0, ((s : Nat) : Int)), (0, (((G i) : Nat) : Int)), (0, (((popc (G i) : Nat) : Int) - 1)), (0, ((k : Nat) : Int)), (0, ((Bool.toNat (b) : Nat) : Int)), (0, ((o : Nat) : Int))] [] M (j_ret mX7_joinsSet (fun z M' => z = ((Bool.toNat (jnS G i s) : Nat) : Int) ∧ M' = M)) := by
  intro fu
  induction fu with
  | zero => intro b o g1 g2 hfu; exact absurd hfu (Nat.not_lt_zero _)
  | succ fu ih =>
    intro b o g1 g2 hfu
    refine J_iload dX7_joinsSet_37 rfl ?_
    refine J_bipush dX7_joinsSet_39 (by decide) ?_
    refine J_icmp_ge (tgt := 101) dX7_joinsSet_41 rfl (j_R (by omega)) (by decide) (fun h41 => ?_) (fun h41 => ?_)
    ·
      refine J_unset 7 (L' := [(46, 0), (0, ((i : Nat) : Int)), (0, ((s : Nat) : Int)), (0, (((G i) : Nat) : Int)), (0, (((popc (G i) : Nat) : Int) - 1)), (0, ((k : Nat) : Int)), (0, ((Bool.toNat (b) : Nat) : Int)), (9, 0)]) rfl ?_
      exact K0 _ (by rw [show o = 12 by omega] at g1; exact g1)
    ·
      refine J_iload dX7_joinsSet_44 rfl ?_
      refine J_ifb_ne (tgt := 101) dX7_joinsSet_46 rfl (fun h46 => ?_) (fun h46 => ?_)
      ·
        refine J_unset 7 (L' := [(46, 0), (0, ((i : Nat) : Int)), (0, ((s : Nat) : Int)), (0, (((G i) : Nat) : Int)), (0, (((popc (G i) : Nat) : Int) - 1)), (0, ((k : Nat) : Int)), (0, ((Bool.toNat (b) : Nat) : Int)), (9, 0)]) rfl ?_
        exact K0 _ (by rw [h46] at g1 ⊢; rw [anyN_up g1.symm g2])
      ·
        refine J_iload_n dX7_joinsSet_49 rfl ?_
        refine J_iload dX7_joinsSet_50 rfl ?_
        refine J_callSiQ (cl := mX7_has) [(0, ((s : Nat) : Int)), (0, ((o : Nat) : Int))] [] dX7_joinsSet_52 mlX7_132 csX7_has rfl rfl (by decide) (Nat.le_of_ble_eq_true rfl) rfl (ev_X7_has s o (p12 hm hs) (by omega) M) ?_
        refine J_ifb_eq (tgt := 92) dX7_joinsSet_55 rfl (fun h55 => ?_) (fun h55 => ?_)
        ·
          refine J_iconst dX7_joinsSet_92 ?_
          refine J_istore (L' := [(46, 0), (0, ((i : Nat) : Int)), (0, ((s : Nat) : Int)), (0, (((G i) : Nat) : Int)), (0, (((popc (G i) : Nat) : Int) - 1)), (0, ((k : Nat) : Int)), (0, 0), (0, ((o : Nat) : Int))]) dX7_joinsSet_93 (by decide) rfl rfl ?_
          refine J_iinc (v := (((o + 1) : Nat) : Int)) (L' := [(46, 0), (0, ((i : Nat) : Int)), (0, ((s : Nat) : Int)), (0, (((G i) : Nat) : Int)), (0, (((popc (G i) : Nat) : Int) - 1)), (0, ((k : Nat) : Int)), (0, 0), (0, (((o + 1) : Nat) : Int))]) dX7_joinsSet_95 rfl (by omega) (by decide) rfl rfl ?_
          refine J_goto (tgt := 37) dX7_joinsSet_98 rfl ?_
          refine J_eq (L' := [(46, 0), (0, ((i : Nat) : Int)), (0, ((s : Nat) : Int)), (0, (((G i) : Nat) : Int)), (0, (((popc (G i) : Nat) : Int) - 1)), (0, ((k : Nat) : Int)), (0, ((Bool.toNat (false) : Nat) : Int)), (0, (((o + 1) : Nat) : Int))]) rfl rfl rfl ?_
          exact ih _ _ (by rw [anyN_f (by simp [jnQ, h55]), ← g1, h46]) (by omega) (by omega)
        ·
          refine J_iload_n dX7_joinsSet_58 rfl ?_
          refine J_aload_n dX7_joinsSet_59 rfl ?_
          refine J_iload dX7_joinsSet_60 rfl ?_
          refine J_iald dX7_joinsSet_62 rfl (by decide) (by have := (bit_lt hs h55); omega) (J_top (v := (((G o) : Nat) : Int)) (hG o (bit_lt hs h55)).1 ?_)
          refine J_iand dX7_joinsSet_63 (J_top (v := ((((G i) &&& (G o)) : Nat) : Int)) (j_andN rfl rfl (by have := (hG i hi).2; omega) (by have := (hG o (bit_lt hs h55)).2; omega)) ?_)
          refine J_callSiQ (cl := mX7_many) [(0, ((((G i) &&& (G o)) : Nat) : Int))] [] dX7_joinsSet_64 mlX7_136 csX7_many rfl rfl (by decide) (Nat.le_of_ble_eq_true rfl) rfl (ev_X7_many ((G i) &&& (G o)) (nb_and (by have := (hG i hi).2; omega)) M) ?_
          refine J_iload dX7_joinsSet_67 rfl ?_
          refine J_icmp_ne (tgt := 92) dX7_joinsSet_69 rfl (by have := popc_le (G i &&& G o); have := (hG i hi).2; have := nb_and (b := G o) (hG i hi).2; omega) (by have := popc_le (G i); have := (hG i hi).2; omega) (fun h69 => ?_) (fun h69 => ?_)
          ·
            refine J_iconst dX7_joinsSet_92 ?_
            refine J_istore (L' := [(46, 0), (0, ((i : Nat) : Int)), (0, ((s : Nat) : Int)), (0, (((G i) : Nat) : Int)), (0, (((popc (G i) : Nat) : Int) - 1)), (0, ((k : Nat) : Int)), (0, 0), (0, ((o : Nat) : Int))]) dX7_joinsSet_93 (by decide) rfl rfl ?_
            refine J_iinc (v := (((o + 1) : Nat) : Int)) (L' := [(46, 0), (0, ((i : Nat) : Int)), (0, ((s : Nat) : Int)), (0, (((G i) : Nat) : Int)), (0, (((popc (G i) : Nat) : Int) - 1)), (0, ((k : Nat) : Int)), (0, 0), (0, (((o + 1) : Nat) : Int))]) dX7_joinsSet_95 rfl (by omega) (by decide) rfl rfl ?_
            refine J_goto (tgt := 37) dX7_joinsSet_98 rfl ?_
            refine J_eq (L' := [(46, 0), (0, ((i : Nat) : Int)), (0, ((s : Nat) : Int)), (0, (((G i) : Nat) : Int)), (0, (((popc (G i) : Nat) : Int) - 1)), (0, ((k : Nat) : Int)), (0, ((Bool.toNat (false) : Nat) : Int)), (0, (((o + 1) : Nat) : Int))]) rfl rfl rfl ?_
            exact ih _ _ (by rw [anyN_f (by have hne : (popc (G i &&& G o) + 1 == popc (G i)) = false := beq_eq_false_iff_ne.mpr (by omega); simp [jnQ, hne]), ← g1, h46]) (by omega) (by omega)
          ·
            refine J_iload_n dX7_joinsSet_72 rfl ?_
            refine J_aload_n dX7_joinsSet_73 rfl ?_
            refine J_iload dX7_joinsSet_74 rfl ?_
            refine J_iald dX7_joinsSet_76 rfl (by decide) (by have := (bit_lt hs h28); omega) (J_top (v := (((G k) : Nat) : Int)) (hG k (bit_lt hs h28)).1 ?_)
            refine J_iand dX7_joinsSet_77 (J_top (v := ((((G i) &&& (G k)) : Nat) : Int)) (j_andN rfl rfl (by have := (hG i hi).2; omega) (by have := (hG k (bit_lt hs h28)).2; omega)) ?_)
            refine J_aload_n dX7_joinsSet_78 rfl ?_
            refine J_iload dX7_joinsSet_79 rfl ?_
            refine J_iald dX7_joinsSet_81 rfl (by decide) (by have := (bit_lt hs h55); omega) (J_top (v := (((G o) : Nat) : Int)) (hG o (bit_lt hs h55)).1 ?_)
            refine J_callSiQ (cl := mX7_lies) [(0, ((((G i) &&& (G k)) : Nat) : Int)), (0, (((G o) : Nat) : Int))] [] dX7_joinsSet_82 mlX7_183 csX7_lies rfl rfl (by decide) (Nat.le_of_ble_eq_true rfl) rfl (ev_X7_lies ((G i) &&& (G k)) (G o) (nb_and (by have := (hG i hi).2; omega)) (by have := (hG o (bit_lt hs h55)).2; omega) M) ?_
            refine J_ifb_eq (tgt := 92) dX7_joinsSet_85 rfl (fun h85 => ?_) (fun h85 => ?_)
            ·
              refine J_iconst dX7_joinsSet_92 ?_
              refine J_istore (L' := [(46, 0), (0, ((i : Nat) : Int)), (0, ((s : Nat) : Int)), (0, (((G i) : Nat) : Int)), (0, (((popc (G i) : Nat) : Int) - 1)), (0, ((k : Nat) : Int)), (0, 0), (0, ((o : Nat) : Int))]) dX7_joinsSet_93 (by decide) rfl rfl ?_
              refine J_iinc (v := (((o + 1) : Nat) : Int)) (L' := [(46, 0), (0, ((i : Nat) : Int)), (0, ((s : Nat) : Int)), (0, (((G i) : Nat) : Int)), (0, (((popc (G i) : Nat) : Int) - 1)), (0, ((k : Nat) : Int)), (0, 0), (0, (((o + 1) : Nat) : Int))]) dX7_joinsSet_95 rfl (by omega) (by decide) rfl rfl ?_
              refine J_goto (tgt := 37) dX7_joinsSet_98 rfl ?_
              refine J_eq (L' := [(46, 0), (0, ((i : Nat) : Int)), (0, ((s : Nat) : Int)), (0, (((G i) : Nat) : Int)), (0, (((popc (G i) : Nat) : Int) - 1)), (0, ((k : Nat) : Int)), (0, ((Bool.toNat (false) : Nat) : Int)), (0, (((o + 1) : Nat) : Int))]) rfl rfl rfl ?_
              exact ih _ _ (by rw [anyN_f (by simp [jnQ, h85]), ← g1, h46]) (by omega) (by omega)
            ·
              refine J_iconst dX7_joinsSet_88 ?_
              refine J_goto (tgt := 93) dX7_joinsSet_89 rfl ?_
              refine J_istore (L' := [(46, 0), (0, ((i : Nat) : Int)), (0, ((s : Nat) : Int)), (0, (((G i) : Nat) : Int)), (0, (((popc (G i) : Nat) : Int) - 1)), (0, ((k : Nat) : Int)), (0, 1), (0, ((o : Nat) : Int))]) dX7_joinsSet_93 (by decide) rfl rfl ?_
              refine J_iinc (v := (((o + 1) : Nat) : Int)) (L' := [(46, 0), (0, ((i : Nat) : Int)), (0, ((s : Nat) : Int)), (0, (((G i) : Nat) : Int)), (0, (((popc (G i) : Nat) : Int) - 1)), (0, ((k : Nat) : Int)), (0, 1), (0, (((o + 1) : Nat) : Int))]) dX7_joinsSet_95 rfl (by omega) (by decide) rfl rfl ?_
              refine J_goto (tgt := 37) dX7_joinsSet_98 rfl ?_
              refine J_eq (L' := [(46, 0), (0, ((i : Nat) : Int)), (0, ((s : Nat) : Int)), (0, (((G i) : Nat) : Int)), (0, (((popc (G i) : Nat) : Int) - 1)), (0, ((k : Nat) : Int)), (0, ((Bool.toNat (true) : Nat) : Int)), (0, (((o + 1) : Nat) : Int))]) rfl rfl rfl ?_
              exact ih _ _ (by exact (anyN_t (by simp [jnQ, h55, h85]; omega)).symm) (by omega) (by omega)
set_option maxRecDepth 100000 in
set_option maxHeartbeats 4000000 in
theorem ev_X7_joinsSet_36_L15 (m : Nat) (hm : m ≤ 12) (G : Nat → Nat) (M : jM) (hG : RowA 36 M m G) (i s : Nat) (hi : i < m) (hs : s < 2 ^ m)  : ∀ (fu : Nat) (k : Nat) (f1 : allN k (fun k => !s.testBit k || anyN 12 (jnQ G i s k)) = true) (f2 : k ≤ 12) (hfu : 12 - k < fu), J none 1 mX7_joinsSet 15 [(46, 0), (0, ((i : Nat) : Int)), (0, ((s : Nat) : Int)), (0, (((G i) : Nat) : Int)), (0, (((popc (G i) : Nat) : Int) - 1)), (0, ((k : Nat) : Int)), (9, 0), (9, 0)] [] M (j_ret mX7_joinsSet (fun z M' => z = ((Bool.toNat (jnS G i s) : Nat) : Int) ∧ M' = M)) := by
  intro fu
  induction fu with
  | zero => intro k f1 f2 hfu; exact absurd hfu (Nat.not_lt_zero _)
  | succ fu ih =>
    intro k f1 f2 hfu
    refine J_iload dX7_joinsSet_15 rfl ?_
    refine J_bipush dX7_joinsSet_17 (by decide) ?_
    refine J_icmp_ge (tgt := 114) dX7_joinsSet_19 rfl (j_R (by omega)) (by decide) (fun h19 => ?_) (fun h19 => ?_)
    ·
      refine J_iconst dX7_joinsSet_114 ?_
      refine J_zreturn dX7_joinsSet_115 rfl (Or.inr rfl) ?_
      have : k = 12 := by omega
      subst this
      exact ⟨bt f1, rfl⟩
    ·
      refine J_iload_n dX7_joinsSet_22 rfl ?_
      refine J_iload dX7_joinsSet_23 rfl ?_
      refine J_callSiQ (cl := mX7_has) [(0, ((s : Nat) : Int)), (0, ((k : Nat) : Int))] [] dX7_joinsSet_25 mlX7_132 csX7_has rfl rfl (by decide) (Nat.le_of_ble_eq_true rfl) rfl (ev_X7_has s k (p12 hm hs) (by omega) M) ?_
      refine J_ifb_eq (tgt := 108) dX7_joinsSet_28 rfl (fun h28 => ?_) (fun h28 => ?_)
      ·
        refine J_iinc (v := (((k + 1) : Nat) : Int)) (L' := [(46, 0), (0, ((i : Nat) : Int)), (0, ((s : Nat) : Int)), (0, (((G i) : Nat) : Int)), (0, (((popc (G i) : Nat) : Int) - 1)), (0, (((k + 1) : Nat) : Int)), (9, 0), (9, 0)]) dX7_joinsSet_108 rfl (by omega) (by decide) rfl rfl ?_
        refine J_goto (tgt := 15) dX7_joinsSet_111 rfl ?_
        exact ih _ (by rw [allN_t (by simp [h28]), f1]) (by omega) (by omega)
      ·
        refine J_iconst dX7_joinsSet_31 ?_
        refine J_istore (L' := [(46, 0), (0, ((i : Nat) : Int)), (0, ((s : Nat) : Int)), (0, (((G i) : Nat) : Int)), (0, (((popc (G i) : Nat) : Int) - 1)), (0, ((k : Nat) : Int)), (0, 0), (9, 0)]) dX7_joinsSet_32 (by decide) rfl rfl ?_
        refine J_iconst dX7_joinsSet_34 ?_
        refine J_istore (L' := [(46, 0), (0, ((i : Nat) : Int)), (0, ((s : Nat) : Int)), (0, (((G i) : Nat) : Int)), (0, (((popc (G i) : Nat) : Int) - 1)), (0, ((k : Nat) : Int)), (0, 0), (0, 0)]) dX7_joinsSet_35 (by decide) rfl rfl ?_
        refine J_eq (L' := [(46, 0), (0, ((i : Nat) : Int)), (0, ((s : Nat) : Int)), (0, (((G i) : Nat) : Int)), (0, (((popc (G i) : Nat) : Int) - 1)), (0, ((k : Nat) : Int)), (0, ((Bool.toNat (false) : Nat) : Int)), (0, ((0 : Nat) : Int))]) rfl rfl rfl ?_
        refine ev_X7_joinsSet_36_L37 m hm G M hG i s hi hs k (by omega) h28 (fun b g => ?_) _ _ _ (by rfl) (by omega) (Nat.lt_succ_self _)
        ·
          refine J_iload dX7_joinsSet_101 rfl ?_
          refine J_ifb_ne (tgt := 108) dX7_joinsSet_103 rfl (fun h103 => ?_) (fun h103 => ?_)
          ·
            refine J_iinc (v := (((k + 1) : Nat) : Int)) (L' := [(46, 0), (0, ((i : Nat) : Int)), (0, ((s : Nat) : Int)), (0, (((G i) : Nat) : Int)), (0, (((popc (G i) : Nat) : Int) - 1)), (0, (((k + 1) : Nat) : Int)), (0, ((Bool.toNat (b) : Nat) : Int)), (9, 0)]) dX7_joinsSet_108 rfl (by omega) (by decide) rfl rfl ?_
            refine J_goto (tgt := 15) dX7_joinsSet_111 rfl ?_
            refine J_unset 6 (L' := [(46, 0), (0, ((i : Nat) : Int)), (0, ((s : Nat) : Int)), (0, (((G i) : Nat) : Int)), (0, (((popc (G i) : Nat) : Int) - 1)), (0, (((k + 1) : Nat) : Int)), (9, 0), (9, 0)]) rfl ?_
            exact ih _ (by rw [allN_t (by simp [h28, ← g, h103]), f1]) (by omega) (by omega)
          ·
            refine J_iconst dX7_joinsSet_106 ?_
            refine J_zreturn dX7_joinsSet_107 rfl (Or.inl rfl) ?_
            exact ⟨bf (by unfold jnS; exact allN_no (k := k) (by simp [h28, ← g, h103]) (by omega)), rfl⟩
set_option maxRecDepth 100000 in
set_option maxHeartbeats 4000000 in
theorem ev_X7_joinsSet_36 (m : Nat) (hm : m ≤ 12) (G : Nat → Nat) (M : jM) (hG : RowA 36 M m G) (i s : Nat) (hi : i < m) (hs : s < 2 ^ m) : Ev 1 mX7_joinsSet [(46, 0), (0, ((i : Nat) : Int)), (0, ((s : Nat) : Int))] M (fun z M' => z = ((Bool.toNat (jnS G i s) : Nat) : Int) ∧ M' = M) := by
  refine Ev_of (by decide +kernel) (Nat.le_of_ble_eq_true rfl) (L := [(46, 0), (0, ((i : Nat) : Int)), (0, ((s : Nat) : Int)), (9, 0), (9, 0), (9, 0), (9, 0), (9, 0)]) rfl ?_
  refine J_aload_n dX7_joinsSet_0 rfl ?_
  refine J_iload_n dX7_joinsSet_1 rfl ?_
  refine J_iald dX7_joinsSet_2 rfl (by decide) (by have := hi; omega) (J_top (v := (((G i) : Nat) : Int)) (hG i hi).1 ?_)
  refine J_istore_n (L' := [(46, 0), (0, ((i : Nat) : Int)), (0, ((s : Nat) : Int)), (0, (((G i) : Nat) : Int)), (9, 0), (9, 0), (9, 0), (9, 0)]) dX7_joinsSet_3 (by decide) rfl rfl ?_
  refine J_iload_n dX7_joinsSet_4 rfl ?_
  refine J_callSiQ (cl := mX7_many) [(0, (((G i) : Nat) : Int))] [] dX7_joinsSet_5 mlX7_136 csX7_many rfl rfl (by decide) (Nat.le_of_ble_eq_true rfl) rfl (ev_X7_many (G i) (by have := (hG i hi).2; omega) M) ?_
  refine J_iconst dX7_joinsSet_8 ?_
  refine J_isub dX7_joinsSet_9 (J_top (v := (((popc (G i) : Nat) : Int) - 1)) rfl ?_)
  refine J_istore (L' := [(46, 0), (0, ((i : Nat) : Int)), (0, ((s : Nat) : Int)), (0, (((G i) : Nat) : Int)), (0, (((popc (G i) : Nat) : Int) - 1)), (9, 0), (9, 0), (9, 0)]) dX7_joinsSet_10 (by decide) rfl rfl ?_
  refine J_iconst dX7_joinsSet_12 ?_
  refine J_istore (L' := [(46, 0), (0, ((i : Nat) : Int)), (0, ((s : Nat) : Int)), (0, (((G i) : Nat) : Int)), (0, (((popc (G i) : Nat) : Int) - 1)), (0, 0), (9, 0), (9, 0)]) dX7_joinsSet_13 (by decide) rfl rfl ?_
  refine J_eq (L' := [(46, 0), (0, ((i : Nat) : Int)), (0, ((s : Nat) : Int)), (0, (((G i) : Nat) : Int)), (0, (((popc (G i) : Nat) : Int) - 1)), (0, ((0 : Nat) : Int)), (9, 0), (9, 0)]) rfl rfl rfl ?_
  exact ev_X7_joinsSet_36_L15 m hm G M hG i s hi hs  _ _ (by rfl) (by omega) (Nat.lt_succ_self _)
set_option maxRecDepth 100000 in
set_option maxHeartbeats 4000000 in
theorem ev_X7_ahead_L4 (P D n : Nat) (F O : Nat → Nat) (M : jM) (hR : MR P D n F O M) (pl : Nat) (hpl : pl ≤ n)  : ∀ (fu : Nat) (x k : Nat) (h1 : x = ahd O k) (h2 : k ≤ pl) (hfu : pl - k < fu), J none 0 mX7_ahead 4 [(33, 0), (0, ((pl : Nat) : Int)), (0, ((x : Nat) : Int)), (0, ((k : Nat) : Int))] [] M (j_ret mX7_ahead (fun z M' => z = ((ahd O pl : Nat) : Int) ∧ M' = M)) := by
  intro fu
  induction fu with
  | zero => intro x k h1 h2 hfu; exact absurd hfu (Nat.not_lt_zero _)
  | succ fu ih =>
    intro x k h1 h2 hfu
    have hn12 := MR.hn hR
    have hP7 := MR.hP hR
    have hD5 := MR.hD hR
    refine J_iload_n dX7_ahead_4 rfl ?_
    refine J_iload_n dX7_ahead_5 rfl ?_
    refine J_icmp_ge (tgt := 26) dX7_ahead_6 rfl (j_R (by omega)) (j_R (by omega)) (fun h6 => ?_) (fun h6 => ?_)
    ·
      refine J_iload_n dX7_ahead_26 rfl ?_
      refine J_ireturn dX7_ahead_27 rfl ?_
      have : k = pl := by omega
      subst this
      exact ⟨by rw [h1], rfl⟩
    ·
      refine J_iload_n dX7_ahead_9 rfl ?_
      refine J_iconst dX7_ahead_10 ?_
      refine J_aload_n dX7_ahead_11 rfl ?_
      refine J_getR dX7_ahead_12 flX7_20 rfl rfl ?_
      refine J_iload_n dX7_ahead_15 rfl ?_
      refine J_iald dX7_ahead_16 rfl (by decide) (MR.ix hR (by omega)) (J_top (v := (((O k) : Nat) : Int)) (MR.gO hR (by omega)) ?_)
      refine J_ishl dX7_ahead_17 (J_top (v := (((2 ^ (O k)) : Nat) : Int)) (j_shl1 rfl rfl (by have := MR.ob hR (i := k) (by omega); omega)) ?_)
      refine J_ior dX7_ahead_18 (J_top (v := (((x ||| (2 ^ (O k))) : Nat) : Int)) (j_orN rfl rfl (by rw [h1]; exact MR.ah31 hR (by omega)) (nb_p2 (by have := MR.ob hR (i := k) (by omega); omega))) ?_)
      refine J_istore_n (L' := [(33, 0), (0, ((pl : Nat) : Int)), (0, (((x ||| (2 ^ (O k))) : Nat) : Int)), (0, ((k : Nat) : Int))]) dX7_ahead_19 (by decide) rfl rfl ?_
      refine J_iinc (v := (((k + 1) : Nat) : Int)) (L' := [(33, 0), (0, ((pl : Nat) : Int)), (0, (((x ||| (2 ^ (O k))) : Nat) : Int)), (0, (((k + 1) : Nat) : Int))]) dX7_ahead_20 rfl (by omega) (by decide) rfl rfl ?_
      refine J_goto (tgt := 4) dX7_ahead_23 rfl ?_
      exact ih _ _ (by rw [h1]; rfl) (by omega) (by omega)
set_option maxRecDepth 100000 in
set_option maxHeartbeats 4000000 in
theorem ev_X7_ahead (P D n : Nat) (F O : Nat → Nat) (M : jM) (hR : MR P D n F O M) (pl : Nat) (hpl : pl ≤ n) : Ev 0 mX7_ahead [(33, 0), (0, ((pl : Nat) : Int))] M (fun z M' => z = ((ahd O pl : Nat) : Int) ∧ M' = M) := by
  refine Ev_of (by decide +kernel) (Nat.le_of_ble_eq_true rfl) (L := [(33, 0), (0, ((pl : Nat) : Int)), (9, 0), (9, 0)]) rfl ?_
  have hn12 := MR.hn hR
  have hP7 := MR.hP hR
  have hD5 := MR.hD hR
  refine J_iconst dX7_ahead_0 ?_
  refine J_istore_n (L' := [(33, 0), (0, ((pl : Nat) : Int)), (0, 0), (9, 0)]) dX7_ahead_1 (by decide) rfl rfl ?_
  refine J_iconst dX7_ahead_2 ?_
  refine J_istore_n (L' := [(33, 0), (0, ((pl : Nat) : Int)), (0, 0), (0, 0)]) dX7_ahead_3 (by decide) rfl rfl ?_
  refine J_eq (L' := [(33, 0), (0, ((pl : Nat) : Int)), (0, ((0 : Nat) : Int)), (0, ((0 : Nat) : Int))]) rfl rfl rfl ?_
  exact ev_X7_ahead_L4 P D n F O M hR pl hpl  _ _ _ (by rfl) (by omega) (Nat.lt_succ_self _)
set_option maxRecDepth 100000 in
set_option maxHeartbeats 4000000 in
theorem ev_X7_joinsAt (P D n : Nat) (F O : Nat → Nat) (M : jM) (hR : MR P D n F O M) (pl : Nat) (hpl : pl < n) : Ev 2 mX7_joinsAt [(33, 0), (0, ((pl : Nat) : Int))] M (fun z M' => z = ((Bool.toNat (jnA F O pl) : Nat) : Int) ∧ M' = M) := by
  refine Ev_of (by decide +kernel) (Nat.le_of_ble_eq_true rfl) (L := [(33, 0), (0, ((pl : Nat) : Int))]) rfl ?_
  have hn12 := MR.hn hR
  have hP7 := MR.hP hR
  have hD5 := MR.hD hR
  refine J_aload_n dX7_joinsAt_0 rfl ?_
  refine J_getR dX7_joinsAt_1 flX7_17 rfl rfl ?_
  refine J_aload_n dX7_joinsAt_4 rfl ?_
  refine J_getR dX7_joinsAt_5 flX7_20 rfl rfl ?_
  refine J_iload_n dX7_joinsAt_8 rfl ?_
  refine J_iald dX7_joinsAt_9 rfl (by decide) (MR.ix hR (by omega)) (J_top (v := (((O pl) : Nat) : Int)) (MR.gO hR (by omega)) ?_)
  refine J_aload_n dX7_joinsAt_10 rfl ?_
  refine J_iload_n dX7_joinsAt_11 rfl ?_
  refine J_callViQ (cl := mX7_ahead) [(0, ((pl : Nat) : Int))] [(0, (((O pl) : Nat) : Int)), (35, 0)] dX7_joinsAt_12 mlX7_259 cvX7_ahead rfl rfl rfl rfl rfl (by decide) (Nat.le_of_ble_eq_true rfl) rfl (ev_X7_ahead P D n F O M hR pl (by omega)) ?_
  refine J_callSiQ (cl := mX7_joinsSet) [(35, 0), (0, (((O pl) : Nat) : Int)), (0, (((ahd O pl) : Nat) : Int))] [] dX7_joinsAt_15 mlX7_262 csX7_joinsSet rfl rfl (by decide) (Nat.le_of_ble_eq_true rfl) rfl (ev_X7_joinsSet_25 n (by omega) F M (MR.row hR) (O pl) (ahd O pl) (MR.ob hR hpl) (MR.ah hR (by omega))) ?_
  refine J_zreturn dX7_joinsAt_18 rfl (b01 _) ?_
  exact ⟨rfl, rfl⟩
set_option maxRecDepth 100000 in
set_option maxHeartbeats 4000000 in
theorem ev_X7_restrictionAt_L37 (P D n : Nat) (F O : Nat → Nat) (M : jM) (hR : MR P D n F O M) (pl : Nat) (hpl : pl < n) (x p : Nat) (hx : x < 2147483648) (hp : p < 7) (K0 : ∀ (y : Nat) (g1 : y = x ||| (if ((F (O pl)).testBit p && anyN pl (rsQ F O pl p)) = true then 2 ^ p else 0)), J none 1 mX7_restrictionAt 89 [(33, 0), (0, ((pl : Nat) : Int)), (0, (((F (O pl)) : Nat) : Int)), (0, ((y : Nat) : Int)), (0, ((p : Nat) : Int)), (9, 0), (9, 0)] [] M (j_ret mX7_restrictionAt (fun z M' => z = ((rst F O pl : Nat) : Int) ∧ M' = M))) : ∀ (fu : Nat) (y k : Nat) (g1 : y = x ||| (if anyN k (rsQ F O pl p) = true then 2 ^ p else 0)) (g2 : k ≤ pl) (g3 : k = 0 ∨ (F (O pl)).testBit p = true) (hfu : pl - k < fu), J none 1 mX7_restrictionAt 37 [(33, 0), (0, ((pl : Nat) : Int)), (0, (((F (O pl)) : Nat) : Int)), (0, ((y : Nat) : Int)), (0, ((p : Nat) : Int)), (0, (((ndf (F (O pl)) (2 ^ p)) : Nat) : Int)), (0, ((k : Nat) : Int))] [] M (j_ret mX7_restrictionAt (fun z M' => z = ((rst F O pl : Nat) : Int) ∧ M' = M)) := by
  intro fu
  induction fu with
  | zero => intro y k g1 g2 g3 hfu; exact absurd hfu (Nat.not_lt_zero _)
  | succ fu ih =>
    intro y k g1 g2 g3 hfu
    have hn12 := MR.hn hR
    have hP7 := MR.hP hR
    have hD5 := MR.hD hR
    refine J_iload dX7_restrictionAt_37 rfl ?_
    refine J_iload_n dX7_restrictionAt_39 rfl ?_
    refine J_icmp_ge (tgt := 89) dX7_restrictionAt_40 rfl (j_R (by omega)) (j_R (by omega)) (fun h40 => ?_) (fun h40 => ?_)
    ·
      refine J_unset 5 (L' := [(33, 0), (0, ((pl : Nat) : Int)), (0, (((F (O pl)) : Nat) : Int)), (0, ((y : Nat) : Int)), (0, ((p : Nat) : Int)), (9, 0), (0, ((k : Nat) : Int))]) rfl ?_
      refine J_unset 6 (L' := [(33, 0), (0, ((pl : Nat) : Int)), (0, (((F (O pl)) : Nat) : Int)), (0, ((y : Nat) : Int)), (0, ((p : Nat) : Int)), (9, 0), (9, 0)]) rfl ?_
      exact K0 _ (by have hk : k = pl := (by omega); rcases g3 with g | g; rw [g1, ← hk, g]; simp [anyN]; rw [g1, hk, g]; simp)
    ·
      refine J_iload_n dX7_restrictionAt_43 rfl ?_
      refine J_iload dX7_restrictionAt_44 rfl ?_
      refine J_callSiQ (cl := mX7_has) [(0, (((F (O pl)) : Nat) : Int)), (0, ((p : Nat) : Int))] [] dX7_restrictionAt_46 mlX7_132 csX7_has rfl rfl (by decide) (Nat.le_of_ble_eq_true rfl) rfl (ev_X7_has (F (O pl)) p (MR.f31 hR (MR.ob hR hpl)) (by omega) M) ?_
      refine J_ifb_eq (tgt := 89) dX7_restrictionAt_49 rfl (fun h49 => ?_) (fun h49 => ?_)
      ·
        refine J_unset 5 (L' := [(33, 0), (0, ((pl : Nat) : Int)), (0, (((F (O pl)) : Nat) : Int)), (0, ((y : Nat) : Int)), (0, ((p : Nat) : Int)), (9, 0), (0, ((k : Nat) : Int))]) rfl ?_
        refine J_unset 6 (L' := [(33, 0), (0, ((pl : Nat) : Int)), (0, (((F (O pl)) : Nat) : Int)), (0, ((y : Nat) : Int)), (0, ((p : Nat) : Int)), (9, 0), (9, 0)]) rfl ?_
        exact K0 _ (by rcases g3 with g | g; rw [g1, g, h49]; simp [anyN]; rw [h49] at g; exact absurd g (by decide))
      ·
        refine J_iload_n dX7_restrictionAt_52 rfl ?_
        refine J_iload dX7_restrictionAt_53 rfl ?_
        refine J_aload_n dX7_restrictionAt_55 rfl ?_
        refine J_getR dX7_restrictionAt_56 flX7_17 rfl rfl ?_
        refine J_aload_n dX7_restrictionAt_59 rfl ?_
        refine J_getR dX7_restrictionAt_60 flX7_20 rfl rfl ?_
        refine J_iload dX7_restrictionAt_63 rfl ?_
        refine J_iald dX7_restrictionAt_65 rfl (by decide) (MR.ix hR (by omega)) (J_top (v := (((O k) : Nat) : Int)) (MR.gO hR (by omega)) ?_)
        refine J_iald dX7_restrictionAt_66 rfl (by decide) (MR.ix hR (MR.ob hR (by omega))) (J_top (v := (((F (O k)) : Nat) : Int)) (MR.gF hR (MR.ob hR (by omega))) ?_)
        refine J_callSiQ (cl := mX7_lies) [(0, (((ndf (F (O pl)) (2 ^ p)) : Nat) : Int)), (0, (((F (O k)) : Nat) : Int))] [(0, ((y : Nat) : Int))] dX7_restrictionAt_67 mlX7_183 csX7_lies rfl rfl (by decide) (Nat.le_of_ble_eq_true rfl) rfl (ev_X7_lies (ndf (F (O pl)) (2 ^ p)) (F (O k)) (nb_ndf (MR.f31 hR (MR.ob hR hpl))) (MR.f31 hR (MR.ob hR (by omega))) M) ?_
        refine J_ifb_eq (tgt := 80) dX7_restrictionAt_70 rfl (fun h70 => ?_) (fun h70 => ?_)
        ·
          refine J_iconst dX7_restrictionAt_80 ?_
          refine J_ior dX7_restrictionAt_81 (J_top (v := ((y : Nat) : Int)) (j_or0 rfl (by rw [g1]; exact nb_or hx (by split; exact nb_p2 (by omega); decide))) ?_)
          refine J_istore_n (L' := [(33, 0), (0, ((pl : Nat) : Int)), (0, (((F (O pl)) : Nat) : Int)), (0, ((y : Nat) : Int)), (0, ((p : Nat) : Int)), (0, (((ndf (F (O pl)) (2 ^ p)) : Nat) : Int)), (0, ((k : Nat) : Int))]) dX7_restrictionAt_82 (by decide) rfl rfl ?_
          refine J_iinc (v := (((k + 1) : Nat) : Int)) (L' := [(33, 0), (0, ((pl : Nat) : Int)), (0, (((F (O pl)) : Nat) : Int)), (0, ((y : Nat) : Int)), (0, ((p : Nat) : Int)), (0, (((ndf (F (O pl)) (2 ^ p)) : Nat) : Int)), (0, (((k + 1) : Nat) : Int))]) dX7_restrictionAt_83 rfl (by omega) (by decide) rfl rfl ?_
          refine J_goto (tgt := 37) dX7_restrictionAt_86 rfl ?_
          exact ih _ _ (by rw [g1, anyN_f (by exact h70)]) (by omega) (by exact Or.inr h49) (by omega)
        ·
          refine J_iconst dX7_restrictionAt_73 ?_
          refine J_iload dX7_restrictionAt_74 rfl ?_
          refine J_ishl dX7_restrictionAt_76 (J_top (v := (((2 ^ p) : Nat) : Int)) (j_shl1 rfl rfl (by omega)) ?_)
          refine J_goto (tgt := 81) dX7_restrictionAt_77 rfl ?_
          refine J_ior dX7_restrictionAt_81 (J_top (v := (((y ||| (2 ^ p)) : Nat) : Int)) (j_orN rfl rfl (by rw [g1]; exact nb_or hx (by split; exact nb_p2 (by omega); decide)) (nb_p2 (by omega))) ?_)
          refine J_istore_n (L' := [(33, 0), (0, ((pl : Nat) : Int)), (0, (((F (O pl)) : Nat) : Int)), (0, (((y ||| (2 ^ p)) : Nat) : Int)), (0, ((p : Nat) : Int)), (0, (((ndf (F (O pl)) (2 ^ p)) : Nat) : Int)), (0, ((k : Nat) : Int))]) dX7_restrictionAt_82 (by decide) rfl rfl ?_
          refine J_iinc (v := (((k + 1) : Nat) : Int)) (L' := [(33, 0), (0, ((pl : Nat) : Int)), (0, (((F (O pl)) : Nat) : Int)), (0, (((y ||| (2 ^ p)) : Nat) : Int)), (0, ((p : Nat) : Int)), (0, (((ndf (F (O pl)) (2 ^ p)) : Nat) : Int)), (0, (((k + 1) : Nat) : Int))]) dX7_restrictionAt_83 rfl (by omega) (by decide) rfl rfl ?_
          refine J_goto (tgt := 37) dX7_restrictionAt_86 rfl ?_
          exact ih _ _ (by rw [g1, anyN_t (by exact h70)]; have := or_if x p (anyN k (rsQ F O pl p)) true; simpa using this) (by omega) (by exact Or.inr h49) (by omega)
set_option maxRecDepth 100000 in
set_option maxHeartbeats 4000000 in
theorem ev_X7_restrictionAt_L17 (P D n : Nat) (F O : Nat → Nat) (M : jM) (hR : MR P D n F O M) (pl : Nat) (hpl : pl < n)  : ∀ (fu : Nat) (x p : Nat) (f1 : x = mskN p (fun p => (F (O pl)).testBit p && anyN pl (rsQ F O pl p))) (f2 : p ≤ 7) (hfu : 7 - p < fu), J none 1 mX7_restrictionAt 17 [(33, 0), (0, ((pl : Nat) : Int)), (0, (((F (O pl)) : Nat) : Int)), (0, ((x : Nat) : Int)), (0, ((p : Nat) : Int)), (9, 0), (9, 0)] [] M (j_ret mX7_restrictionAt (fun z M' => z = ((rst F O pl : Nat) : Int) ∧ M' = M)) := by
  intro fu
  induction fu with
  | zero => intro x p f1 f2 hfu; exact absurd hfu (Nat.not_lt_zero _)
  | succ fu ih =>
    intro x p f1 f2 hfu
    have hn12 := MR.hn hR
    have hP7 := MR.hP hR
    have hD5 := MR.hD hR
    refine J_iload dX7_restrictionAt_17 rfl ?_
    refine J_bipush dX7_restrictionAt_19 (by decide) ?_
    refine J_icmp_ge (tgt := 95) dX7_restrictionAt_21 rfl (j_R (by omega)) (by decide) (fun h21 => ?_) (fun h21 => ?_)
    ·
      refine J_iload_n dX7_restrictionAt_95 rfl ?_
      refine J_ireturn dX7_restrictionAt_96 rfl ?_
      have : p = 7 := by omega
      subst this
      exact ⟨by rw [f1]; rfl, rfl⟩
    ·
      refine J_iload_n dX7_restrictionAt_24 rfl ?_
      refine J_iconst dX7_restrictionAt_25 ?_
      refine J_iload dX7_restrictionAt_26 rfl ?_
      refine J_ishl dX7_restrictionAt_28 (J_top (v := (((2 ^ p) : Nat) : Int)) (j_shl1 rfl rfl (by omega)) ?_)
      refine J_iconst dX7_restrictionAt_29 ?_
      refine J_ixor dX7_restrictionAt_30 (J_top (v := (-(((2 ^ p) : Nat) : Int) - 1)) (j_notN rfl (nb_p2 (by omega))) ?_)
      refine J_iand dX7_restrictionAt_31 (J_top (v := (((ndf (F (O pl)) (2 ^ p)) : Nat) : Int)) (j_ndfN rfl rfl (MR.f31 hR (MR.ob hR hpl))) ?_)
      refine J_istore (L' := [(33, 0), (0, ((pl : Nat) : Int)), (0, (((F (O pl)) : Nat) : Int)), (0, ((x : Nat) : Int)), (0, ((p : Nat) : Int)), (0, (((ndf (F (O pl)) (2 ^ p)) : Nat) : Int)), (9, 0)]) dX7_restrictionAt_32 (by decide) rfl rfl ?_
      refine J_iconst dX7_restrictionAt_34 ?_
      refine J_istore (L' := [(33, 0), (0, ((pl : Nat) : Int)), (0, (((F (O pl)) : Nat) : Int)), (0, ((x : Nat) : Int)), (0, ((p : Nat) : Int)), (0, (((ndf (F (O pl)) (2 ^ p)) : Nat) : Int)), (0, 0)]) dX7_restrictionAt_35 (by decide) rfl rfl ?_
      refine J_eq (L' := [(33, 0), (0, ((pl : Nat) : Int)), (0, (((F (O pl)) : Nat) : Int)), (0, ((x : Nat) : Int)), (0, ((p : Nat) : Int)), (0, (((ndf (F (O pl)) (2 ^ p)) : Nat) : Int)), (0, ((0 : Nat) : Int))]) rfl rfl rfl ?_
      refine ev_X7_restrictionAt_L37 P D n F O M hR pl hpl x p (by rw [f1]; exact mskN_31 (by omega)) (by omega) (fun y g1 => ?_) _ _ _ (by simp [anyN]) (by omega) (by exact Or.inl rfl) (Nat.lt_succ_self _)
      ·
        refine J_iinc (v := (((p + 1) : Nat) : Int)) (L' := [(33, 0), (0, ((pl : Nat) : Int)), (0, (((F (O pl)) : Nat) : Int)), (0, ((y : Nat) : Int)), (0, (((p + 1) : Nat) : Int)), (9, 0), (9, 0)]) dX7_restrictionAt_89 rfl (by omega) (by decide) rfl rfl ?_
        refine J_goto (tgt := 17) dX7_restrictionAt_92 rfl ?_
        exact ih _ _ (by rw [g1, f1]; simp only [mskN]) (by omega) (by omega)
set_option maxRecDepth 100000 in
set_option maxHeartbeats 4000000 in
theorem ev_X7_restrictionAt (P D n : Nat) (F O : Nat → Nat) (M : jM) (hR : MR P D n F O M) (pl : Nat) (hpl : pl < n) : Ev 1 mX7_restrictionAt [(33, 0), (0, ((pl : Nat) : Int))] M (fun z M' => z = ((rst F O pl : Nat) : Int) ∧ M' = M) := by
  refine Ev_of (by decide +kernel) (Nat.le_of_ble_eq_true rfl) (L := [(33, 0), (0, ((pl : Nat) : Int)), (9, 0), (9, 0), (9, 0), (9, 0), (9, 0)]) rfl ?_
  have hn12 := MR.hn hR
  have hP7 := MR.hP hR
  have hD5 := MR.hD hR
  refine J_aload_n dX7_restrictionAt_0 rfl ?_
  refine J_getR dX7_restrictionAt_1 flX7_17 rfl rfl ?_
  refine J_aload_n dX7_restrictionAt_4 rfl ?_
  refine J_getR dX7_restrictionAt_5 flX7_20 rfl rfl ?_
  refine J_iload_n dX7_restrictionAt_8 rfl ?_
  refine J_iald dX7_restrictionAt_9 rfl (by decide) (MR.ix hR (by omega)) (J_top (v := (((O pl) : Nat) : Int)) (MR.gO hR (by omega)) ?_)
  refine J_iald dX7_restrictionAt_10 rfl (by decide) (MR.ix hR (MR.ob hR (by omega))) (J_top (v := (((F (O pl)) : Nat) : Int)) (MR.gF hR (MR.ob hR (by omega))) ?_)
  refine J_istore_n (L' := [(33, 0), (0, ((pl : Nat) : Int)), (0, (((F (O pl)) : Nat) : Int)), (9, 0), (9, 0), (9, 0), (9, 0)]) dX7_restrictionAt_11 (by decide) rfl rfl ?_
  refine J_iconst dX7_restrictionAt_12 ?_
  refine J_istore_n (L' := [(33, 0), (0, ((pl : Nat) : Int)), (0, (((F (O pl)) : Nat) : Int)), (0, 0), (9, 0), (9, 0), (9, 0)]) dX7_restrictionAt_13 (by decide) rfl rfl ?_
  refine J_iconst dX7_restrictionAt_14 ?_
  refine J_istore (L' := [(33, 0), (0, ((pl : Nat) : Int)), (0, (((F (O pl)) : Nat) : Int)), (0, 0), (0, 0), (9, 0), (9, 0)]) dX7_restrictionAt_15 (by decide) rfl rfl ?_
  refine J_eq (L' := [(33, 0), (0, ((pl : Nat) : Int)), (0, (((F (O pl)) : Nat) : Int)), (0, ((0 : Nat) : Int)), (0, ((0 : Nat) : Int)), (9, 0), (9, 0)]) rfl rfl rfl ?_
  exact ev_X7_restrictionAt_L17 P D n F O M hR pl hpl  _ _ _ (by rfl) (by omega) (Nat.lt_succ_self _)
