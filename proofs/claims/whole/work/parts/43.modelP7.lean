def adF (F : Nat → Nat) (n x : Nat) : Nat → Nat := fun k => if k = n then x else F k
theorem ad_wf {P D n x : Nat} {F O : Nat → Nat} (h : WF P D n F O) (h0 : 0 < n) (h12 : n < 12) (hx : x < 2 ^ P) (hc : popc x = D) (hn : ∀ k, k < n → ¬ F k = x) : WF P D (n + 1) (adF F n x) (adF O n n) := by
  obtain ⟨h1, h2, h3, h4, h5, h6, h7, h8, h9, h10⟩ := h
  refine ⟨h1, h2, by omega, h4, ?_, ?_, ?_, ?_, fun _ => h9 h0, fun q => by omega⟩
  · intro i hi
    unfold adF
    split
    · exact ⟨hx, hc⟩
    · exact h5 i (by omega)
  · intro i j hi hj
    unfold adF
    split
    · split
      · intro _; omega
      · intro e; exact absurd e.symm (hn j (by omega))
    · split
      · intro e; exact absurd e (hn i (by omega))
      · intro e; exact h6 i j (by omega) (by omega) e
  · intro i hi
    unfold adF
    split
    · omega
    · have := h7 i (by omega); omega
  · intro i j hi hj
    unfold adF
    split
    · split
      · intro _; omega
      · intro e; have := h7 j (by omega); omega
    · split
      · intro e; have := h7 i (by omega); omega
      · intro e; exact h8 i j (by omega) (by omega) e
theorem mr_add {P D n x : Nat} {F O : Nat → Nat} {M : jM} (h : MR P D n F O M) (h0 : 0 < n) (wf : WF P D (n + 1) (adF F n x) (adF O n n)) : MR P D (n + 1) (adF F n x) (adF O n n) (j_up (j_up (j_up M 25 ((n : Nat) : Int) ((x : Nat) : Int)) 26 ((n : Nat) : Int) ((n : Nat) : Int)) 23 8 (((n + 1 : Nat)) : Int)) := by
  obtain ⟨_, h1, h2, h3, h4, h5, h6⟩ := h
  refine ⟨wf, ?_, ?_, j_up_eq, ?_, ?_, ?_⟩
  · rw [j_up_nz (by decide), j_up_ne (by decide), j_up_ne (by decide)]; exact h1
  · rw [j_up_nz (by decide), j_up_ne (by decide), j_up_ne (by decide)]; exact h2
  · rw [j_up_nz (by decide), j_up_ne (by decide), j_up_ne (by decide), h4, decide_eq_true h0, decide_eq_true (by omega : 0 < n + 1)]
  · intro i hi
    rw [j_up_ne (by decide), j_up_ne (by decide)]
    unfold adF
    by_cases e : i = n
    · rw [e, if_pos rfl, j_up_eq]
    · rw [if_neg e, j_up_nz (by omega)]; exact h5 i (by omega)
  · intro i hi
    rw [j_up_ne (by decide)]
    unfold adF
    by_cases e : i = n
    · rw [e, if_pos rfl, j_up_eq]
    · rw [if_neg e, j_up_nz (by omega), j_up_ne (by decide)]; exact h6 i (by omega)
def bA (P D : Nat) (i : Int) : Bool := bS P i && decide (popc i.toNat = D)
def tAd (P D n : Nat) (F : Nat → Nat) (i : Int) : Int := if bT n = true then (if bA P D i = true then (if anyN n (fun k => F k == i.toNat) = true then 5 else if n = 12 then 3 else 0) else 2) else 1
def A_add (P D n : Nat) (F : Nat → Nat) (i : Int) : Int := if tAd P D n F i = 0 then ((n + 1 : Nat) : Int) else -1
def tDr (n : Nat) (i : Int) : Int := if bI n i = true then (if n = 1 then 5 else 0) else 1
def A_drop (n : Nat) (i : Int) : Int := if tDr n i = 0 then ((n - 1 : Nat) : Int) else -1
def tPe (n : Nat) : Int := if bT n = true then (if n = 1 then 5 else 0) else 1
def A_peel (n : Nat) (F O : Nat → Nat) : Int := if tPe n = 0 then (F (O (n - 1)) : Int) else -1
def nw (t : Int) {α : Type} (a b : α) : α := if t = 0 then a else b
theorem nw_t {t : Int} {α : Type} {a b : α} (h : t = 0) : nw t a b = a := if_pos h
theorem nw_f {t : Int} {α : Type} {a b : α} (h : ¬ t = 0) : nw t a b = b := if_neg h
def mvI (f t k : Nat) : Nat := if f ≤ k ∧ k < t then k + 1 else if t < k ∧ k ≤ f then k - 1 else if k = t then f else k
def mvO (O : Nat → Nat) (f t : Nat) : Nat → Nat := fun k => O (mvI f t k)
theorem mvI_lt {f t k n : Nat} (hf : f < n) (ht : t < n) (hk : k < n) : mvI f t k < n := by
  unfold mvI
  split
  · omega
  · split
    · omega
    · split <;> omega
theorem mvI_inj {f t i j : Nat} (h : mvI f t i = mvI f t j) : i = j := by
  unfold mvI at h
  by_cases a1 : f ≤ i ∧ i < t
  · rw [if_pos a1] at h
    by_cases b1 : f ≤ j ∧ j < t
    · rw [if_pos b1] at h; omega
    · rw [if_neg b1] at h
      by_cases b2 : t < j ∧ j ≤ f
      · rw [if_pos b2] at h; omega
      · rw [if_neg b2] at h
        by_cases b3 : j = t
        · rw [if_pos b3] at h; omega
        · rw [if_neg b3] at h; omega
  · rw [if_neg a1] at h
    by_cases a2 : t < i ∧ i ≤ f
    · rw [if_pos a2] at h
      by_cases b1 : f ≤ j ∧ j < t
      · rw [if_pos b1] at h; omega
      · rw [if_neg b1] at h
        by_cases b2 : t < j ∧ j ≤ f
        · rw [if_pos b2] at h; omega
        · rw [if_neg b2] at h
          by_cases b3 : j = t
          · rw [if_pos b3] at h; omega
          · rw [if_neg b3] at h; omega
    · rw [if_neg a2] at h
      by_cases a3 : i = t
      · rw [if_pos a3] at h
        by_cases b1 : f ≤ j ∧ j < t
        · rw [if_pos b1] at h; omega
        · rw [if_neg b1] at h
          by_cases b2 : t < j ∧ j ≤ f
          · rw [if_pos b2] at h; omega
          · rw [if_neg b2] at h
            by_cases b3 : j = t
            · omega
            · rw [if_neg b3] at h; omega
      · rw [if_neg a3] at h
        by_cases b1 : f ≤ j ∧ j < t
        · rw [if_pos b1] at h; omega
        · rw [if_neg b1] at h
          by_cases b2 : t < j ∧ j ≤ f
          · rw [if_pos b2] at h; omega
          · rw [if_neg b2] at h
            by_cases b3 : j = t
            · rw [if_pos b3] at h; omega
            · rw [if_neg b3] at h; omega
theorem or_wf {P D n : Nat} {F O O' : Nat → Nat} (h : WF P D n F O) (h1 : ∀ i, i < n → O' i < n) (h2 : ∀ i j, i < n → j < n → O' i = O' j → i = j) : WF P D n F O' := ⟨h.1, h.2.1, h.2.2.1, h.2.2.2.1, h.2.2.2.2.1, h.2.2.2.2.2.1, h1, h2, h.2.2.2.2.2.2.2.2.1, h.2.2.2.2.2.2.2.2.2⟩
theorem mv_wf {P D n : Nat} {F O : Nat → Nat} (h : WF P D n F O) {f t : Nat} (hf : f < n) (ht : t < n) : WF P D n F (mvO O f t) := or_wf h (fun i hi => h.2.2.2.2.2.2.1 _ (mvI_lt hf ht hi)) (fun i j hi hj e => mvI_inj (h.2.2.2.2.2.2.2.1 _ _ (mvI_lt hf ht hi) (mvI_lt hf ht hj) e))
theorem mr_ord {P D n : Nat} {F O O' : Nat → Nat} {M M' : jM} {ks : List Nat} (hc : Ch ks M M') (k23 : 23 ∉ ks) (k25 : 25 ∉ ks) (wf : WF P D n F O') (hO : ∀ i : Nat, i < n → M' 26 (i : Int) = (O' i : Int)) (h : MR P D n F O M) : MR P D n F O' M' := by
  obtain ⟨_, h1, h2, h3, h4, h5, _⟩ := h
  unfold MR
  rw [hc 23 k23, hc 25 k25]
  exact ⟨wf, h1, h2, h3, h4, h5, hO⟩
theorem mr_fac {P D n : Nat} {F F' O : Nat → Nat} {M M' : jM} {ks : List Nat} (hc : Ch ks M M') (k23 : 23 ∉ ks) (k26 : 26 ∉ ks) (wf : WF P D n F' O) (hF : ∀ i : Nat, i < n → M' 25 (i : Int) = (F' i : Int)) (h : MR P D n F O M) : MR P D n F' O M' := by
  obtain ⟨_, h1, h2, h3, h4, _, h6⟩ := h
  unfold MR
  rw [hc 23 k23, hc 26 k26]
  exact ⟨wf, h1, h2, h3, h4, hF, h6⟩
def bV2 (n : Nat) (i j : Int) : Bool := bI n i && bI n j
def A_move (n : Nat) (F O : Nat → Nat) (i j : Int) : Int := if bV2 n i j = true then gdN n F (mvO O i.toNat j.toNat) else -1
def lyO (n : Nat) (F : Nat → Nat) : Nat → Nat := fun k => (lsF F n (lsA F n k)).toNat
theorem lsA_bit {F : Nat → Nat} {n i j : Nat} (h : i < j) : (lsA F n j).testBit (lsF F n (lsA F n i)).toNat = true := by
  induction j with
  | zero => omega
  | succ j ih =>
    simp only [lsA]
    rw [Nat.testBit_or]
    by_cases e : i = j
    · subst e
      rw [Nat.testBit_two_pow_self, Bool.or_true]
    · rw [ih (by omega), Bool.true_or]
theorem ly_wf {P D n : Nat} {F O : Nat → Nat} (h : WF P D n F O) (hw : 0 < won F n 0) : WF P D n F (lyO n F) := by
  have key : ∀ i, i < n → ∃ k : Nat, k < n ∧ lsF F n (lsA F n i) = (k : Int) ∧ (lsA F n i).testBit k = false := by
    intro i hi
    obtain ⟨a1, a2, a3⟩ := lsA_ok hw i (by omega)
    obtain ⟨k, k1, k2, k3, _⟩ := ls_next a1 a2 (by omega)
    exact ⟨k, k1, k2, k3⟩
  have lt : ∀ i j, i < n → j < n → i < j → ¬ lyO n F i = lyO n F j := by
    intro i j hi hj hij e
    obtain ⟨k, k1, k2, k3⟩ := key j hj
    have h1 := lsA_bit (F := F) (n := n) hij
    unfold lyO at e
    rw [e, k2, Int.toNat_natCast, k3] at h1
    exact absurd h1 (by decide)
  refine or_wf h ?_ ?_
  · intro i hi
    obtain ⟨k, k1, k2, _⟩ := key i hi
    unfold lyO
    rw [k2, Int.toNat_natCast]
    exact k1
  · intro i j hi hj e
    rcases Nat.lt_trichotomy i j with q | q | q
    · exact absurd e (lt i j hi hj q)
    · exact q
    · exact absurd e.symm (lt j i hj hi q)
def tLa (n : Nat) (F : Nat → Nat) : Int := if bT n = true then (if won F n 0 = 0 then 5 else 0) else 1
def A_lay (n : Nat) (F : Nat → Nat) : Int := if tLa n F = 0 then (won F n 0 : Int) else -1
theorem lsF_nn {P D n : Nat} {F O : Nat → Nat} (hn : n ≤ 12) (h : WF P D n F O) (hw : ¬ won F n 0 = 0) {i : Nat} (hi : i < n) : 0 ≤ lsF F n (lsA F n i) := by
  obtain ⟨a1, a2, a3⟩ := lsA_ok (F := F) (n := n) (by omega) i (by omega)
  obtain ⟨k, k1, k2, k3, _⟩ := ls_next a1 a2 (by omega)
  rw [k2]
  omega
set_option maxRecDepth 100000 in
set_option maxHeartbeats 4000000 in
theorem ev_X7_add_L51 (P D n : Nat) (F O : Nat → Nat) (tl : Nat) (tb : Nat → Nat) (fa tr wh : Int) (M : jM) (hS : MS P D n F O tl tb fa tr wh M) (i : Int) (hi : -2147483648 ≤ i ∧ i < 2147483648) (M1 : jM) (hM1 : M1 = (j_up (j_up (j_up M 23 0 0) 23 3 (-1)) 23 1 (if decide (0 < n) = true then (if true = true then 0 else 2) else 1))) (h4 : decide (0 < n) = true) (h12 : decide (0 ≤ i ∧ i ≤ ((2 ^ P - 1 : Nat) : Int)) = true) (h23 : ((popc (Int.toNat i) : Nat) : Int) = ((D : Nat) : Int)) : ∀ (fu : Nat) (k : Nat) (f1 : anyN k (fun k => F k == Int.toNat i) = false) (f2 : k ≤ n) (hfu : n - k < fu), J none 2 mX7_add 51 [(33, 0), (0, (((Int.toNat i) : Nat) : Int)), (0, 1), (0, ((k : Nat) : Int))] [] M1 (j_ret mX7_add (fun z M' => z = A_add P D n F i ∧ MS P D (nw (tAd P D n F i) (n + 1) n) (nw (tAd P D n F i) (adF F n i.toNat) F) (nw (tAd P D n F i) (adF O n n) O) tl tb fa (tAd P D n F i) 0 M' ∧ CM M M')) := by
  intro fu
  induction fu with
  | zero => intro k f1 f2 hfu; exact absurd hfu (Nat.not_lt_zero _)
  | succ fu ih =>
    intro k f1 f2 hfu
    have hR := hS.1
    have hn12 := MR.hn hR
    have hP7 := MR.hP hR
    have hD5 := MR.hD hR
    have hR1 : MR P D n F O M1 := by rw [hM1]; exact mr_upF (by decide) (mr_upF (by decide) (mr_upF (by decide) hR))
    refine J_iload_n dX7_add_51 rfl ?_
    refine J_aload_n dX7_add_52 rfl ?_
    refine J_getI dX7_add_53 flX7_176 rfl rfl (J_top (v := ((n : Nat) : Int)) (MR.gn hR1) ?_)
    refine J_icmp_ge (tgt := 81) dX7_add_56 rfl (j_R (by omega)) (j_R (by omega)) (fun h56 => ?_) (fun h56 => ?_)
    ·
      refine J_aload_n dX7_add_81 rfl ?_
      refine J_getI dX7_add_82 flX7_176 rfl rfl (J_top (v := ((n : Nat) : Int)) (MR.gn hR1) ?_)
      refine J_bipush dX7_add_85 (by decide) ?_
      refine J_icmp_ne (tgt := 96) dX7_add_87 rfl (j_R (by omega)) (by decide) (fun h87 => ?_) (fun h87 => ?_)
      ·
        refine J_aload_n dX7_add_96 rfl ?_
        refine J_getR dX7_add_97 flX7_17 rfl rfl ?_
        refine J_aload_n dX7_add_100 rfl ?_
        refine J_getI dX7_add_101 flX7_176 rfl rfl (J_top (v := ((n : Nat) : Int)) (MR.gn hR1) ?_)
        refine J_iload_n dX7_add_104 rfl ?_
        refine J_iast dX7_add_105 rfl (by decide) (by omega) ?_
        refine J_aload_n dX7_add_106 rfl ?_
        refine J_getR dX7_add_107 flX7_20 rfl rfl ?_
        refine J_aload_n dX7_add_110 rfl ?_
        refine J_getI dX7_add_111 flX7_176 rfl rfl (J_top (v := ((n : Nat) : Int)) (ru_ne (by decide) (MR.gn hR1)) ?_)
        refine J_aload_n dX7_add_114 rfl ?_
        refine J_getI dX7_add_115 flX7_176 rfl rfl (J_top (v := ((n : Nat) : Int)) (ru_ne (by decide) (MR.gn hR1)) ?_)
        refine J_iast dX7_add_118 rfl (by decide) (by omega) ?_
        refine J_aload_n dX7_add_119 rfl ?_
        refine J_dup dX7_add_120 rfl ?_
        refine J_getI dX7_add_121 flX7_176 rfl rfl (J_top (v := ((n : Nat) : Int)) (ru_ne (by decide) (ru_ne (by decide) (MR.gn hR1))) ?_)
        refine J_iconst dX7_add_124 ?_
        refine J_iadd dX7_add_125 (J_top (v := (((n + 1) : Nat) : Int)) (by omega) ?_)
        refine J_putI dX7_add_126 flX7_176 rfl rfl (Or.inl rfl) ?_
        refine J_aload_n dX7_add_129 rfl ?_
        refine J_getI dX7_add_130 flX7_176 rfl rfl (J_top (v := (((n + 1) : Nat) : Int)) j_up_eq ?_)
        refine J_ireturn dX7_add_133 rfl ?_
        have hb : (decide (0 ≤ i ∧ i ≤ ((2 ^ P - 1 : Nat) : Int)) && decide (popc i.toNat = D)) = true := by rw [h12, decide_eq_true (by omega)]; rfl
        rw [show k = n by omega] at f1
        have hz : tAd P D n F i = 0 := by unfold tAd bT bA bS; rw [if_pos h4, if_pos hb, f1, if_neg (by decide), if_neg (by omega)]
        rw [nw_t hz, nw_t hz, nw_t hz]
        have hx := of_decide_eq_true h12
        have h0 := of_decide_eq_true h4
        have hwf := ad_wf (x := i.toNat) hR.wf h0 (by omega) (by have := Nat.two_pow_pos P; omega) (by omega) (fun k hk e => by have := anyN_false.mp f1 k hk; rw [beq_eq_false_iff_ne] at this; exact this e)
        have hfz : Fz [8] [25, 26] M1 (j_up (j_up (j_up M1 25 ((n : Nat) : Int) ((i.toNat : Nat) : Int)) 26 ((n : Nat) : Int) ((n : Nat) : Int)) 23 8 (((n + 1 : Nat)) : Int)) := Fz_upz (by decide) (Fz_upk (by decide) (by decide) (Fz_upk (by decide) (by decide) Fz_rf))
        refine ⟨by unfold A_add; rw [if_pos hz], ?_, ?_⟩
        · rw [hz]; exact ms_mr hfz (by decide) (by decide) (mr_add hR1 h0 hwf) (by rw [hM1]; exact ms_rfE (by rw [h4]; rfl) (by decide) hS)
        · subst hM1; exact cm_tr cm_ref (cm_fz hfz (by decide))
      ·
        refine J_aload_n dX7_add_90 rfl ?_
        refine J_iconst dX7_add_91 ?_
        refine J_callViQ (cl := mX7_no) [(0, 3)] [] dX7_add_92 mlX7_168 cvX7_no rfl rfl rfl rfl rfl (by decide) (Nat.le_of_ble_eq_true rfl) rfl (ev_X7_no 3 M1) ?_
        refine J_ireturn dX7_add_95 rfl ?_
        have hb : (decide (0 ≤ i ∧ i ≤ ((2 ^ P - 1 : Nat) : Int)) && decide (popc i.toNat = D)) = true := by rw [h12, decide_eq_true (by omega)]; rfl
        rw [show k = n by omega] at f1
        subst hM1
        have ht : tAd P D n F i = 3 := by unfold tAd bT bA bS; rw [if_pos h4, if_pos hb, f1, if_neg (by decide), if_pos (by omega)]
        have hz : ¬ tAd P D n F i = 0 := by rw [ht]; decide
        rw [nw_f hz, nw_f hz, nw_f hz]
        refine ⟨by unfold A_add; rw [if_neg hz], ?_, cm_up cm_ref⟩
        rw [ht]; exact ms_tr (by decide) (ms_ref if02 hS)
    ·
      refine J_aload_n dX7_add_59 rfl ?_
      refine J_getR dX7_add_60 flX7_17 rfl rfl ?_
      refine J_iload_n dX7_add_63 rfl ?_
      refine J_iald dX7_add_64 rfl (by decide) (MR.ix hR1 (by omega)) (J_top (v := (((F k) : Nat) : Int)) (MR.gF hR1 (by omega)) ?_)
      refine J_iload_n dX7_add_65 rfl ?_
      refine J_icmp_ne (tgt := 75) dX7_add_66 rfl (j_R (MR.f31 hR1 (by omega))) (j_R (by have := ap31 hR; have := of_decide_eq_true h12; omega)) (fun h66 => ?_) (fun h66 => ?_)
      ·
        refine J_iinc (v := (((k + 1) : Nat) : Int)) (L' := [(33, 0), (0, (((Int.toNat i) : Nat) : Int)), (0, 1), (0, (((k + 1) : Nat) : Int))]) dX7_add_75 rfl (by omega) (by decide) rfl rfl ?_
        refine J_goto (tgt := 51) dX7_add_78 rfl ?_
        exact ih _ (by rw [anyN_f (by exact beq_eq_false_iff_ne.mpr (by omega)), f1]) (by omega) (by omega)
      ·
        refine J_aload_n dX7_add_69 rfl ?_
        refine J_iconst dX7_add_70 ?_
        refine J_callViQ (cl := mX7_no) [(0, 5)] [] dX7_add_71 mlX7_168 cvX7_no rfl rfl rfl rfl rfl (by decide) (Nat.le_of_ble_eq_true rfl) rfl (ev_X7_no 5 M1) ?_
        refine J_ireturn dX7_add_74 rfl ?_
        have hb : (decide (0 ≤ i ∧ i ≤ ((2 ^ P - 1 : Nat) : Int)) && decide (popc i.toNat = D)) = true := by rw [h12, decide_eq_true (by omega)]; rfl
        subst hM1
        have ht : tAd P D n F i = 5 := by unfold tAd bT bA bS; rw [if_pos h4, if_pos hb, if_pos (by exact anyN_iff.mpr ⟨k, by omega, beq_iff_eq.mpr (by omega)⟩)]
        have hz : ¬ tAd P D n F i = 0 := by rw [ht]; decide
        rw [nw_f hz, nw_f hz, nw_f hz]
        refine ⟨by unfold A_add; rw [if_neg hz], ?_, cm_up cm_ref⟩
        rw [ht]; exact ms_tr (by decide) (ms_ref if02 hS)
set_option maxRecDepth 100000 in
set_option maxHeartbeats 4000000 in
theorem ev_X7_add (P D n : Nat) (F O : Nat → Nat) (tl : Nat) (tb : Nat → Nat) (fa tr wh : Int) (M : jM) (hS : MS P D n F O tl tb fa tr wh M) (i : Int) (hi : -2147483648 ≤ i ∧ i < 2147483648) : Ev 2 mX7_add [(33, 0), (0, i)] M (fun z M' => z = A_add P D n F i ∧ MS P D (nw (tAd P D n F i) (n + 1) n) (nw (tAd P D n F i) (adF F n i.toNat) F) (nw (tAd P D n F i) (adF O n n) O) tl tb fa (tAd P D n F i) 0 M' ∧ CM M M') := by
  refine Ev_of (by decide +kernel) (Nat.le_of_ble_eq_true rfl) (L := [(33, 0), (0, i), (9, 0), (9, 0)]) rfl ?_
  have hR := hS.1
  have hn12 := MR.hn hR
  have hP7 := MR.hP hR
  have hD5 := MR.hD hR
  refine J_aload_n dX7_add_0 rfl ?_
  refine J_getI dX7_add_1 flX7_179 rfl rfl (J_top (v := ((Bool.toNat (decide (0 < n)) : Nat) : Int)) (MR.gt hR) ?_)
  refine J_ifb_eq (tgt := 30) dX7_add_4 rfl (fun h4 => ?_) (fun h4 => ?_)
  ·
    refine J_iconst dX7_add_30 ?_
    refine J_istore_n (L' := [(33, 0), (0, i), (0, 0), (9, 0)]) dX7_add_31 (by decide) rfl rfl ?_
    refine J_aload_n dX7_add_32 rfl ?_
    refine J_aload_n dX7_add_33 rfl ?_
    refine J_getI dX7_add_34 flX7_179 rfl rfl (J_top (v := ((Bool.toNat (decide (0 < n)) : Nat) : Int)) (MR.gt hR) ?_)
    refine J_iload_n dX7_add_37 rfl ?_
    refine J_callSiQ (cl := mX7_unless_) [(0, ((Bool.toNat (decide (0 < n)) : Nat) : Int)), (0, ((Bool.toNat (false) : Nat) : Int))] [(33, 0)] dX7_add_38 mlX7_206 csX7_unless_ rfl rfl (by decide) (Nat.le_of_ble_eq_true rfl) rfl (ev_X7_unless_ (decide (0 < n)) (false) M) ?_
    refine J_callViQ (cl := mX7_isRefused) [(0, (if (decide (0 < n)) = true then (if (false) = true then 0 else 2) else 1))] [] dX7_add_41 mlX7_159 cvX7_isRefused rfl rfl rfl rfl rfl (by decide) (Nat.le_of_ble_eq_true rfl) rfl (ev_X7_isRefused (if (decide (0 < n)) = true then (if (false) = true then 0 else 2) else 1) (ifR _ (ifR _ (by decide) (by decide)) (by decide)) M) (J_top (v := ((Bool.toNat (!((decide (0 < n)) && (false))) : Nat) : Int)) (rf_un2 _ _) ?_)
    refine J_ifn_eq (b := ((decide (0 < n)) && (false))) (tgt := 49) dX7_add_44 rfl (fun h44 => ?_) (fun h44 => ?_)
    · rw [Bool.and_false] at h44; exact absurd h44 (by decide)
    ·
      refine J_iconst dX7_add_47 ?_
      refine J_ireturn dX7_add_48 rfl ?_
      have ht : tAd P D n F i = 1 := by unfold tAd bT bA bS; rw [h4]; rfl
      have hz : ¬ tAd P D n F i = 0 := by rw [ht]; decide
      rw [nw_f hz, nw_f hz, nw_f hz]
      refine ⟨by unfold A_add; rw [if_neg hz], ?_, cm_ref⟩
      rw [ht]; exact ms_rfE (by rw [h4]; rfl) (by decide) hS
  ·
    refine J_aload_n dX7_add_7 rfl ?_
    refine J_iload_n dX7_add_8 rfl ?_
    refine J_callViQ (cl := mX7_isSet) [(0, i)] [] dX7_add_9 mlX7_234 cvX7_isSet rfl rfl rfl rfl rfl (by decide) (Nat.le_of_ble_eq_true rfl) rfl (ev_X7_isSet P D n F O M hR i (by omega)) ?_
    refine J_ifb_eq (tgt := 30) dX7_add_12 rfl (fun h12 => ?_) (fun h12 => ?_)
    ·
      refine J_iconst dX7_add_30 ?_
      refine J_istore_n (L' := [(33, 0), (0, i), (0, 0), (9, 0)]) dX7_add_31 (by decide) rfl rfl ?_
      refine J_aload_n dX7_add_32 rfl ?_
      refine J_aload_n dX7_add_33 rfl ?_
      refine J_getI dX7_add_34 flX7_179 rfl rfl (J_top (v := ((Bool.toNat (decide (0 < n)) : Nat) : Int)) (MR.gt hR) ?_)
      refine J_iload_n dX7_add_37 rfl ?_
      refine J_callSiQ (cl := mX7_unless_) [(0, ((Bool.toNat (decide (0 < n)) : Nat) : Int)), (0, ((Bool.toNat (false) : Nat) : Int))] [(33, 0)] dX7_add_38 mlX7_206 csX7_unless_ rfl rfl (by decide) (Nat.le_of_ble_eq_true rfl) rfl (ev_X7_unless_ (decide (0 < n)) (false) M) ?_
      refine J_callViQ (cl := mX7_isRefused) [(0, (if (decide (0 < n)) = true then (if (false) = true then 0 else 2) else 1))] [] dX7_add_41 mlX7_159 cvX7_isRefused rfl rfl rfl rfl rfl (by decide) (Nat.le_of_ble_eq_true rfl) rfl (ev_X7_isRefused (if (decide (0 < n)) = true then (if (false) = true then 0 else 2) else 1) (ifR _ (ifR _ (by decide) (by decide)) (by decide)) M) (J_top (v := ((Bool.toNat (!((decide (0 < n)) && (false))) : Nat) : Int)) (rf_un2 _ _) ?_)
      refine J_ifn_eq (b := ((decide (0 < n)) && (false))) (tgt := 49) dX7_add_44 rfl (fun h44 => ?_) (fun h44 => ?_)
      · rw [Bool.and_false] at h44; exact absurd h44 (by decide)
      ·
        refine J_iconst dX7_add_47 ?_
        refine J_ireturn dX7_add_48 rfl ?_
        have ht : tAd P D n F i = 2 := by unfold tAd bT bA bS; rw [if_pos h4, h12]; rfl
        have hz : ¬ tAd P D n F i = 0 := by rw [ht]; decide
        rw [nw_f hz, nw_f hz, nw_f hz]
        refine ⟨by unfold A_add; rw [if_neg hz], ?_, cm_ref⟩
        rw [ht]; exact ms_rfE (by rw [h4]; rfl) (by decide) hS
    ·
      refine J_iload_n dX7_add_15 rfl (J_top (v := (((Int.toNat i) : Nat) : Int)) (by have := of_decide_eq_true h12; omega) ?_)
      refine J_callSiQ (cl := mX7_many) [(0, (((Int.toNat i) : Nat) : Int))] [] dX7_add_16 mlX7_136 csX7_many rfl rfl (by decide) (Nat.le_of_ble_eq_true rfl) rfl (ev_X7_many (Int.toNat i) (by have := ap31 hR; have := of_decide_eq_true h12; omega) M) ?_
      refine J_aload_n dX7_add_19 rfl ?_
      refine J_getI dX7_add_20 flX7_173 rfl rfl (J_top (v := ((D : Nat) : Int)) (MR.gD hR) ?_)
      refine J_icmp_ne (tgt := 30) dX7_add_23 rfl (j_R (popc_lt (by have := ap31 hR; have := of_decide_eq_true h12; omega))) (j_R (by omega)) (fun h23 => ?_) (fun h23 => ?_)
      ·
        refine J_iconst dX7_add_30 ?_
        refine J_istore_n (L' := [(33, 0), (0, i), (0, 0), (9, 0)]) dX7_add_31 (by decide) rfl rfl ?_
        refine J_aload_n dX7_add_32 rfl ?_
        refine J_aload_n dX7_add_33 rfl ?_
        refine J_getI dX7_add_34 flX7_179 rfl rfl (J_top (v := ((Bool.toNat (decide (0 < n)) : Nat) : Int)) (MR.gt hR) ?_)
        refine J_iload_n dX7_add_37 rfl ?_
        refine J_callSiQ (cl := mX7_unless_) [(0, ((Bool.toNat (decide (0 < n)) : Nat) : Int)), (0, ((Bool.toNat (false) : Nat) : Int))] [(33, 0)] dX7_add_38 mlX7_206 csX7_unless_ rfl rfl (by decide) (Nat.le_of_ble_eq_true rfl) rfl (ev_X7_unless_ (decide (0 < n)) (false) M) ?_
        refine J_callViQ (cl := mX7_isRefused) [(0, (if (decide (0 < n)) = true then (if (false) = true then 0 else 2) else 1))] [] dX7_add_41 mlX7_159 cvX7_isRefused rfl rfl rfl rfl rfl (by decide) (Nat.le_of_ble_eq_true rfl) rfl (ev_X7_isRefused (if (decide (0 < n)) = true then (if (false) = true then 0 else 2) else 1) (ifR _ (ifR _ (by decide) (by decide)) (by decide)) M) (J_top (v := ((Bool.toNat (!((decide (0 < n)) && (false))) : Nat) : Int)) (rf_un2 _ _) ?_)
        refine J_ifn_eq (b := ((decide (0 < n)) && (false))) (tgt := 49) dX7_add_44 rfl (fun h44 => ?_) (fun h44 => ?_)
        · rw [Bool.and_false] at h44; exact absurd h44 (by decide)
        ·
          refine J_iconst dX7_add_47 ?_
          refine J_ireturn dX7_add_48 rfl ?_
          have ht : tAd P D n F i = 2 := by unfold tAd bT bA bS; rw [if_pos h4, if_neg (by rw [decide_eq_false (p := popc i.toNat = D) (by omega), Bool.and_false]; decide)]
          have hz : ¬ tAd P D n F i = 0 := by rw [ht]; decide
          rw [nw_f hz, nw_f hz, nw_f hz]
          refine ⟨by unfold A_add; rw [if_neg hz], ?_, cm_ref⟩
          rw [ht]; exact ms_rfE (by rw [h4]; rfl) (by decide) hS
      ·
        refine J_iconst dX7_add_26 ?_
        refine J_goto (tgt := 31) dX7_add_27 rfl ?_
        refine J_istore_n (L' := [(33, 0), (0, i), (0, 1), (9, 0)]) dX7_add_31 (by decide) rfl rfl ?_
        refine J_aload_n dX7_add_32 rfl ?_
        refine J_aload_n dX7_add_33 rfl ?_
        refine J_getI dX7_add_34 flX7_179 rfl rfl (J_top (v := ((Bool.toNat (decide (0 < n)) : Nat) : Int)) (MR.gt hR) ?_)
        refine J_iload_n dX7_add_37 rfl ?_
        refine J_callSiQ (cl := mX7_unless_) [(0, ((Bool.toNat (decide (0 < n)) : Nat) : Int)), (0, ((Bool.toNat (true) : Nat) : Int))] [(33, 0)] dX7_add_38 mlX7_206 csX7_unless_ rfl rfl (by decide) (Nat.le_of_ble_eq_true rfl) rfl (ev_X7_unless_ (decide (0 < n)) (true) M) ?_
        refine J_callViQ (cl := mX7_isRefused) [(0, (if (decide (0 < n)) = true then (if (true) = true then 0 else 2) else 1))] [] dX7_add_41 mlX7_159 cvX7_isRefused rfl rfl rfl rfl rfl (by decide) (Nat.le_of_ble_eq_true rfl) rfl (ev_X7_isRefused (if (decide (0 < n)) = true then (if (true) = true then 0 else 2) else 1) (ifR _ (ifR _ (by decide) (by decide)) (by decide)) M) (J_top (v := ((Bool.toNat (!((decide (0 < n)) && (true))) : Nat) : Int)) (rf_un2 _ _) ?_)
        refine J_ifn_eq (b := ((decide (0 < n)) && (true))) (tgt := 49) dX7_add_44 rfl (fun h44 => ?_) (fun h44 => ?_)
        ·
          refine J_eq (L' := [(33, 0), (0, (((Int.toNat i) : Nat) : Int)), (0, 1), (9, 0)]) (by rw [Int.toNat_of_nonneg (a := i) (by have := of_decide_eq_true h12; omega)]) rfl rfl ?_
          refine J_iconst dX7_add_49 ?_
          refine J_istore_n (L' := [(33, 0), (0, (((Int.toNat i) : Nat) : Int)), (0, 1), (0, 0)]) dX7_add_50 (by decide) rfl rfl ?_
          refine J_eq (L' := [(33, 0), (0, (((Int.toNat i) : Nat) : Int)), (0, 1), (0, ((0 : Nat) : Int))]) rfl rfl rfl ?_
          exact ev_X7_add_L51 P D n F O tl tb fa tr wh M hS i hi _ rfl h4 h12 (by omega) _ _ (by rfl) (by exact Nat.zero_le _) (Nat.lt_succ_self _)
        · rw [h4] at h44; exact absurd h44 (by decide)
set_option maxRecDepth 100000 in
set_option maxHeartbeats 4000000 in
theorem ev_X7_drop (P D n : Nat) (F O : Nat → Nat) (tl : Nat) (tb : Nat → Nat) (fa tr wh : Int) (M : jM) (hS : MS P D n F O tl tb fa tr wh M) (i : Int) (hi : -2147483648 ≤ i ∧ i < 2147483648) : Ev 2 mX7_drop [(33, 0), (0, i)] M (fun z M' => z = A_drop n i ∧ MS P D (nw (tDr n i) (n - 1) n) (nw (tDr n i) (drF F i.toNat) F) (nw (tDr n i) (drO n O i.toNat) O) tl tb fa (tDr n i) 0 M' ∧ CM M M') := by
  refine Ev_of (by decide +kernel) (Nat.le_of_ble_eq_true rfl) (L := [(33, 0), (0, i)]) rfl ?_
  have hR := hS.1
  have hn12 := MR.hn hR
  have hP7 := MR.hP hR
  have hD5 := MR.hD hR
  refine J_aload_n dX7_drop_0 rfl ?_
  refine J_aload_n dX7_drop_1 rfl ?_
  refine J_iload_n dX7_drop_2 rfl ?_
  refine J_callViQ (cl := mX7_isFacet) [(0, i)] [(33, 0)] dX7_drop_3 mlX7_231 cvX7_isFacet rfl rfl rfl rfl rfl (by decide) (Nat.le_of_ble_eq_true rfl) rfl (ev_X7_isFacet P D n F O M hR i (by omega)) ?_
  refine J_callSiQ (cl := mX7_unless) [(0, ((Bool.toNat (decide (0 ≤ i ∧ i < (n : Int))) : Nat) : Int))] [(33, 0)] dX7_drop_6 mlX7_199 csX7_unless rfl rfl (by decide) (Nat.le_of_ble_eq_true rfl) rfl (ev_X7_unless (decide (0 ≤ i ∧ i < (n : Int))) M) ?_
  refine J_callViQ (cl := mX7_isRefused) [(0, (if (decide (0 ≤ i ∧ i < (n : Int))) = true then 0 else 1))] [] dX7_drop_9 mlX7_159 cvX7_isRefused rfl rfl rfl rfl rfl (by decide) (Nat.le_of_ble_eq_true rfl) rfl (ev_X7_isRefused (if (decide (0 ≤ i ∧ i < (n : Int))) = true then 0 else 1) (ifR _ (by decide) (by decide)) M) (J_top (v := ((Bool.toNat (!(decide (0 ≤ i ∧ i < (n : Int)))) : Nat) : Int)) (rf_un _) ?_)
  refine J_ifn_eq (b := (decide (0 ≤ i ∧ i < (n : Int)))) (tgt := 17) dX7_drop_12 rfl (fun h12 => ?_) (fun h12 => ?_)
  ·
    refine J_aload_n dX7_drop_17 rfl ?_
    refine J_getI dX7_drop_18 flX7_176 rfl rfl (J_top (v := ((n : Nat) : Int)) (MR.gn (mr_upF (by decide) (mr_upF (by decide) (mr_upF (by decide) hR)))) ?_)
    refine J_iconst dX7_drop_21 ?_
    refine J_icmp_ne (tgt := 31) dX7_drop_22 rfl (j_R (by omega)) (by decide) (fun h22 => ?_) (fun h22 => ?_)
    ·
      have hi2 := of_decide_eq_true h12
      refine J_aload_n dX7_drop_31 rfl ?_
      refine J_iload_n dX7_drop_32 rfl (J_top (v := (((Int.toNat i) : Nat) : Int)) (by have := of_decide_eq_true h12; omega) ?_)
      refine J_callVv (cl := mX7_goes) [(0, (((Int.toNat i) : Nat) : Int))] [] dX7_drop_33 mlX7_342 cvX7_goes rfl rfl rfl rfl rfl (by decide) (Nat.le_of_ble_eq_true rfl) rfl (ev_X7_goes P D n F O _ (mr_upF (by decide) (mr_upF (by decide) (mr_upF (by decide) hR))) (Int.toNat i) (by have := of_decide_eq_true h12; omega) (by omega)) (fun Mb hq33 => ?_)
      obtain ⟨g1, g2⟩ := hq33
      refine J_aload_n dX7_drop_36 rfl ?_
      refine J_getI dX7_drop_37 flX7_176 rfl rfl (J_top (v := (((n - 1) : Nat) : Int)) (MR.gn g1) ?_)
      refine J_ireturn dX7_drop_40 rfl ?_
      have hz : tDr n i = 0 := by unfold tDr bI; rw [if_pos h12, if_neg (by omega)]
      rw [nw_t hz, nw_t hz, nw_t hz]
      refine ⟨by unfold A_drop; rw [if_pos hz], ?_, cm_tr cm_ref (cm_fz g2 (by decide))⟩
      rw [hz]; exact ms_mr g2 (by decide) (by decide) g1 (ms_rfE (by rw [h12]; rfl) (by decide) hS)
    ·
      refine J_aload_n dX7_drop_25 rfl ?_
      refine J_iconst dX7_drop_26 ?_
      refine J_callViQ (cl := mX7_no) [(0, 5)] [] dX7_drop_27 mlX7_168 cvX7_no rfl rfl rfl rfl rfl (by decide) (Nat.le_of_ble_eq_true rfl) rfl (ev_X7_no 5 (j_up (j_up (j_up M 23 0 0) 23 3 (-1)) 23 1 (if (decide (0 ≤ i ∧ i < (n : Int))) = true then 0 else 1))) ?_
      refine J_ireturn dX7_drop_30 rfl ?_
      have ht : tDr n i = 5 := by unfold tDr bI; rw [if_pos h12, if_pos (by omega)]
      have hz : ¬ tDr n i = 0 := by rw [ht]; decide
      rw [nw_f hz, nw_f hz, nw_f hz]
      refine ⟨by unfold A_drop; rw [if_neg hz], ?_, cm_up cm_ref⟩
      rw [ht]; exact ms_tr (by decide) (ms_ref if01 hS)
  ·
    refine J_iconst dX7_drop_15 ?_
    refine J_ireturn dX7_drop_16 rfl ?_
    have ht : tDr n i = 1 := by unfold tDr bI; rw [h12]; rfl
    have hz : ¬ tDr n i = 0 := by rw [ht]; decide
    rw [nw_f hz, nw_f hz, nw_f hz]
    refine ⟨by unfold A_drop; rw [if_neg hz], ?_, cm_ref⟩
    rw [ht]; exact ms_rfE (by rw [h12]; rfl) (by decide) hS
set_option maxRecDepth 100000 in
set_option maxHeartbeats 4000000 in
theorem ev_X7_peel (P D n : Nat) (F O : Nat → Nat) (tl : Nat) (tb : Nat → Nat) (fa tr wh : Int) (M : jM) (hS : MS P D n F O tl tb fa tr wh M) : Ev 1 mX7_peel [(33, 0)] M (fun z M' => z = A_peel n F O ∧ MS P D (nw (tPe n) (n - 1) n) (nw (tPe n) (drF F (O (n - 1))) F) (nw (tPe n) (drO n O (O (n - 1))) O) tl tb fa (tPe n) 0 M' ∧ CM M M') := by
  refine Ev_of (by decide +kernel) (Nat.le_of_ble_eq_true rfl) (L := [(33, 0), (9, 0), (9, 0)]) rfl ?_
  have hR := hS.1
  have hn12 := MR.hn hR
  have hP7 := MR.hP hR
  have hD5 := MR.hD hR
  refine J_aload_n dX7_peel_0 rfl ?_
  refine J_aload_n dX7_peel_1 rfl ?_
  refine J_getI dX7_peel_2 flX7_179 rfl rfl (J_top (v := ((Bool.toNat (decide (0 < n)) : Nat) : Int)) (MR.gt hR) ?_)
  refine J_callSiQ (cl := mX7_unless) [(0, ((Bool.toNat (decide (0 < n)) : Nat) : Int))] [(33, 0)] dX7_peel_5 mlX7_199 csX7_unless rfl rfl (by decide) (Nat.le_of_ble_eq_true rfl) rfl (ev_X7_unless (decide (0 < n)) M) ?_
  refine J_callViQ (cl := mX7_isRefused) [(0, (if (decide (0 < n)) = true then 0 else 1))] [] dX7_peel_8 mlX7_159 cvX7_isRefused rfl rfl rfl rfl rfl (by decide) (Nat.le_of_ble_eq_true rfl) rfl (ev_X7_isRefused (if (decide (0 < n)) = true then 0 else 1) (ifR _ (by decide) (by decide)) M) (J_top (v := ((Bool.toNat (!(decide (0 < n))) : Nat) : Int)) (rf_un _) ?_)
  refine J_ifn_eq (b := (decide (0 < n))) (tgt := 16) dX7_peel_11 rfl (fun h11 => ?_) (fun h11 => ?_)
  ·
    refine J_aload_n dX7_peel_16 rfl ?_
    refine J_getI dX7_peel_17 flX7_176 rfl rfl (J_top (v := ((n : Nat) : Int)) (MR.gn (mr_upF (by decide) (mr_upF (by decide) (mr_upF (by decide) hR)))) ?_)
    refine J_iconst dX7_peel_20 ?_
    refine J_icmp_ne (tgt := 30) dX7_peel_21 rfl (j_R (by omega)) (by decide) (fun h21 => ?_) (fun h21 => ?_)
    ·
      have hn0 := of_decide_eq_true h11
      refine J_aload_n dX7_peel_30 rfl ?_
      refine J_getR dX7_peel_31 flX7_20 rfl rfl ?_
      refine J_aload_n dX7_peel_34 rfl ?_
      refine J_getI dX7_peel_35 flX7_176 rfl rfl (J_top (v := ((n : Nat) : Int)) (MR.gn (mr_upF (by decide) (mr_upF (by decide) (mr_upF (by decide) hR)))) ?_)
      refine J_iconst dX7_peel_38 ?_
      refine J_isub dX7_peel_39 (J_top (v := (((n - 1) : Nat) : Int)) (by omega) ?_)
      refine J_iald dX7_peel_40 rfl (by decide) (MR.ix hR (by omega)) (J_top (v := (((O (n - 1)) : Nat) : Int)) (MR.gO (mr_upF (by decide) (mr_upF (by decide) (mr_upF (by decide) hR))) (by omega)) ?_)
      refine J_istore_n (L' := [(33, 0), (0, (((O (n - 1)) : Nat) : Int)), (9, 0)]) dX7_peel_41 (by decide) rfl rfl ?_
      refine J_aload_n dX7_peel_42 rfl ?_
      refine J_getR dX7_peel_43 flX7_17 rfl rfl ?_
      refine J_iload_n dX7_peel_46 rfl ?_
      refine J_iald dX7_peel_47 rfl (by decide) (MR.ix hR (MR.ob hR (by omega))) (J_top (v := (((F (O (n - 1))) : Nat) : Int)) (MR.gF (mr_upF (by decide) (mr_upF (by decide) (mr_upF (by decide) hR))) (MR.ob hR (by omega))) ?_)
      refine J_istore_n (L' := [(33, 0), (0, (((O (n - 1)) : Nat) : Int)), (0, (((F (O (n - 1))) : Nat) : Int))]) dX7_peel_48 (by decide) rfl rfl ?_
      refine J_aload_n dX7_peel_49 rfl ?_
      refine J_iload_n dX7_peel_50 rfl ?_
      refine J_callVv (cl := mX7_goes) [(0, (((O (n - 1)) : Nat) : Int))] [] dX7_peel_51 mlX7_342 cvX7_goes rfl rfl rfl rfl rfl (by decide) (Nat.le_of_ble_eq_true rfl) rfl (ev_X7_goes P D n F O _ (mr_upF (by decide) (mr_upF (by decide) (mr_upF (by decide) hR))) (O (n - 1)) (MR.ob hR (by omega)) (by omega)) (fun Mb hq51 => ?_)
      obtain ⟨g1, g2⟩ := hq51
      refine J_iload_n dX7_peel_54 rfl ?_
      refine J_ireturn dX7_peel_55 rfl ?_
      have hz : tPe n = 0 := by unfold tPe bT; rw [if_pos h11, if_neg (by omega)]
      rw [nw_t hz, nw_t hz, nw_t hz]
      refine ⟨by unfold A_peel; rw [if_pos hz], ?_, cm_tr cm_ref (cm_fz g2 (by decide))⟩
      rw [hz]; exact ms_mr g2 (by decide) (by decide) g1 (ms_rfE (by rw [h11]; rfl) (by decide) hS)
    ·
      refine J_aload_n dX7_peel_24 rfl ?_
      refine J_iconst dX7_peel_25 ?_
      refine J_callViQ (cl := mX7_no) [(0, 5)] [] dX7_peel_26 mlX7_168 cvX7_no rfl rfl rfl rfl rfl (by decide) (Nat.le_of_ble_eq_true rfl) rfl (ev_X7_no 5 (j_up (j_up (j_up M 23 0 0) 23 3 (-1)) 23 1 (if (decide (0 < n)) = true then 0 else 1))) ?_
      refine J_ireturn dX7_peel_29 rfl ?_
      have ht : tPe n = 5 := by unfold tPe bT; rw [if_pos h11, if_pos (by omega)]
      have hz : ¬ tPe n = 0 := by rw [ht]; decide
      rw [nw_f hz, nw_f hz, nw_f hz]
      refine ⟨by unfold A_peel; rw [if_neg hz], ?_, cm_up cm_ref⟩
      rw [ht]; exact ms_tr (by decide) (ms_ref if01 hS)
  ·
    refine J_iconst dX7_peel_14 ?_
    refine J_ireturn dX7_peel_15 rfl ?_
    have ht : tPe n = 1 := by unfold tPe bT; rw [h11]; rfl
    have hz : ¬ tPe n = 0 := by rw [ht]; decide
    rw [nw_f hz, nw_f hz, nw_f hz]
    refine ⟨by unfold A_peel; rw [if_neg hz], ?_, cm_ref⟩
    rw [ht]; exact ms_rfE (by rw [h11]; rfl) (by decide) hS
set_option maxRecDepth 100000 in
set_option maxHeartbeats 4000000 in
theorem ev_X7_move_L43 (P D n : Nat) (F O : Nat → Nat) (tl : Nat) (tb : Nat → Nat) (fa tr wh : Int) (M : jM) (hS : MS P D n F O tl tb fa tr wh M) (i : Int) (hi : -2147483648 ≤ i ∧ i < 2147483648) (j : Int) (hj : -2147483648 ≤ j ∧ j < 2147483648) (h6 : decide (0 ≤ i ∧ i < (n : Int)) = true) (h14 : decide (0 ≤ j ∧ j < (n : Int)) = true) (K0 : ∀ (M3 : jM) (f1 : Ch [26] (j_up (j_up (j_up M 23 0 0) 23 3 (-1)) 23 1 (if true = true then 0 else 1)) M3) (f2 : ∀ x : Nat, x < n → M3 26 (x : Int) = ((O (if Int.toNat i ≤ x ∧ x < Int.toNat j then x + 1 else x) : Nat) : Int)), J none 4 mX7_move 71 [(33, 0), (0, (((Int.toNat i) : Nat) : Int)), (0, (((Int.toNat j) : Nat) : Int)), (0, (((O (Int.toNat i)) : Nat) : Int)), (9, 0)] [] M3 (j_ret mX7_move (fun z M' => z = A_move n F O i j ∧ MS P D n F (nw (u1 (bV2 n i j)) (mvO O i.toNat j.toNat) O) tl tb fa (u1 (bV2 n i j)) 0 M' ∧ CM M M'))) : ∀ (fu : Nat) (M2 : jM) (k : Nat) (f1 : Ch [26] (j_up (j_up (j_up M 23 0 0) 23 3 (-1)) 23 1 (if true = true then 0 else 1)) M2) (f2 : ∀ x : Nat, x < n → M2 26 (x : Int) = ((O (if Int.toNat i ≤ x ∧ x < k then x + 1 else x) : Nat) : Int)) (f3 : Int.toNat i ≤ k ∧ (k ≤ Int.toNat j ∨ k = Int.toNat i)) (hfu : n - k < fu), J none 4 mX7_move 43 [(33, 0), (0, (((Int.toNat i) : Nat) : Int)), (0, (((Int.toNat j) : Nat) : Int)), (0, (((O (Int.toNat i)) : Nat) : Int)), (0, ((k : Nat) : Int))] [] M2 (j_ret mX7_move (fun z M' => z = A_move n F O i j ∧ MS P D n F (nw (u1 (bV2 n i j)) (mvO O i.toNat j.toNat) O) tl tb fa (u1 (bV2 n i j)) 0 M' ∧ CM M M')) := by
  intro fu
  induction fu with
  | zero => intro M2 k f1 f2 f3 hfu; exact absurd hfu (Nat.not_lt_zero _)
  | succ fu ih =>
    intro M2 k f1 f2 f3 hfu
    have hR := hS.1
    have hn12 := MR.hn hR
    have hP7 := MR.hP hR
    have hD5 := MR.hD hR
    have hi2 : Int.toNat i < n := by have := of_decide_eq_true h6; omega
    have hj2 : Int.toNat j < n := by have := of_decide_eq_true h14; omega
    refine J_iload dX7_move_43 rfl ?_
    refine J_iload_n dX7_move_45 rfl ?_
    refine J_icmp_ge (tgt := 71) dX7_move_46 rfl (j_R (by omega)) (j_R (by omega)) (fun h46 => ?_) (fun h46 => ?_)
    ·
      refine J_unset 4 (L' := [(33, 0), (0, (((Int.toNat i) : Nat) : Int)), (0, (((Int.toNat j) : Nat) : Int)), (0, (((O (Int.toNat i)) : Nat) : Int)), (9, 0)]) rfl ?_
      exact K0 _ (by exact f1) (by intro x hx; rw [f2 x hx]; by_cases e2 : Int.toNat i ≤ x ∧ x < k; rw [if_pos e2, if_pos (by omega)]; rw [if_neg e2, if_neg (by omega)])
    ·
      refine J_aload_n dX7_move_49 rfl ?_
      refine J_getR dX7_move_50 flX7_20 rfl rfl ?_
      refine J_iload dX7_move_53 rfl ?_
      refine J_aload_n dX7_move_55 rfl ?_
      refine J_getR dX7_move_56 flX7_20 rfl rfl ?_
      refine J_iload dX7_move_59 rfl ?_
      refine J_iconst dX7_move_61 ?_
      refine J_iadd dX7_move_62 (J_top (v := (((k + 1) : Nat) : Int)) (by omega) ?_)
      refine J_iald dX7_move_63 rfl (by decide) (by omega) (J_top (v := (((O (k + 1)) : Nat) : Int)) (by rw [f2 (k + 1) (by omega), if_neg (by omega)]) ?_)
      refine J_iast dX7_move_64 rfl (by decide) (by omega) ?_
      refine J_iinc (v := (((k + 1) : Nat) : Int)) (L' := [(33, 0), (0, (((Int.toNat i) : Nat) : Int)), (0, (((Int.toNat j) : Nat) : Int)), (0, (((O (Int.toNat i)) : Nat) : Int)), (0, (((k + 1) : Nat) : Int))]) dX7_move_65 rfl (by omega) (by decide) rfl rfl ?_
      refine J_goto (tgt := 43) dX7_move_68 rfl ?_
      exact ih _ _ (by exact Ch_up (by decide) f1) (by intro x hx; by_cases e : x = k; rw [e, j_up_eq, if_pos (by omega)]; rw [j_up_nz (by omega), f2 x hx]; by_cases e2 : Int.toNat i ≤ x ∧ x < k; rw [if_pos e2, if_pos (by omega)]; rw [if_neg e2, if_neg (by omega)]) (by omega) (by omega)
set_option maxRecDepth 100000 in
set_option maxHeartbeats 4000000 in
theorem ev_X7_move_L74 (P D n : Nat) (F O : Nat → Nat) (tl : Nat) (tb : Nat → Nat) (fa tr wh : Int) (M : jM) (hS : MS P D n F O tl tb fa tr wh M) (i : Int) (hi : -2147483648 ≤ i ∧ i < 2147483648) (j : Int) (hj : -2147483648 ≤ j ∧ j < 2147483648) (h6 : decide (0 ≤ i ∧ i < (n : Int)) = true) (h14 : decide (0 ≤ j ∧ j < (n : Int)) = true) : ∀ (fu : Nat) (M3 : jM) (k : Nat) (f1 : Ch [26] (j_up (j_up (j_up M 23 0 0) 23 3 (-1)) 23 1 (if true = true then 0 else 1)) M3) (f2 : ∀ x : Nat, x < n → M3 26 (x : Int) = ((O (if Int.toNat i ≤ x ∧ x < Int.toNat j then x + 1 else if k < x ∧ x ≤ Int.toNat i then x - 1 else x) : Nat) : Int)) (f3 : k ≤ Int.toNat i ∧ (Int.toNat j ≤ k ∨ k = Int.toNat i)) (hfu : k < fu), J none 4 mX7_move 74 [(33, 0), (0, (((Int.toNat i) : Nat) : Int)), (0, (((Int.toNat j) : Nat) : Int)), (0, (((O (Int.toNat i)) : Nat) : Int)), (0, ((k : Nat) : Int))] [] M3 (j_ret mX7_move (fun z M' => z = A_move n F O i j ∧ MS P D n F (nw (u1 (bV2 n i j)) (mvO O i.toNat j.toNat) O) tl tb fa (u1 (bV2 n i j)) 0 M' ∧ CM M M')) := by
  intro fu
  induction fu with
  | zero => intro M3 k f1 f2 f3 hfu; exact absurd hfu (Nat.not_lt_zero _)
  | succ fu ih =>
    intro M3 k f1 f2 f3 hfu
    have hR := hS.1
    have hn12 := MR.hn hR
    have hP7 := MR.hP hR
    have hD5 := MR.hD hR
    have hi2 : Int.toNat i < n := by have := of_decide_eq_true h6; omega
    have hj2 : Int.toNat j < n := by have := of_decide_eq_true h14; omega
    refine J_iload dX7_move_74 rfl ?_
    refine J_iload_n dX7_move_76 rfl ?_
    refine J_icmp_le (tgt := 102) dX7_move_77 rfl (j_R (by omega)) (j_R (by omega)) (fun h77 => ?_) (fun h77 => ?_)
    ·
      refine J_aload_n dX7_move_102 rfl ?_
      refine J_getR dX7_move_103 flX7_20 rfl rfl ?_
      refine J_iload_n dX7_move_106 rfl ?_
      refine J_iload_n dX7_move_107 rfl ?_
      refine J_iast dX7_move_108 rfl (by decide) (by omega) ?_
      have hfin : ∀ x : Nat, x < n → (j_up M3 26 ((Int.toNat j : Nat) : Int) ((O (Int.toNat i) : Nat) : Int)) 26 (x : Int) = ((mvO O (Int.toNat i) (Int.toNat j) x : Nat) : Int) := by
        intro x hx
        unfold mvO mvI
        by_cases e : x = Int.toNat j
        · rw [e, j_up_eq, if_neg (by omega), if_neg (by omega), if_pos rfl]
        · rw [j_up_nz (by omega), f2 x hx]
          by_cases e1 : Int.toNat i ≤ x ∧ x < Int.toNat j
          · rw [if_pos e1, if_pos e1]
          · rw [if_neg e1, if_neg e1]
            by_cases e2 : Int.toNat j < x ∧ x ≤ Int.toNat i
            · rw [if_pos e2, if_pos (by omega)]
            · rw [if_neg e2, if_neg (by omega), if_neg e]
      have hc5 := Ch_up (k := 26) (z := ((Int.toNat j : Nat) : Int)) (v := ((O (Int.toNat i) : Nat) : Int)) (by decide) f1
      have hr5 := mr_ord hc5 (by decide) (by decide) (mv_wf hR.wf hi2 hj2) hfin (mr_upF (by decide) (mr_upF (by decide) (mr_upF (by decide) hR)))
      refine J_aload_n dX7_move_109 rfl ?_
      refine J_callViQ (cl := mX7_goodMany) [] [] dX7_move_110 mlX7_272 cvX7_goodMany rfl rfl rfl rfl rfl (by decide) (Nat.le_of_ble_eq_true rfl) rfl (ev_X7_goodMany P D n F (mvO O (Int.toNat i) (Int.toNat j)) _ hr5) ?_
      refine J_ireturn dX7_move_113 rfl ?_
      have hv : bV2 n i j = true := by unfold bV2 bI; rw [h6, h14]; rfl
      rw [nw_t (u1_t hv)]
      refine ⟨by unfold A_move; rw [if_pos hv], ?_, cm_tr cm_ref (cm_ch hc5 (by decide))⟩
      rw [u1_t hv]; exact ms_mr (zs := []) (Fz_ch hc5 (by decide)) (by decide) (by decide) hr5 (ms_rfE rfl (by decide) hS)
    ·
      refine J_aload_n dX7_move_80 rfl ?_
      refine J_getR dX7_move_81 flX7_20 rfl rfl ?_
      refine J_iload dX7_move_84 rfl ?_
      refine J_aload_n dX7_move_86 rfl ?_
      refine J_getR dX7_move_87 flX7_20 rfl rfl ?_
      refine J_iload dX7_move_90 rfl ?_
      refine J_iconst dX7_move_92 ?_
      refine J_isub dX7_move_93 (J_top (v := (((k - 1) : Nat) : Int)) (by omega) ?_)
      refine J_iald dX7_move_94 rfl (by decide) (by omega) (J_top (v := (((O (k - 1)) : Nat) : Int)) (by rw [f2 (k - 1) (by omega), if_neg (by omega), if_neg (by omega)]) ?_)
      refine J_iast dX7_move_95 rfl (by decide) (by omega) ?_
      refine J_iinc (v := (((k - 1) : Nat) : Int)) (L' := [(33, 0), (0, (((Int.toNat i) : Nat) : Int)), (0, (((Int.toNat j) : Nat) : Int)), (0, (((O (Int.toNat i)) : Nat) : Int)), (0, (((k - 1) : Nat) : Int))]) dX7_move_96 rfl (by omega) (by decide) rfl rfl ?_
      refine J_goto (tgt := 74) dX7_move_99 rfl ?_
      exact ih _ _ (by exact Ch_up (by decide) f1) (by intro x hx; by_cases e : x = k; rw [e, j_up_eq, if_neg (by omega), if_pos (by omega)]; rw [j_up_nz (by omega), f2 x hx]; by_cases e2 : Int.toNat i ≤ x ∧ x < Int.toNat j; rw [if_pos e2, if_pos e2]; rw [if_neg e2, if_neg e2]; by_cases e3 : k < x ∧ x ≤ Int.toNat i; rw [if_pos e3, if_pos (by omega)]; rw [if_neg e3, if_neg (by omega)]) (by omega) (by omega)
set_option maxRecDepth 100000 in
set_option maxHeartbeats 4000000 in
theorem ev_X7_move (P D n : Nat) (F O : Nat → Nat) (tl : Nat) (tb : Nat → Nat) (fa tr wh : Int) (M : jM) (hS : MS P D n F O tl tb fa tr wh M) (i : Int) (hi : -2147483648 ≤ i ∧ i < 2147483648) (j : Int) (hj : -2147483648 ≤ j ∧ j < 2147483648) : Ev 4 mX7_move [(33, 0), (0, i), (0, j)] M (fun z M' => z = A_move n F O i j ∧ MS P D n F (nw (u1 (bV2 n i j)) (mvO O i.toNat j.toNat) O) tl tb fa (u1 (bV2 n i j)) 0 M' ∧ CM M M') := by
  refine Ev_of (by decide +kernel) (Nat.le_of_ble_eq_true rfl) (L := [(33, 0), (0, i), (0, j), (9, 0), (9, 0)]) rfl ?_
  have hR := hS.1
  have hn12 := MR.hn hR
  have hP7 := MR.hP hR
  have hD5 := MR.hD hR
  refine J_aload_n dX7_move_0 rfl ?_
  refine J_aload_n dX7_move_1 rfl ?_
  refine J_iload_n dX7_move_2 rfl ?_
  refine J_callViQ (cl := mX7_isFacet) [(0, i)] [(33, 0)] dX7_move_3 mlX7_231 cvX7_isFacet rfl rfl rfl rfl rfl (by decide) (Nat.le_of_ble_eq_true rfl) rfl (ev_X7_isFacet P D n F O M hR i (by omega)) ?_
  refine J_ifb_eq (tgt := 21) dX7_move_6 rfl (fun h6 => ?_) (fun h6 => ?_)
  ·
    refine J_iconst dX7_move_21 ?_
    refine J_callSiQ (cl := mX7_unless) [(0, ((Bool.toNat (false) : Nat) : Int))] [(33, 0)] dX7_move_22 mlX7_199 csX7_unless rfl rfl (by decide) (Nat.le_of_ble_eq_true rfl) rfl (ev_X7_unless (false) M) ?_
    refine J_callViQ (cl := mX7_isRefused) [(0, (if (false) = true then 0 else 1))] [] dX7_move_25 mlX7_159 cvX7_isRefused rfl rfl rfl rfl rfl (by decide) (Nat.le_of_ble_eq_true rfl) rfl (ev_X7_isRefused (if (false) = true then 0 else 1) (ifR _ (by decide) (by decide)) M) (J_top (v := ((Bool.toNat (!(false)) : Nat) : Int)) (rf_un _) ?_)
    refine J_ifn_eq (b := (false)) (tgt := 33) dX7_move_28 rfl (fun h28 => ?_) (fun h28 => ?_)
    · exact absurd h28 (by decide)
    ·
      refine J_iconst dX7_move_31 ?_
      refine J_ireturn dX7_move_32 rfl ?_
      have hv : bV2 n i j = false := by unfold bV2 bI; rw [h6, Bool.false_and]
      have hz : ¬ u1 (bV2 n i j) = 0 := by rw [u1_f hv]; decide
      rw [nw_f hz]
      refine ⟨by unfold A_move; rw [hv]; rfl, ?_, cm_ref⟩
      rw [u1_f hv]; exact ms_rfE rfl (by decide) hS
  ·
    refine J_aload_n dX7_move_9 rfl ?_
    refine J_iload_n dX7_move_10 rfl ?_
    refine J_callViQ (cl := mX7_isFacet) [(0, j)] [(33, 0)] dX7_move_11 mlX7_231 cvX7_isFacet rfl rfl rfl rfl rfl (by decide) (Nat.le_of_ble_eq_true rfl) rfl (ev_X7_isFacet P D n F O M hR j (by omega)) ?_
    refine J_ifb_eq (tgt := 21) dX7_move_14 rfl (fun h14 => ?_) (fun h14 => ?_)
    ·
      refine J_iconst dX7_move_21 ?_
      refine J_callSiQ (cl := mX7_unless) [(0, ((Bool.toNat (false) : Nat) : Int))] [(33, 0)] dX7_move_22 mlX7_199 csX7_unless rfl rfl (by decide) (Nat.le_of_ble_eq_true rfl) rfl (ev_X7_unless (false) M) ?_
      refine J_callViQ (cl := mX7_isRefused) [(0, (if (false) = true then 0 else 1))] [] dX7_move_25 mlX7_159 cvX7_isRefused rfl rfl rfl rfl rfl (by decide) (Nat.le_of_ble_eq_true rfl) rfl (ev_X7_isRefused (if (false) = true then 0 else 1) (ifR _ (by decide) (by decide)) M) (J_top (v := ((Bool.toNat (!(false)) : Nat) : Int)) (rf_un _) ?_)
      refine J_ifn_eq (b := (false)) (tgt := 33) dX7_move_28 rfl (fun h28 => ?_) (fun h28 => ?_)
      · exact absurd h28 (by decide)
      ·
        refine J_iconst dX7_move_31 ?_
        refine J_ireturn dX7_move_32 rfl ?_
        have hv : bV2 n i j = false := by unfold bV2 bI; rw [h14, Bool.and_false]
        have hz : ¬ u1 (bV2 n i j) = 0 := by rw [u1_f hv]; decide
        rw [nw_f hz]
        refine ⟨by unfold A_move; rw [hv]; rfl, ?_, cm_ref⟩
        rw [u1_f hv]; exact ms_rfE rfl (by decide) hS
    ·
      refine J_iconst dX7_move_17 ?_
      refine J_goto (tgt := 22) dX7_move_18 rfl ?_
      refine J_callSiQ (cl := mX7_unless) [(0, ((Bool.toNat (true) : Nat) : Int))] [(33, 0)] dX7_move_22 mlX7_199 csX7_unless rfl rfl (by decide) (Nat.le_of_ble_eq_true rfl) rfl (ev_X7_unless (true) M) ?_
      refine J_callViQ (cl := mX7_isRefused) [(0, (if (true) = true then 0 else 1))] [] dX7_move_25 mlX7_159 cvX7_isRefused rfl rfl rfl rfl rfl (by decide) (Nat.le_of_ble_eq_true rfl) rfl (ev_X7_isRefused (if (true) = true then 0 else 1) (ifR _ (by decide) (by decide)) M) (J_top (v := ((Bool.toNat (!(true)) : Nat) : Int)) (rf_un _) ?_)
      refine J_ifn_eq (b := (true)) (tgt := 33) dX7_move_28 rfl (fun h28 => ?_) (fun h28 => ?_)
      ·
        have hi2 : Int.toNat i < n := by have := of_decide_eq_true h6; omega
        have hj2 : Int.toNat j < n := by have := of_decide_eq_true h14; omega
        have hRx : MR P D n F O (j_up (j_up (j_up M 23 0 0) 23 3 (-1)) 23 1 (if true = true then 0 else 1)) := (mr_upF (by decide) (mr_upF (by decide) (mr_upF (by decide) hR)))
        refine J_eq (L' := [(33, 0), (0, (((Int.toNat i) : Nat) : Int)), (0, j), (9, 0), (9, 0)]) (by rw [Int.toNat_of_nonneg (a := i) (by have := of_decide_eq_true h6; omega)]) rfl rfl ?_
        refine J_aload_n dX7_move_33 rfl ?_
        refine J_getR dX7_move_34 flX7_20 rfl rfl ?_
        refine J_iload_n dX7_move_37 rfl ?_
        refine J_iald dX7_move_38 rfl (by decide) (MR.ix hR hi2) (J_top (v := (((O (Int.toNat i)) : Nat) : Int)) (MR.gO hRx hi2) ?_)
        refine J_eq (L' := [(33, 0), (0, (((Int.toNat i) : Nat) : Int)), (0, (((Int.toNat j) : Nat) : Int)), (9, 0), (9, 0)]) (by rw [Int.toNat_of_nonneg (a := j) (by have := of_decide_eq_true h14; omega)]) rfl rfl ?_
        refine J_istore_n (L' := [(33, 0), (0, (((Int.toNat i) : Nat) : Int)), (0, (((Int.toNat j) : Nat) : Int)), (0, (((O (Int.toNat i)) : Nat) : Int)), (9, 0)]) dX7_move_39 (by decide) rfl rfl ?_
        refine J_iload_n dX7_move_40 rfl ?_
        refine J_istore (L' := [(33, 0), (0, (((Int.toNat i) : Nat) : Int)), (0, (((Int.toNat j) : Nat) : Int)), (0, (((O (Int.toNat i)) : Nat) : Int)), (0, (((Int.toNat i) : Nat) : Int))]) dX7_move_41 (by decide) rfl rfl ?_
        refine ev_X7_move_L43 P D n F O tl tb fa tr wh M hS i hi j hj h6 h14 (fun M3 f1 f2 => ?_) _ _ _ (by exact Ch_rf) (by intro x hx; rw [if_neg (c := Int.toNat i ≤ x ∧ x < Int.toNat i) (by omega)]; exact MR.gO hRx hx) (by omega) (Nat.lt_succ_self _)
        ·
          refine J_iload_n dX7_move_71 rfl ?_
          refine J_istore (L' := [(33, 0), (0, (((Int.toNat i) : Nat) : Int)), (0, (((Int.toNat j) : Nat) : Int)), (0, (((O (Int.toNat i)) : Nat) : Int)), (0, (((Int.toNat i) : Nat) : Int))]) dX7_move_72 (by decide) rfl rfl ?_
          exact ev_X7_move_L74 P D n F O tl tb fa tr wh M hS i hi j hj h6 h14 _ _ _ (by exact f1) (by intro x hx; rw [f2 x hx]; by_cases e2 : Int.toNat i ≤ x ∧ x < Int.toNat j; rw [if_pos e2, if_pos e2]; rw [if_neg e2, if_neg e2, if_neg (by omega)]) (by omega) (Nat.lt_succ_self _)
      · exact absurd h28 (by decide)
set_option maxRecDepth 100000 in
set_option maxHeartbeats 4000000 in
theorem ev_X7_lay_L30 (P D n : Nat) (F O : Nat → Nat) (tl : Nat) (tb : Nat → Nat) (fa tr wh : Int) (M : jM) (hS : MS P D n F O tl tb fa tr wh M) (Ma : jM) (a1 : Ch [33, 34] (j_up (j_up (j_up M 23 0 0) 23 3 (-1)) 23 1 (if decide (0 < n) = true then 0 else 1)) Ma) (Mb : jM) (b1 : Ch [35] Ma Mb) (b2 : ∀ i : Nat, i < n → Mb 35 (i : Int) = lsF F n (lsA F n i)) (b3 : Mb 34 0 = ((won F n 0 : Nat) : Int)) (h4 : decide (0 < n) = true) (h15 : ¬ won F n 0 = 0) : ∀ (fu : Nat) (M2 : jM) (k : Nat) (f1 : Ch [26] Mb M2) (f2 : ∀ x : Nat, x < k → M2 26 (x : Int) = ((lyO n F x : Nat) : Int)) (f3 : k ≤ n) (hfu : n - k < fu), J none 4 mX7_lay 30 [(33, 0), (0, ((k : Nat) : Int))] [] M2 (j_ret mX7_lay (fun z M' => z = A_lay n F ∧ MS P D n F (nw (tLa n F) (lyO n F) O) tl tb fa (tLa n F) 0 M' ∧ CM M M')) := by
  intro fu
  induction fu with
  | zero => intro M2 k f1 f2 f3 hfu; exact absurd hfu (Nat.not_lt_zero _)
  | succ fu ih =>
    intro M2 k f1 f2 f3 hfu
    have hR := hS.1
    have hn12 := MR.hn hR
    have hP7 := MR.hP hR
    have hD5 := MR.hD hR
    have hly := ly_wf hR.wf (by omega : 0 < won F n 0)
    have hn8 : M2 23 8 = ((n : Nat) : Int) := by rw [f1 23 (by decide), b1 23 (by decide)]; exact MR.gn (mr_ch a1 (by decide) (by decide) (by decide) (mr_upF (by decide) (mr_upF (by decide) (mr_upF (by decide) hR))))
    refine J_iload_n dX7_lay_30 rfl ?_
    refine J_aload_n dX7_lay_31 rfl ?_
    refine J_getI dX7_lay_32 flX7_176 rfl rfl (J_top (v := ((n : Nat) : Int)) hn8 ?_)
    refine J_icmp_ge (tgt := 56) dX7_lay_35 rfl (j_R (by omega)) (j_R (by omega)) (fun h35 => ?_) (fun h35 => ?_)
    ·
      refine J_aload_n dX7_lay_56 rfl ?_
      refine J_getR dX7_lay_57 flX7_46 rfl rfl ?_
      refine J_iconst dX7_lay_60 ?_
      refine J_iald dX7_lay_61 rfl (by decide) (by omega) (J_top (v := (((won F n 0) : Nat) : Int)) (by rw [f1 34 (by decide)]; exact b3) ?_)
      refine J_ireturn dX7_lay_62 rfl ?_
      have hz : tLa n F = 0 := by unfold tLa bT; rw [if_pos h4, if_neg h15]
      rw [nw_t hz]
      have hc : Ch [26, 33, 34, 35] (j_up (j_up (j_up M 23 0 0) 23 3 (-1)) 23 1 (if decide (0 < n) = true then 0 else 1)) M2 := Ch_tr (Ch_tr (Ch_mo a1 (by decide)) (Ch_mo b1 (by decide))) (Ch_mo f1 (by decide))
      have hr5 := mr_ord hc (by decide) (by decide) hly (fun x hx => f2 x (by omega)) (mr_upF (by decide) (mr_upF (by decide) (mr_upF (by decide) hR)))
      refine ⟨by unfold A_lay; rw [if_pos hz], ?_, cm_tr cm_ref (cm_ch hc (by decide))⟩
      rw [hz]; exact ms_mr (zs := []) (Fz_ch hc (by decide)) (by decide) (by decide) hr5 (ms_rfE (by rw [h4]; rfl) (by decide) hS)
    ·
      refine J_aload_n dX7_lay_38 rfl ?_
      refine J_getR dX7_lay_39 flX7_20 rfl rfl ?_
      refine J_iload_n dX7_lay_42 rfl ?_
      refine J_aload_n dX7_lay_43 rfl ?_
      refine J_getR dX7_lay_44 flX7_49 rfl rfl ?_
      refine J_iload_n dX7_lay_47 rfl ?_
      refine J_iald dX7_lay_48 rfl (by decide) (by omega) (J_top (v := (((lyO n F k) : Nat) : Int)) (by rw [f1 35 (by decide), b2 k (by omega)]; have := lsF_nn hn12 hR.wf h15 (i := k) (by omega); unfold lyO; omega) ?_)
      refine J_iast dX7_lay_49 rfl (by decide) (by omega) ?_
      refine J_iinc (v := (((k + 1) : Nat) : Int)) (L' := [(33, 0), (0, (((k + 1) : Nat) : Int))]) dX7_lay_50 rfl (by omega) (by decide) rfl rfl ?_
      refine J_goto (tgt := 30) dX7_lay_53 rfl ?_
      exact ih _ _ (by exact Ch_up (by decide) f1) (by intro x hx; by_cases e : x = k; rw [e, j_up_eq]; rw [j_up_nz (by omega)]; exact f2 x (by omega)) (by omega) (by omega)
set_option maxRecDepth 100000 in
set_option maxHeartbeats 4000000 in
theorem ev_X7_lay (P D n : Nat) (F O : Nat → Nat) (tl : Nat) (tb : Nat → Nat) (fa tr wh : Int) (M : jM) (hS : MS P D n F O tl tb fa tr wh M) : Ev 4 mX7_lay [(33, 0)] M (fun z M' => z = A_lay n F ∧ MS P D n F (nw (tLa n F) (lyO n F) O) tl tb fa (tLa n F) 0 M' ∧ CM M M') := by
  refine Ev_of (by decide +kernel) (Nat.le_of_ble_eq_true rfl) (L := [(33, 0), (9, 0)]) rfl ?_
  have hR := hS.1
  have hn12 := MR.hn hR
  have hP7 := MR.hP hR
  have hD5 := MR.hD hR
  refine J_aload_n dX7_lay_0 rfl ?_
  refine J_callVi (cl := mX7_isLaid) [] [] dX7_lay_1 mlX7_304 cvX7_isLaid rfl rfl rfl rfl rfl (by decide) (Nat.le_of_ble_eq_true rfl) rfl (ev_X7_isLaid P D n F O M hR) (fun z1 Ma hq1 => ?_)
  obtain ⟨rfl, a1, a2⟩ := hq1
  refine J_ifb_ne (tgt := 9) dX7_lay_4 rfl (fun h4 => ?_) (fun h4 => ?_)
  ·
    refine J_aload_n dX7_lay_9 rfl ?_
    refine J_getR dX7_lay_10 flX7_46 rfl rfl ?_
    refine J_iconst dX7_lay_13 ?_
    refine J_iald dX7_lay_14 rfl (by decide) (by omega) (J_top (v := (((won F n 0) : Nat) : Int)) ((a2 h4).2 0 (Nat.two_pow_pos n)) ?_)
    refine J_if_ne (tgt := 24) dX7_lay_15 rfl (j_R (won31 F hn12 _)) (fun h15 => ?_) (fun h15 => ?_)
    ·
      refine J_aload_n dX7_lay_24 rfl ?_
      refine J_callVv (cl := mX7_laysLeast) [] [] dX7_lay_25 mlX7_307 cvX7_laysLeast rfl rfl rfl rfl rfl (by decide) (Nat.le_of_ble_eq_true rfl) rfl (ev_X7_laysLeast P D n F O Ma (mr_ch a1 (by decide) (by decide) (by decide) (mr_upF (by decide) (mr_upF (by decide) (mr_upF (by decide) hR)))) (by omega) (a2 h4).2) (fun Mb hq25 => ?_)
      obtain ⟨b1, b2⟩ := hq25
      refine J_iconst dX7_lay_28 ?_
      refine J_istore_n (L' := [(33, 0), (0, 0)]) dX7_lay_29 (by decide) rfl rfl ?_
      refine J_eq (L' := [(33, 0), (0, ((0 : Nat) : Int))]) rfl rfl rfl ?_
      exact ev_X7_lay_L30 P D n F O tl tb fa tr wh M hS Ma a1 Mb b1 b2 (by rw [b1 34 (by decide)]; exact (a2 h4).2 0 (Nat.two_pow_pos n)) h4 (by omega) _ _ _ (by exact Ch_rf) (by intro x hx; omega) (by exact Nat.zero_le _) (Nat.lt_succ_self _)
    ·
      refine J_aload_n dX7_lay_18 rfl ?_
      refine J_iconst dX7_lay_19 ?_
      refine J_callViQ (cl := mX7_no) [(0, 5)] [] dX7_lay_20 mlX7_168 cvX7_no rfl rfl rfl rfl rfl (by decide) (Nat.le_of_ble_eq_true rfl) rfl (ev_X7_no 5 Ma) ?_
      refine J_ireturn dX7_lay_23 rfl ?_
      have ht : tLa n F = 5 := by unfold tLa bT; rw [if_pos h4, if_pos (by omega)]
      have hz : ¬ tLa n F = 0 := by rw [ht]; decide
      rw [nw_f hz]
      refine ⟨by unfold A_lay; rw [if_neg hz], ?_, cm_up (cm_tr cm_ref (cm_ch a1 (by decide)))⟩
      rw [ht]; exact ms_tr (by decide) (ms_ch a1 (by decide) (by decide) (by decide) (ms_ref if01 hS))
  ·
    refine J_iconst dX7_lay_7 ?_
    refine J_ireturn dX7_lay_8 rfl ?_
    have ht : tLa n F = 1 := by unfold tLa bT; rw [h4]; rfl
    have hz : ¬ tLa n F = 0 := by rw [ht]; decide
    rw [nw_f hz]
    refine ⟨by unfold A_lay; rw [if_neg hz], ?_, cm_tr cm_ref (cm_ch a1 (by decide))⟩
    rw [ht]; exact ms_ch a1 (by decide) (by decide) (by decide) (ms_rfE (by rw [h4]; rfl) (by decide) hS)
