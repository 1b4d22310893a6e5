def PI (P D m : Nat) (R : Nat → Nat) : Prop := (P = 0 ∧ m = 0) ∨ (0 < P ∧ P ≤ 7 ∧ 0 < D ∧ D ≤ 5 ∧ D ≤ P ∧ m ≤ 12 ∧ (∀ j, j < m → R j < 2 ^ P ∧ popc (R j) = D) ∧ ∀ i j, i < m → j < m → R i = R j → i = j)
theorem lnR_pi {n : Nat} {tb : Nat → Nat} {s P D m s' P' D' m' : Nat} {R R' : Nat → Nat} (hp : PI P D m R) (h : lnR n tb s P D m R = .inr (s', P', D', m', R')) : PI P' D' m' R' ∧ 0 < P' := by
  unfold lnR at h
  split at h
  · unfold hdR at h
    split at h
    · exact absurd h (by simp)
    · rename_i hP
      have hm : m = 0 := by rcases hp with q | q <;> omega
      split at h
      · rename_i a1
        split at h
        · rename_i a2
          unfold afO at a1 a2
          simp only [Bool.and_eq_true, decide_eq_true_eq] at a1 a2
          injection h with h
          simp only [Prod.mk.injEq] at h
          obtain ⟨_, h2, h3, h4, h5⟩ := h
          subst h2; subst h3; subst h4
          refine ⟨Or.inr ⟨by omega, by omega, by omega, by omega, by omega, by omega, fun j hj => by omega, fun i j hi => by omega⟩, by omega⟩
        · exact absurd h (by simp)
      · exact absurd h (by simp)
  · split at h
    · unfold fcR at h
      split at h
      · exact absurd h (by simp)
      · rename_i m12
        split at h
        · exact absurd h (by simp)
        · rename_i hP
          split at h
          · exact absurd h (by simp)
          · split at h
            · exact absurd h (by simp)
            · rename_i hk
              split at h
              · exact absurd h (by simp)
              · rename_i hd
                injection h with h
                simp only [Prod.mk.injEq] at h
                obtain ⟨_, h2, h3, h4, h5⟩ := h
                subst h2; subst h3; subst h4; subst h5
                rcases hp with q | ⟨q1, q2, q3, q4, q5, q6, q7, q8⟩
                · omega
                · have hk' : wsK P D tb (tkP n tb (tkN n tb s)) (tkN n tb (tkN n tb s)) = true := by
                    cases e : wsK P D tb (tkP n tb (tkN n tb s)) (tkN n tb (tkN n tb s))
                    · exact absurd e hk
                    · rfl
                  unfold wsK at hk'
                  simp only [Bool.and_eq_true, beq_iff_eq] at hk'
                  have hlt := wsB_lt _ hk'.1
                  have hne : ∀ j, j < m → ¬ R j = fcS n tb (tkN n tb s) := by
                    intro j hj e
                    exact hd (anyN_iff.mpr ⟨j, hj, beq_iff_eq.mpr e⟩)
                  refine ⟨Or.inr ⟨q1, q2, q3, q4, q5, by omega, ?_, ?_⟩, q1⟩
                  · intro j hj
                    dsimp only
                    split
                    · exact ⟨hlt, hk'.2⟩
                    · exact q7 j (by omega)
                  · intro i j hi hj
                    dsimp only
                    split
                    · split
                      · intro _; omega
                      · intro e; exact absurd e.symm (hne j (by omega))
                    · split
                      · intro e; exact absurd e (hne i (by omega))
                      · intro e; exact q8 i j (by omega) (by omega) e
    · exact absurd h (by simp)
theorem psR_pi {n : Nat} {tb : Nat → Nat} : ∀ (f s P D m : Nat) (R : Nat → Nat) {s' P' D' m' : Nat} {R' : Nat → Nat}, PI P D m R → psR n tb f s P D m R = .inr (s', P', D', m', R') → PI P' D' m' R' ∧ 0 < P' ∧ 0 < m' := by
  intro f
  induction f with
  | zero => intro s P D m R s' P' D' m' R' _ h; exact absurd h (by simp [psR])
  | succ f ih =>
    intro s P D m R s' P' D' m' R' hp h
    simp only [psR] at h
    cases e : lnR n tb s P D m R with
    | inl q => rw [e] at h; exact absurd h (by simp)
    | inr q =>
      obtain ⟨s1, P1, D1, m1, R1⟩ := q
      rw [e] at h
      dsimp only at h
      have h1 := lnR_pi hp e
      unfold psB at h
      split at h
      · exact ih _ _ _ _ _ h1.1 h
      · split at h
        · exact absurd h (by simp)
        · split at h
          · injection h with h
            simp only [Prod.mk.injEq] at h
            obtain ⟨_, h2, h3, h4, h5⟩ := h
            subst h2; subst h3; subst h4; subst h5
            exact ⟨h1.1, h1.2, by assumption⟩
          · exact absurd h (by simp)
def cxR (n : Nat) (tb : Nat → Nat) : LnR := psR n tb 202 0 0 0 0 (fun _ => 0)
theorem cx_wf {n : Nat} {tb : Nat → Nat} {s P D m : Nat} {R : Nat → Nat} (h : cxR n tb = .inr (s, P, D, m, R)) : WF P D m R (fun k => k) ∧ 0 < m := by
  obtain ⟨h1, h2, h3⟩ := psR_pi 202 0 0 0 0 (fun _ => 0) (Or.inl ⟨rfl, rfl⟩) h
  rcases h1 with q | ⟨q1, q2, q3, q4, q5, q6, q7, q8⟩
  · omega
  · exact ⟨⟨q2, q4, q6, q5, q7, q8, fun i hi => hi, fun i j _ _ e => e, fun _ => ⟨q1, q3⟩, fun e => by omega⟩, h3⟩
/-- what complex answers, and leaves -/
def CxQ (St : Nat → Nat → Nat → (Nat → Nat) → (Nat → Nat) → Nat → Int → Int → Int → jM → Prop) (P D n : Nat) (F O : Nat → Nat) (tl : Nat) (tb : Nat → Nat) (fa : Int) (i z : Int) (M' : jM) : Prop :=
  if 0 ≤ i ∧ i ≤ (tl : Int) then (match cxR i.toNat tb with
    | .inl (f, p) => z = -1 ∧ St P D n F O 0 (f : Int) 4 (p : Int) M'
    | .inr (_, P', D', m', R') => z = (m' : Int) ∧ St P' D' m' R' (fun k => k) 0 0 0 0 M')
  else z = -1 ∧ St P D n F O tl fa 2 0 M'
theorem psq_inl {M M' : jM} {r : LnR} {z : Int} (h : PsQ M r z M') (hz : z = 0) : ∃ f p : Nat, r = .inl (f, p) ∧ M' 23 17 = (f : Int) ∧ M' 23 18 = (p : Int) := by
  obtain ⟨-, h⟩ := h
  match r, h with
  | .inl (f, p), h => exact ⟨f, p, rfl, h.2.1, h.2.2⟩
  | .inr (s, P, D, m, R), h => exact absurd (h.1.symm.trans hz) (by decide)
theorem psq_inr {M M' : jM} {r : LnR} {z : Int} (h : PsQ M r z M') (hz : ¬ z = 0) : ∃ (s P D m : Nat) (R : Nat → Nat), r = .inr (s, P, D, m, R) ∧ M' 23 19 = (P : Int) ∧ M' 23 20 = (D : Int) ∧ M' 23 21 = (m : Int) ∧ (P ≤ 7 ∧ D ≤ 5 ∧ m ≤ 12) ∧ ∀ j : Nat, j < m → M' 27 (j : Int) = (R j : Int) ∧ R j < 128 := by
  obtain ⟨-, h⟩ := h
  match r, h with
  | .inl (f, p), h => exact absurd h.1 hz
  | .inr (s, P, D, m, R), h => exact ⟨s, P, D, m, R, rfl, h.2.1, h.2.2.1, h.2.2.2.1, h.2.2.2.2⟩
set_option maxRecDepth 100000 in
set_option maxHeartbeats 4000000 in
theorem ev_X7_complex_L92 (P D n : Nat) (F O : Nat → Nat) (tl : Nat) (tb : Nat → Nat) (fa tr wh : Int) (M : jM) (hS : MS P D n F O tl tb fa tr wh M) (i : Int) (hi : -2147483648 ≤ i ∧ i < 2147483648) (Mc : jM) (P2 D2 m2 : Nat) (R2 : Nat → Nat) (c8 : Mc 23 8 = ((m2 : Nat) : Int)) (hm2 : m2 ≤ 12) (c27 : ∀ j : Nat, j < m2 → Mc 27 (j : Int) = (R2 j : Int) ∧ R2 j < 128) (cQ : ∀ M2 : jM, Ch [25, 26] Mc M2 → (∀ j : Nat, j < m2 → M2 25 (j : Int) = (R2 j : Int) ∧ M2 26 (j : Int) = (j : Int)) → CxQ (fun P D n F O tl fa tr wh M' => MS P D n F O tl tb fa tr wh M') P D n F O tl tb fa i ((m2 : Nat) : Int) (j_up M2 23 11 1) ∧ CM M (j_up M2 23 11 1)) : ∀ (fu : Nat) (M2 : jM) (k : Nat) (g1 : Ch [25, 26] Mc M2) (g2 : ∀ j : Nat, j < k → M2 25 (j : Int) = (R2 j : Int) ∧ M2 26 (j : Int) = (j : Int)) (g3 : k ≤ m2) (hfu : m2 - k < fu), J none 9 mX7_complex 92 [(33, 0), (0, i), (0, ((k : Nat) : Int))] [] M2 (j_ret mX7_complex (fun z M' => CxQ (fun P D n F O tl fa tr wh M' => MS P D n F O tl tb fa tr wh M') P D n F O tl tb fa i z M' ∧ CM M M')) := by
  intro fu
  induction fu with
  | zero => intro M2 k g1 g2 g3 hfu; exact absurd hfu (Nat.not_lt_zero _)
  | succ fu ih =>
    intro M2 k g1 g2 g3 hfu
    have hR := hS.1
    have hn12 := MR.hn hR
    have hP7 := MR.hP hR
    have hD5 := MR.hD hR
    have htl := hS.2.2.2.2.2.1
    have j27 : M2 27 = Mc 27 := g1 27 (by decide)
    refine J_iload_n dX7_complex_92 rfl ?_
    refine J_aload_n dX7_complex_93 rfl ?_
    refine J_getI dX7_complex_94 flX7_176 rfl rfl (J_top (v := ((m2 : Nat) : Int)) (by rw [g1 23 (by decide)]; exact c8) ?_)
    refine J_icmp_ge (tgt := 125) dX7_complex_97 rfl (j_R (by omega)) (j_R (by omega)) (fun h97 => ?_) (fun h97 => ?_)
    ·
      refine J_aload_n dX7_complex_125 rfl ?_
      refine J_iconst dX7_complex_126 ?_
      refine J_putI dX7_complex_127 flX7_179 rfl rfl (Or.inr ⟨rfl, Or.inr rfl⟩) ?_
      refine J_aload_n dX7_complex_130 rfl ?_
      refine J_getI dX7_complex_131 flX7_176 rfl rfl (J_top (v := ((m2 : Nat) : Int)) (ru_nz (by decide) (by rw [g1 23 (by decide)]; exact c8)) ?_)
      refine J_ireturn dX7_complex_134 rfl ?_
      exact cQ M2 g1 (fun j hj => g2 j (by omega))
    ·
      refine J_aload_n dX7_complex_100 rfl ?_
      refine J_getR dX7_complex_101 flX7_17 rfl rfl ?_
      refine J_iload_n dX7_complex_104 rfl ?_
      refine J_aload_n dX7_complex_105 rfl ?_
      refine J_getR dX7_complex_106 flX7_23 rfl rfl ?_
      refine J_iload_n dX7_complex_109 rfl ?_
      refine J_iald dX7_complex_110 rfl (by decide) (by omega) (J_top (v := (((R2 k) : Nat) : Int)) (by rw [j27]; exact (c27 k (by omega)).1) ?_)
      refine J_iast dX7_complex_111 rfl (by decide) (by omega) ?_
      refine J_aload_n dX7_complex_112 rfl ?_
      refine J_getR dX7_complex_113 flX7_20 rfl rfl ?_
      refine J_iload_n dX7_complex_116 rfl ?_
      refine J_iload_n dX7_complex_117 rfl ?_
      refine J_iast dX7_complex_118 rfl (by decide) (by omega) ?_
      refine J_iinc (v := (((k + 1) : Nat) : Int)) (L' := [(33, 0), (0, i), (0, (((k + 1) : Nat) : Int))]) dX7_complex_119 rfl (by omega) (by decide) rfl rfl ?_
      refine J_goto (tgt := 92) dX7_complex_122 rfl ?_
      exact ih _ _ (by exact Ch_up (by decide) (Ch_up (by decide) g1)) (by intro j hj; by_cases e : j = k; rw [e]; exact ⟨by rw [j_up_ne (by decide), j_up_eq], by rw [j_up_eq]⟩; have h9 := g2 j (by omega); exact ⟨by rw [j_up_ne (by decide), j_up_nz (by omega)]; exact h9.1, by rw [j_up_nz (by omega), j_up_ne (by decide)]; exact h9.2⟩) (by omega) (by omega)
set_option maxRecDepth 100000 in
set_option maxHeartbeats 4000000 in
theorem ev_X7_complex (P D n : Nat) (F O : Nat → Nat) (tl : Nat) (tb : Nat → Nat) (fa tr wh : Int) (M : jM) (hS : MS P D n F O tl tb fa tr wh M) (i : Int) (hi : -2147483648 ≤ i ∧ i < 2147483648) : Ev 9 mX7_complex [(33, 0), (0, i)] M (fun z M' => CxQ (fun P D n F O tl fa tr wh M' => MS P D n F O tl tb fa tr wh M') P D n F O tl tb fa i z M' ∧ CM M M') := by
  refine Ev_of (by decide +kernel) (Nat.le_of_ble_eq_true rfl) (L := [(33, 0), (0, i), (9, 0)]) rfl ?_
  have hR := hS.1
  have hn12 := MR.hn hR
  have hP7 := MR.hP hR
  have hD5 := MR.hD hR
  have htl := hS.2.2.2.2.2.1
  refine J_aload_n dX7_complex_0 rfl ?_
  refine J_iload_n dX7_complex_1 rfl ?_
  refine J_iconst dX7_complex_2 ?_
  refine J_aload_n dX7_complex_3 rfl ?_
  refine J_getI dX7_complex_4 flX7_61 rfl rfl (J_top (v := ((tl : Nat) : Int)) hS.2.2.2.2.1 ?_)
  refine J_callSiQ (cl := mX7_in) [(0, i), (0, 0), (0, ((tl : Nat) : Int))] [(33, 0)] dX7_complex_7 mlX7_84 csX7_in rfl rfl (by decide) (Nat.le_of_ble_eq_true rfl) rfl (ev_X7_in i 0 ((tl : Nat) : Int) (by omega) (by decide) (j_R (by omega)) M) ?_
  refine J_ifb_eq (tgt := 17) dX7_complex_10 rfl (fun h10 => ?_) (fun h10 => ?_)
  ·
    refine J_iconst dX7_complex_17 ?_
    refine J_callViQ (cl := mX7_isRefused) [(0, 2)] [] dX7_complex_18 mlX7_159 cvX7_isRefused rfl rfl rfl rfl rfl (by decide) (Nat.le_of_ble_eq_true rfl) rfl (ev_X7_isRefused 2 (by decide) M) ?_
    refine J_ifb_eq (tgt := 26) dX7_complex_21 rfl (fun h21 => ?_) (fun h21 => ?_)
    · exact absurd h21 (by decide)
    ·
      refine J_iconst dX7_complex_24 ?_
      refine J_ireturn dX7_complex_25 rfl ?_
      have h9 := of_decide_eq_false h10
      refine ⟨?_, cm_ref⟩
      unfold CxQ
      rw [if_neg h9]
      exact ⟨rfl, ms_ref (by decide) hS⟩
  ·
    refine J_iconst dX7_complex_13 ?_
    refine J_goto (tgt := 18) dX7_complex_14 rfl ?_
    refine J_callViQ (cl := mX7_isRefused) [(0, 0)] [] dX7_complex_18 mlX7_159 cvX7_isRefused rfl rfl rfl rfl rfl (by decide) (Nat.le_of_ble_eq_true rfl) rfl (ev_X7_isRefused 0 (by decide) M) ?_
    refine J_ifb_eq (tgt := 26) dX7_complex_21 rfl (fun h21 => ?_) (fun h21 => ?_)
    ·
      refine J_aload_n dX7_complex_26 rfl ?_
      refine J_iconst dX7_complex_27 ?_
      refine J_putI dX7_complex_28 flX7_61 rfl rfl (Or.inl rfl) ?_
      refine J_aload_n dX7_complex_31 rfl ?_
      refine J_iconst dX7_complex_32 ?_
      refine J_putI dX7_complex_33 flX7_162 rfl rfl (Or.inl rfl) ?_
      refine J_aload_n dX7_complex_36 rfl ?_
      refine J_iload_n dX7_complex_37 rfl (J_top (v := (((Int.toNat i) : Nat) : Int)) (by have := of_decide_eq_true h10; omega) ?_)
      refine J_callVi (cl := mX7_readAll) [(0, (((Int.toNat i) : Nat) : Int))] [] dX7_complex_38 mlX7_165 cvX7_readAll rfl rfl rfl rfl rfl (by decide) (Nat.le_of_ble_eq_true rfl) rfl (ev_X7_readAll (Int.toNat i) tb (j_up (j_up (j_up (j_up (j_up M 23 0 0) 23 3 (-1)) 23 1 0) 23 5 0) 23 2 0) (by have := of_decide_eq_true h10; omega) (fun x hx => by have h9 := hS.2.2.2.2.2.2 x (by have := of_decide_eq_true h10; omega); exact ⟨by rw [j_up_ne (by decide), j_up_ne (by decide), j_up_ne (by decide), j_up_ne (by decide), j_up_ne (by decide)]; exact h9.1, h9.2⟩)) (fun z38 Mb hq38 => ?_)
      have hq := hq38
      refine J_if_ne (tgt := 66) dX7_complex_41 rfl (by rcases psq01 hq with e | e <;> omega) (fun h41 => ?_) (fun h41 => ?_)
      ·
        obtain ⟨s2, P2, D2, m2, R2, e0, e1, e2, e3, e4, e5⟩ := psq_inr hq h41
        refine J_aload_n dX7_complex_66 rfl ?_
        refine J_aload_n dX7_complex_67 rfl ?_
        refine J_getI dX7_complex_68 flX7_118 rfl rfl (J_top (v := ((P2 : Nat) : Int)) e1 ?_)
        refine J_putI dX7_complex_71 flX7_171 rfl rfl (Or.inl rfl) ?_
        refine J_aload_n dX7_complex_74 rfl ?_
        refine J_aload_n dX7_complex_75 rfl ?_
        refine J_getI dX7_complex_76 flX7_129 rfl rfl (J_top (v := ((D2 : Nat) : Int)) (ru_nz (by decide) e2) ?_)
        refine J_putI dX7_complex_79 flX7_173 rfl rfl (Or.inl rfl) ?_
        refine J_aload_n dX7_complex_82 rfl ?_
        refine J_aload_n dX7_complex_83 rfl ?_
        refine J_getI dX7_complex_84 flX7_139 rfl rfl (J_top (v := ((m2 : Nat) : Int)) (ru_nz (by decide) (ru_nz (by decide) e3)) ?_)
        refine J_putI dX7_complex_87 flX7_176 rfl rfl (Or.inl rfl) ?_
        have cQ : ∀ M2 : jM, Ch [25, 26] (j_up (j_up (j_up Mb 23 6 ((P2 : Nat) : Int)) 23 7 ((D2 : Nat) : Int)) 23 8 ((m2 : Nat) : Int)) M2 → (∀ j : Nat, j < m2 → M2 25 (j : Int) = (R2 j : Int) ∧ M2 26 (j : Int) = (j : Int)) → CxQ (fun P D n F O tl fa tr wh M' => MS P D n F O tl tb fa tr wh M') P D n F O tl tb fa i ((m2 : Nat) : Int) (j_up M2 23 11 1) ∧ CM M (j_up M2 23 11 1) := by
          intro M2 k1 k2
          have hi9 := of_decide_eq_true h10
          obtain ⟨wf, hm0⟩ := cx_wf (n := Int.toNat i) (tb := tb) (by unfold cxR; exact e0)
          have hz : ∀ z : Int, z ∉ [(6 : Int), 7, 8, 11, 12, 13, 14, 15, 16, 17, 18, 19, 20, 21] → (j_up M2 23 11 1) 23 z = (j_up (j_up (j_up (j_up (j_up M 23 0 0) 23 3 (-1)) 23 1 0) 23 5 0) 23 2 0) 23 z := by
            intro z hz
            rw [j_up_nz (fun q => hz (by rw [q]; decide)), k1 23 (by decide), j_up_nz (fun q => hz (by rw [q]; decide)), j_up_nz (fun q => hz (by rw [q]; decide)), j_up_nz (fun q => hz (by rw [q]; decide))]
            exact hq.1.2 z (fun q => hz (by simp at q ⊢; omega))
          refine ⟨?_, ?_⟩
          · unfold CxQ
            rw [if_pos hi9]
            unfold cxR
            rw [e0]
            refine ⟨rfl, ⟨wf, ?_, ?_, ?_, ?_, ?_, ?_⟩, ?_, ?_, fun q => absurd q (by decide), ?_, Nat.zero_le _, fun x hx => absurd hx (Nat.not_lt_zero _)⟩
            · rw [j_up_nz (by decide), k1 23 (by decide), j_up_nz (by decide), j_up_nz (by decide), j_up_eq]
            · rw [j_up_nz (by decide), k1 23 (by decide), j_up_nz (by decide), j_up_eq]
            · rw [j_up_nz (by decide), k1 23 (by decide), j_up_eq]
            · rw [j_up_eq, decide_eq_true hm0]; rfl
            · intro x hx; rw [j_up_ne (by decide)]; exact (k2 x hx).1
            · intro x hx; rw [j_up_ne (by decide)]; exact (k2 x hx).2
            · rw [hz 1 (by decide), j_up_nz (by decide), j_up_nz (by decide), j_up_eq]
            · rw [hz 2 (by decide), j_up_eq]
            · rw [hz 5 (by decide), j_up_nz (by decide), j_up_eq]; rfl
          · exact cm_up (cm_tr (cm_up (cm_up (cm_up (cm_tr (cm_up (cm_up cm_ref)) (cm_fz hq.1 (by decide)))))) (cm_ch k1 (by decide)))
        refine J_iconst dX7_complex_90 ?_
        refine J_istore_n (L' := [(33, 0), (0, i), (0, 0)]) dX7_complex_91 (by decide) rfl rfl ?_
        refine J_eq (L' := [(33, 0), (0, i), (0, ((0 : Nat) : Int))]) rfl rfl rfl ?_
        exact ev_X7_complex_L92 P D n F O tl tb fa tr wh M hS i hi (j_up (j_up (j_up Mb 23 6 ((P2 : Nat) : Int)) 23 7 ((D2 : Nat) : Int)) 23 8 ((m2 : Nat) : Int)) P2 D2 m2 R2 j_up_eq e4.2.2 (fun j hj => by rw [j_up_ne (by decide), j_up_ne (by decide), j_up_ne (by decide)]; exact e5 j hj) cQ _ _ _ (by exact Ch_rf) (by intro j hj; omega) (by exact Nat.zero_le _) (Nat.lt_succ_self _)
      ·
        obtain ⟨f, p, e0, e1, e2⟩ := psq_inl hq h41
        refine J_aload_n dX7_complex_44 rfl ?_
        refine J_aload_n dX7_complex_45 rfl ?_
        refine J_getI dX7_complex_46 flX7_101 rfl rfl (J_top (v := ((f : Nat) : Int)) e1 ?_)
        refine J_putI dX7_complex_49 flX7_162 rfl rfl (Or.inl rfl) ?_
        refine J_aload_n dX7_complex_52 rfl ?_
        refine J_aload_n dX7_complex_53 rfl ?_
        refine J_getI dX7_complex_54 flX7_104 rfl rfl (J_top (v := ((p : Nat) : Int)) (ru_nz (by decide) e2) ?_)
        refine J_putI dX7_complex_57 flX7_9 rfl rfl (Or.inl rfl) ?_
        refine J_aload_n dX7_complex_60 rfl ?_
        refine J_iconst dX7_complex_61 ?_
        refine J_callViQ (cl := mX7_no) [(0, 4)] [] dX7_complex_62 mlX7_168 cvX7_no rfl rfl rfl rfl rfl (by decide) (Nat.le_of_ble_eq_true rfl) rfl (ev_X7_no 4 (j_up (j_up Mb 23 2 ((f : Nat) : Int)) 23 3 ((p : Nat) : Int))) ?_
        refine J_ireturn dX7_complex_65 rfl ?_
        have hi9 := of_decide_eq_true h10
        refine ⟨?_, cm_up (cm_up (cm_up (cm_tr (cm_up (cm_up cm_ref)) (cm_fz hq.1 (by decide)))))⟩
        unfold CxQ
        rw [if_pos hi9]
        unfold cxR
        rw [e0]
        refine ⟨rfl, mr_upF (by decide) (mr_upF (by decide) (mr_upF (by decide) (mr_fz hq.1 (by decide) (by decide) (mr_upF (by decide) (mr_upF (by decide) (mr_upF (by decide) (mr_upF (by decide) (mr_upF (by decide) hR)))))))), j_up_eq, ?_, fun _ => ?_, ?_, Nat.zero_le _, fun x hx => absurd hx (Nat.not_lt_zero _)⟩
        · rw [j_up_nz (by decide), j_up_nz (by decide), j_up_eq]
        · rw [j_up_nz (by decide), j_up_eq]
        · rw [j_up_nz (by decide), j_up_nz (by decide), j_up_nz (by decide), hq.1.2 5 (by decide), j_up_nz (by decide), j_up_eq]; rfl
    · exact absurd h21 (by decide)
