/-! the law's loop -/
theorem ms_lt {P D n : Nat} {F O : Nat → Nat} {tl : Nat} {tb : Nat → Nat} {fa tr wh : Int} {M M' : jM} (hc : ∀ k : Nat, 23 ≤ k → k < 37 → M' k = M k) (h : MS P D n F O tl tb fa tr wh M) : MS P D n F O tl tb fa tr wh M' := by
  unfold MS MR at h ⊢
  rw [hc 23 (by decide) (by decide), hc 24 (by decide) (by decide), hc 25 (by decide) (by decide), hc 26 (by decide) (by decide)]
  exact h
theorem ks_lt {P D n : Nat} {F O : Nat → Nat} {tl : Nat} {tb : Nat → Nat} {fa tr wh : Int} {M M' : jM} (e : ∀ k : Nat, k < 23 → M' k = M k) (h : KS P D n F O tl tb fa tr wh M) : KS P D n F O tl tb fa tr wh M' := by
  unfold KS KR KF KT CC OQ ORD SQ SHD MI bitB at h ⊢
  simp only [e 0 (by decide), e 1 (by decide), e 2 (by decide), e 4 (by decide), e 5 (by decide), e 6 (by decide), e 7 (by decide), e 8 (by decide), e 10 (by decide), e 12 (by decide), e 16 (by decide), e 17 (by decide), e 18 (by decide), e 19 (by decide), e 20 (by decide), e 21 (by decide), e 22 (by decide)]
  exact h
theorem up37 {M : jM} {v : Int} {k : Nat} (h : ¬ k = 37) : j_up M 37 0 v k = M k := by
  unfold j_up
  rw [if_neg h]
theorem cmp_self (a : Int) : j_cmp a a = 0 := by
  unfold j_cmp
  rw [if_neg (by omega), if_pos rfl]
section LWB
variable {N : Nat} {xs : Nat → Int} {i : Nat} {M : jM}
def lwY (i : Nat) : jX := fun pc L st M => pc = 23 ∧ L = lwL (i + 6) ∧ st = [] ∧ SY M
theorem lw_inc2 (hs : SY M) : J (some (N, xs)) 60 mL_law 1636 (lwL i) [] M (lwY i) := by
  refine J_iinc (L' := lwL (i + 6)) (v := ((i + 6 : Nat) : Int)) dL_law_1636 rfl (by omega) (by decide) rfl rfl ?_
  refine J_goto (tgt := 23) dL_law_1639 rfl ?_
  exact J_exit ⟨rfl, rfl, rfl, hs⟩
theorem lw_bhead (hN : N ≤ 3072) (hi : i + 6 ≤ N) : J (some (N, xs)) 60 mL_law 1554 (lwL i) [] M (fun pc L st M' => pc = 1562 ∧ L = lwL i ∧ st = [(47, 0), (0, xs (((i : Int) + 1).toNat)), (10, 0)] ∧ M' = M) := by
  refine J_aload_n dL_law_1554 rfl ?_
  refine J_aload_nS dL_law_1555 rfl ?_
  refine J_iload dL_law_1556 rfl ?_
  refine J_iconst dL_law_1558 ?_
  refine J_iadd dL_law_1559 ?_
  refine J_sld dL_law_1560 rfl (by omega) ⟨by omega, by omega⟩ ?_
  refine J_aload_n dL_law_1561 rfl ?_
  exact J_exit ⟨rfl, rfl, rfl, rfl⟩
set_option maxHeartbeats 4000000 in
set_option maxRecDepth 100000 in
theorem lw_btail {P D n : Nat} {F O : Nat → Nat} {tl : Nat} {tb : Nat → Nat} {fa tr wh : Int} (hm : MS P D n F O tl tb fa tr wh M) (hk : KS P D n F O tl tb fa tr wh M) (hr : trR tr) (hN : N ≤ 3072) (hx : ∀ j, -2147483648 ≤ xs j ∧ xs j < 2147483648) (hi : i + 6 ≤ N) (k : Int) (hkk : (A_breaks n F O (xs (((i : Int) + 1).toNat)) = -1 ∧ k = 1) ∨ (¬ A_breaks n F O (xs (((i : Int) + 1).toNat)) = -1 ∧ k = 0 ∧ M 37 0 = A_breaks n F O (xs (((i : Int) + 1).toNat)))) : J (some (N, xs)) 60 mL_law 1565 (lwL i) [(0, k)] M (lwY i) := by
  have hk01 : k = 0 ∨ k = 1 := by rcases hkk with h | h; exact Or.inr h.2; exact Or.inl h.2.1
  have hkR : -2147483648 ≤ k ∧ k < 2147483648 := by omega
  have hAR := nthK hk.1 (fun k => !jnA F O k) (xs (((i : Int) + 1).toNat))
  refine J_istore (L' := [(5, 0), (10, 0), (33, 0), (47, 0), (0, (i : Int)), (0, k), (9, 0), (9, 0), (9, 0)]) dL_law_1565 (by decide) rfl rfl ?_
  refine J_aload_n dL_law_1567 rfl ?_
  refine J_aload_nS dL_law_1568 rfl ?_
  refine J_iload dL_law_1569 rfl ?_
  refine J_iconst dL_law_1571 ?_
  refine J_iadd dL_law_1572 ?_
  refine J_sld dL_law_1573 rfl (by omega) ⟨by omega, by omega⟩ ?_
  refine J_callVi (cl := mX7_breaks) [(0, xs (((i : Int) + 1).toNat))] [] dL_law_1574 mlL_244 cvX7_breaks rfl rfl rfl rfl rfl (by decide) (Nat.le_of_ble_eq_true rfl) rfl (ev_X7_breaks P D n F O tl tb fa tr wh M hm (xs (((i : Int) + 1).toNat)) (hx _)) (fun zb Mb q => ?_)
  obtain ⟨ez, e23, m2, m1⟩ := q
  have sy : SY Mb := ⟨_, _, _, _, _, _, _, _, _, _, m2, ks_cm m1 hk, hr⟩
  have fg : ∀ (q : Nat) (v : jV), (lwL i)[q]? = some v → v.1 = 9 ∨ ([(5, 0), (10, 0), (33, 0), (47, 0), (0, (i : Int)), (0, k), (0, zb), (9, 0), (9, 0)] : List jV)[q]? = some v := by
    intro q v h
    match q, h with
    | 0, h => exact Or.inr h
    | 1, h => exact Or.inr h
    | 2, h => exact Or.inr h
    | 3, h => exact Or.inr h
    | 4, h => exact Or.inr h
    | 5, h => exact Or.inl (by cases h; rfl)
    | 6, h => exact Or.inl (by cases h; rfl)
    | 7, h => exact Or.inl (by cases h; rfl)
    | 8, h => exact Or.inl (by cases h; rfl)
  have fin : J (some (N, xs)) 60 mL_law 1607 [(5, 0), (10, 0), (33, 0), (47, 0), (0, (i : Int)), (0, k), (0, zb), (9, 0), (9, 0)] [] Mb (lwY i) := by
    refine J_goto (tgt := 1636) dL_law_1607 rfl ?_
    exact J_forget fg (lw_inc2 sy)
  refine J_istore (L' := [(5, 0), (10, 0), (33, 0), (47, 0), (0, (i : Int)), (0, k), (0, zb), (9, 0), (9, 0)]) dL_law_1577 (by decide) rfl rfl ?_
  refine J_aload_n dL_law_1579 rfl ?_
  refine J_callViQ (cl := mX7_thrown) [] [] dL_law_1580 mlL_245 cvX7_thrown rfl rfl rfl rfl rfl (by decide) (Nat.le_of_ble_eq_true rfl) rfl (ev_X7_thrown Mb) ?_
  refine J_iload dL_law_1583 rfl ?_
  refine J_icmp_eqT (tgt := 1590) dL_law_1585 rfl ?_ ?_
  · rw [e23]
    rcases hkk with h | h
    · rw [if_pos h.1, h.2]
    · rw [if_neg h.1, h.2.1]
  refine J_iload dL_law_1590 rfl ?_
  refine J_if_ne (tgt := 1607) dL_law_1592 rfl hkR (fun _ => fin) (fun h0 => ?_)
  have hz : ¬ A_breaks n F O (xs (((i : Int) + 1).toNat)) = -1 ∧ M 37 0 = A_breaks n F O (xs (((i : Int) + 1).toNat)) := by
    rcases hkk with h | h
    · omega
    · exact ⟨h.1, h.2.2⟩
  have ezz : zb = A_breaks n F O (xs (((i : Int) + 1).toNat)) := by rw [ez, if_neg hz.1]
  have e37 : Mb 37 0 = zb := by rw [m1 37 (Or.inr rfl), hz.2, ezz]
  have hzR : -2147483648 ≤ zb ∧ zb < 2147483648 := by rw [ezz]; exact hAR
  refine J_aload_n dL_law_1595 rfl ?_
  refine J_iconst dL_law_1596 ?_
  refine J_lald dL_law_1597 rfl (by decide) (by decide) ?_
  rw [e37]
  refine J_iload dL_law_1598 rfl ?_
  refine J_i2l dL_law_1600 hzR ?_
  refine J_lcmp dL_law_1601 ⟨by omega, by omega⟩ ⟨by omega, by omega⟩ ?_
  rw [cmp_self]
  exact J_if_eq (tgt := 1607) dL_law_1602 rfl (by decide) (fun _ => fin) (fun q => absurd rfl q)
theorem lw_done (hN : N ≤ 3072) (hi : N < i + 6) (hi2 : i ≤ N + 6) : J (some (N, xs)) 60 mL_law 23 (lwL i) [] M (fun pc _ st _ => pc = 1642 ∧ st = []) := by
  refine J_iload dL_law_23 rfl ?_
  refine J_aload_nS dL_law_25 rfl ?_
  refine J_slen (nz := (N : Int)) dL_law_26 rfl rfl ?_
  refine J_bipush dL_law_27 (by decide) ?_
  refine J_isub dL_law_29 ?_
  refine J_icmp_gt (tgt := 1642) dL_law_30 rfl ⟨by omega, by omega⟩ ⟨by omega, by omega⟩ (fun _ => ?_) (fun h => absurd h (by omega))
  exact J_exit ⟨rfl, rfl⟩
end LWB
theorem jx_lk : Cond.methodLink RL 239 yL_breaks ∈ j_all := j_mem 1056 (by decide +kernel) (by decide +kernel)
theorem jx_sL : Cond.static yL_breaks ∈ j_all := j_mem 1057 (by decide +kernel) (by decide +kernel)
theorem jx_cL : Cond.codeWith yL_breaks cL_breaks 4 (some .int) [(0, 9, 12, 13)] ∈ j_all := j_mem 1058 (by decide +kernel) (by decide +kernel)
theorem jx_iL : Cond.initialized RL ∈ j_all := j_mem 97 (by decide +kernel) (by decide +kernel)
theorem jx_goodL : GoodIn j_all jx_wsL := by
  intro w hw
  rcases List.mem_cons.mp hw with hw | hw
  · subst hw
    exact ⟨jx_cL, j_all_good jx_cL⟩
  · exact ⟨hw, j_all_good hw⟩
theorem jx_n3 : (parseMethodDescriptor yL_breaks.desc).map (fun d => d.parameters.length) = some 3 := by decide +kernel
set_option maxHeartbeats 4000000 in
set_option maxRecDepth 100000 in
theorem lw_loop {p : Program} {l : Launch} {e : Env} {R : Room} {s : State} {m : MethodId} {args : Array Value} {below : List Frame} {meth : Method} {c : Code} {Q : State → Prop} {E : jE} {A : Nat → Prop} {N : Nat} {xs : Nat → Int}
    (hfix : ∀ cells slots : Nat, cells ≤ R.cells → slots ≤ R.slots → j_fix 60 mL_law p R s m args c cells slots E A) (hlt : l.stackTraces = false) (hxs : jx_st E A s s.heap) (hsc : j_scr E (some (N, xs)) A s) (hN : N ≤ 3072) (hx : ∀ j, -2147483648 ≤ xs j ∧ xs j < 2147483648)
    (hend : ∀ (cells slots : Nat) (H : Heap) (locs : List Loc) (ls : Array Slot), cells ≤ R.cells → slots ≤ R.slots → va_S A s.heap H locs → W p l e R s m args below meth c H locs cells slots Q (F0 m 1642 ls [])) :
    ∀ (fu i : Nat) (M : jM) (cells slots : Nat) (H : Heap) (locs : List Loc) (ls : Array Slot), N < i + fu → i ≤ N + 6 → cells + fu ≤ R.cells → slots + 6 * fu ≤ R.slots → SY M → j_H E A s M H locs → j_L E 9 (lwL i) ls → W p l e R s m args below meth c H locs cells slots Q (F0 m 23 ls []) := by
  intro fu
  induction fu with
  | zero =>
    intro i M cells slots H locs ls h1 h2 h3 h4 hs hH hL
    refine lw_done (M := M) hN (by omega) h2 p l e R s m args below meth c cells slots Q E A (hfix cells slots (by omega) (by omega)) hsc ?_ H locs ls hH hL
    intro pc' L' st' M' H' locs' ls' hX hH' hL'
    obtain ⟨rfl, rfl⟩ := hX
    exact hend cells slots H' locs' ls' (by omega) (by omega) hH'.2.2
  | succ fu ih =>
    intro i M cells slots H locs ls h1 h2 h3 h4 hs hH hL
    by_cases h6 : i + 6 ≤ N
    · refine lw_step hN hx h6 hs p l e R s m args below meth c cells slots Q E A (hfix cells slots (by omega) (by omega)) hsc ?_ H locs ls hH hL
      intro pc' L' st' M1 H1 locs1 ls1 hX hH1 hL1
      obtain ⟨rfl, ⟨rfl, rfl, hs1⟩ | ⟨rfl, rfl, hs1⟩⟩ := hX
      · exact ih (i + 6) M1 cells slots H1 locs1 ls1 (by omega) (by omega) (by omega) (by omega) hs1 hH1 hL1
      · refine lw_bhead hN h6 p l e R s m args below meth c cells slots Q E A (hfix cells slots (by omega) (by omega)) hsc ?_ H1 locs1 ls1 hH1 hL1
        intro pc2 L2 st2 M2 H2 locs2 ls2 hX2 hH2 hL2
        obtain ⟨rfl, rfl, rfl, rfl⟩ := hX2
        have F := hfix cells slots (by omega) (by omega)
        have hFc := j_free F.2.2.2.2.2.2.1 hH2
        obtain ⟨P, D, n, Fc, O, tl, tb, fa, tr, wh, hm, hk, hr⟩ := id hs1
        have hfr := F.2.2.2.2.2.2.2.1
        have hlo := F.2.2.2.2.2.2.2.2.1
        refine va_calli (vx_runSW (hh := [(0, 9, 12, 13)]) (bytes := cL_breaks) (maxL := 4) (ret := some .int) (n := 3) (As := [.ref (E.2.1 0), .int (Int32.ofInt (xs (((i : Int) + 1).toNat))), .ref (E.2.1 37)]) (rest := []) ⟨F.1, F.2.1, F.2.2.1, F.2.2.2.1, F.2.2.2.2.1⟩ (c_L_breaks l hlt P D n Fc O M2 hk.1 (xs (((i : Int) + 1).toNat)) (hx _) E H2.size) ⟨⟨rfl, rfl, by show 10 + 1 ≤ R.frames; omega, by show 8 + (4 + 11) + 40 * 10 ≤ R.locals; omega, pay_in F.2.2.2.2.1 jx_goodL, List.mem_cons_self⟩, F.2.2.2.2.1 _ jx_cL, F.2.2.2.2.1 _ jx_iL, ⟨by decide, by decide⟩, fun sig h => by have h2 := jx_n3; rw [h] at h2; exact (Option.some.inj h2).symm, F.2.2.2.2.1 _ jx_lk, F.2.2.2.2.1 _ jx_sL⟩ ⟨jx_blind, fun U hU hW => ⟨rfl, jx_pre_of F.2.2.2.2.2.1 F.2.2.2.2.2.2.2.2.2.2.2 hxs F.2.2.2.2.2.2.1 hH2 U hU hW⟩⟩ rfl rfl hL2.1 rfl (lv_room (Nat.le_of_ble_eq_true rfl)) dL_law_1562 ⟨by omega, by omega⟩) hH2.2.2 (fun q _ h => hFc q h) hFc (fun r M3 t H3 locs3 ht hvm hpost hB hz1 hk1 hS3 => ?_)
        obtain ⟨hP3, hK3, hD3⟩ := hB
        rw [ht] at hP3
        have hD3 := hD3.weaken (fun _ q _ h => hFc q.1 h)
        have go : ∀ (k : Int), r = Int32.ofInt k → J (some (N, xs)) 60 mL_law 1565 (lwL i) [(0, k)] M3 (lwY i) → W p l e R s m args below meth c H3 locs3 (cells + 1) (slots + 6) Q (F0 m (1562 + 3) ls2 [.int r]) := by
          intro k hrk hJ
          subst hrk
          refine hJ p l e R s m args below meth c (cells + 1) (slots + 6) Q E A (hfix (cells + 1) (slots + 6) (by omega) (by omega)) hsc ?_ H3 locs3 ls2 ⟨hP3, hD3, hS3⟩ hL2
          intro pc4 L4 st4 M4 H4 locs4 ls4 hX4 hH4 hL4
          obtain ⟨rfl, rfl, rfl, hs4⟩ := hX4
          exact ih (i + 6) M4 (cells + 1) (slots + 6) H4 locs4 ls4 (by omega) (by omega) (by omega) (by omega) hs4 hH4 hL4
        rcases hpost with ⟨ha, hr1, rfl⟩ | ⟨ha, hr1, rfl⟩
        · exact go 1 hr1 (lw_btail hm hk hr hN hx h6 1 (Or.inl ⟨ha, rfl⟩))
        · exact go 0 hr1 (lw_btail (ms_lt (fun k h1 h2 => up37 (by omega)) hm) (ks_lt (fun k h1 => up37 (by omega)) hk) hr hN hx h6 0 (Or.inr ⟨ha, rfl, j_up_eq⟩))
    · refine lw_done (M := M) hN (by omega) h2 p l e R s m args below meth c cells slots Q E A (hfix cells slots (by omega) (by omega)) hsc ?_ H locs ls hH hL
      intro pc' L' st' M' H' locs' ls' hX hH' hL'
      obtain ⟨rfl, rfl⟩ := hX
      exact hend cells slots H' locs' ls' (by omega) (by omega) hH'.2.2
