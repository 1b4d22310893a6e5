/-! ShellPeel.breaks: returns, or throws NoSuchElementException; the law's own breaks catches it -/
theorem jx_good : ∀ w ∈ (jx_own.filter vx_no).filter goodWord, w ∈ lw_tbl := by decide +kernel
theorem jx_bad : ∀ w ∈ (jx_own.filter vx_no).filter (fun w => !goodWord w), w ∈ [Cond.declares (Bundle.initS "java/lang/RuntimeException"), Cond.declares (Bundle.initS "java/lang/Exception"), Cond.declares (Bundle.initS "java/lang/Throwable")] := by decide +kernel
theorem jx_k : Cond.classLink RX6 313 "java/util/NoSuchElementException" ∈ j_all := j_mem 1068 (by decide +kernel) (by decide +kernel)
theorem jx_kL : Cond.classLink RL 13 "java/util/NoSuchElementException" ∈ j_all := j_mem 1059 (by decide +kernel) (by decide +kernel)
theorem jx_i : Cond.initialized "java/util/NoSuchElementException" ∈ j_all := j_mem 115 (by decide +kernel) (by decide +kernel)
theorem jx_ot : ∀ w ∈ Cond.classLink RX6 313 "java/util/NoSuchElementException" :: Cond.initialized "java/util/NoSuchElementException" :: jx_own.filter vx_no, vx_ot w = true := by decide +kernel
def jx_st (E : jE) (A : Nat → Prop) (U : State) (H : Heap) : Prop := vx_Zq Bundle.tN "UNASSIGNED_STACK" Bundle.steD A U H ∧ vx_Zq Bundle.tN "SUPPRESSED_SENTINEL" Bundle.listD A U H ∧ vk_R RX6 315 "no such break" (E.2.2.2.1 8) U ∧ va_Nw (.castable "java/util/NoSuchElementException" "java/util/NoSuchElementException") U ∧ va_Nw (.declares (Bundle.initS "java/lang/RuntimeException")) U ∧ va_Nw (.declares (Bundle.initS "java/lang/Exception")) U ∧ va_Nw (.declares (Bundle.initS "java/lang/Throwable")) U
theorem jx_st_at {E : jE} {A B : Nat → Prop} {s U : State} {H1 : Heap} (h : jx_st E A s s.heap) (hq : ∀ a : Nat, a < s.heap.size → ¬ A a → H1[a]? = s.heap[a]?) (hW : s.WarmedH U.vm) (hAB : ∀ q, B q → A q) : jx_st E B U H1 := by
  obtain ⟨h1, h2, h3, h4, h5, h6, h7⟩ := h
  exact ⟨((h1.kept hq).narrow hAB).moved hW.alike, ((h2.kept hq).narrow hAB).moved hW.alike, h3.warm hW, h4.warmC hW, h5.warmD hW, h6.warmD hW, h7.warmD hW⟩
theorem jx_st_calling {E : jE} {A : Nat → Prop} {U : State} {H : Heap} {g : JFrame} {mk : MethodId} {a : Array Value} (h : jx_st E A U H) : jx_st E A (U.calling g mk a) H := by
  obtain ⟨h1, h2, h3, h4, h5, h6, h7⟩ := h
  exact ⟨h1.moved (Vm.Alike.refl U.vm), h2.moved (Vm.Alike.refl U.vm), h3.same rfl, va_Nw.same (u := U) rfl rfl h4, va_Nw.same (u := U) rfl rfl h5, va_Nw.same (u := U) rfl rfl h6, va_Nw.same (u := U) rfl rfl h7⟩
def jx_pre (E : jE) (M : jM) (sz : Nat) (U : State) : Prop := j_pre E M sz U ∧ jx_st E (va_A (j_w E M) sz) U U.heap
theorem jx_blind {E : jE} {M : jM} {sz : Nat} {av : List Value} : FrameBlind (va_Pc av (jx_pre E M sz)) := by
  intro a U g mk q
  obtain ⟨q0, ⟨q1, q2, q3, q4, q5⟩, q6⟩ := q
  exact ⟨q0, ⟨q1, q2, va_K.moved (u := U) (U := U.calling g mk a) (Vm.Alike.refl U.vm) q3, q4, j_st_calling q5⟩, jx_st_calling q6⟩
theorem jx_pre_of {E : jE} {A : Nat → Prop} {s : State} {M : jM} {H : Heap} {locs : List Loc} (hK : va_K E.1 vwCl (j_ty E) s) (hst : j_st E A s s.heap) (hxs : jx_st E A s s.heap) (hA : ∀ q, s.heap.size ≤ q → A q) (hH : j_H E A s M H locs) (U : State) (hU : U.heap = H) (hW : s.WarmedH U.vm) : jx_pre E M H.size U := by
  refine ⟨j_pre_of hK hst hA hH U hU hW, ?_⟩
  rw [hU]
  exact jx_st_at hxs hH.2.2.2.1 hW (j_free hA hH)
def jx_X (n : Nat) (F O : Nat → Nat) (i : Int) (M : jM) : jX := fun pc _ st M' => M' = M ∧ ((pc = 17 ∧ st = [] ∧ A_breaks n F O i = -1) ∨ (pc = 29 ∧ st = [(0, A_breaks n F O i)] ∧ ¬ A_breaks n F O i = -1))
theorem nth_m1 {n : Nat} {p : Nat → Bool} {i : Int} : nthN n p i = -1 ∨ 0 ≤ nthN n p i := by
  by_cases h0 : i < 0
  · left; exact nthN_neg h0
  · obtain ⟨j, rfl⟩ : ∃ j : Nat, i = (j : Int) := ⟨i.toNat, by omega⟩
    by_cases h1 : j < cntN n p
    · obtain ⟨k, k1, k2, k3, k4⟩ := nthN_spec h1
      right; rw [k2]; omega
    · left; exact nthN_none (by omega)
theorem jx_walk (P D n : Nat) (F O : Nat → Nat) (M : jM) (hR : KR P D n F O M) (i : Int) (hi : -2147483648 ≤ i ∧ i < 2147483648) : J none 8 mX6_breaks 0 [(10, 0), (0, i), (9, 0)] [] M (jx_X n F O i M) := by
  refine J_aload_n dX6_breaks_0 rfl ?_
  refine J_getR dX6_breaks_1 flX6_26 rfl rfl ?_
  refine J_aload_n dX6_breaks_4 rfl ?_
  refine J_getR dX6_breaks_5 flX6_19 rfl rfl ?_
  refine J_iload_n dX6_breaks_8 rfl ?_
  refine J_callViQ (cl := mX3_nthBreak) [(14, 0), (0, i)] [] dX6_breaks_9 mlX6_310 cvX3_nthBreak rfl rfl rfl rfl rfl (by decide) (Nat.le_of_ble_eq_true rfl) rfl (ev_X3_nthBreak P D n F O M hR i hi) ?_
  refine J_istore_n (L' := [(10, 0), (0, i), (0, A_breaks n F O i)]) dX6_breaks_12 (by decide) rfl rfl ?_
  refine J_iload_n dX6_breaks_13 rfl ?_
  refine J_if_ge (tgt := 28) dX6_breaks_14 rfl (nthK hR _ _) (fun h => ?_) (fun h => ?_)
  · refine J_iload_n dX6_breaks_28 rfl ?_
    exact J_exit ⟨rfl, Or.inr ⟨rfl, rfl, by omega⟩⟩
  · refine J_exit ⟨rfl, Or.inl ⟨rfl, rfl, ?_⟩⟩
    rcases nth_m1 (n := n) (p := fun k => !jnA F O k) (i := i) with q | q
    · exact q
    · exact absurd q (by show ¬ 0 ≤ A_breaks n F O i; omega)
set_option maxHeartbeats 4000000 in
set_option maxRecDepth 100000 in
theorem c_X6_breaks (l : Launch) (hlt : l.stackTraces = false) (P D n : Nat) (F O : Nat → Nat) (M : jM) (hR : KR P D n F O M) (i : Int) (hi : -2147483648 ≤ i ∧ i < 2147483648) (E : jE) (sz : Nat) : vx_Met l yX6_breaks (j_ws mX6_breaks) (jc_rm 8 1 6) (va_Pc [.ref (E.2.1 0), .int (Int32.ofInt i)] (jx_pre E M sz)) (va_Qi (fun (r : Int32) (_ : Unit) => r = Int32.ofInt (A_breaks n F O i) ∧ ¬ A_breaks n F O i = -1) (fun _ t => j_B E (va_A (j_w E M) sz) M t) (va_A (j_w E M) sz)) (vx_X (fun _ : Unit => A_breaks n F O i = -1) (fun Ec _ t => Ec = "java/util/NoSuchElementException" ∧ j_B E (va_A (j_w E M) sz) M t) (va_A (j_w E M) sz)) 1 6 (va_A (j_w E M) sz) := by
  refine vx_ofW (cc := cX6_breaks) (maxL := 3) (ret := some .int) (by decide) rfl ?_
  intro p e s m args below meth c s₁ B hml htab hv
  obtain ⟨rfl, ⟨hsz, hP, hK, hD0, hst⟩, hxs⟩ := hv
  have hts := atoms_spec (ws := j_ws mX6_breaks) B.pre
  have hts1 : ∀ w ∈ j_all, w.before _ s = true := fun w hw => hts w (List.mem_cons_of_mem _ hw)
  subst hsz
  have hD := hD0.self (sz := s.heap.size)
  have hown : s.vm.findClass RX6 = some m.cls := findClass_of_methodNamed B.named
  have hlv := lv_entry [.ref (E.2.1 0), .int (Int32.ofInt i)] (n := 3) (Nat.le_of_ble_eq_true rfl)
  rw [lg_entry_eq]
  generalize (lg_sl [.ref (E.2.1 0), .int (Int32.ofInt i)] ++ List.replicate (3 - (lg_sl [.ref (E.2.1 0), .int (Int32.ofInt i)]).length) Slot.unset).toArray = ls at hlv ⊢
  have hLL : j_L E 3 [(10, 0), (0, i), (9, 0)] ls := hlv
  have hA : ∀ q, s.heap.size ≤ q → va_A (j_w E M) s.heap.size q := fun q hq => Or.inr hq
  have Fx : j_fix 8 mX6_breaks p (headSpec (j_ws mX6_breaks) (jc_rm 8 1 6)).room s m ([.ref (E.2.1 0), .int (Int32.ofInt i)] : List Value).toArray c 0 0 E (va_A (j_w E M) s.heap.size) :=
    ⟨B.exec, B.bytes, hml, hown, hts1, hK, hA, Nat.le_refl _, Nat.le_refl _, Nat.zero_le _, Nat.zero_le _, hst⟩
  refine jx_walk P D n F O M hR i hi p l e _ s m _ below meth c 0 0 _ E (va_A (j_w E M) s.heap.size) Fx (fun n xs q => by cases q) ?_ s.heap [] ls ⟨hP, hD, va_S.rf⟩ hLL
  intro pc' L' st' M' H' locs' ls' hX hH' hL'
  obtain ⟨rfl, ⟨rfl, rfl, hb⟩ | ⟨rfl, rfl, hb⟩⟩ := hX
  · refine jx_throw (A := va_A (j_w E M') s.heap.size) B.exec B.bytes hlt hown (hts1 _ jx_k) (hts1 _ jx_i) hxs.2.2.1 ?_ jx_ot hxs.1 hxs.2.1 hH'.2.2 (hL'.1.trans hml.symm) dX6_breaks_17 dX6_breaks_20 dX6_breaks_21 dX6_breaks_24 dX6_breaks_27 (fun x hx => (htab x hx).elim) (Nat.le_of_ble_eq_true rfl) (Nat.le_of_ble_eq_true rfl) (Nat.le_of_ble_eq_true rfl) (Nat.le_of_ble_eq_true rfl) B.notSynchronized ?_ hH'.2.2.2.2 (Nat.le_of_ble_eq_true rfl) (Nat.le_of_ble_eq_true rfl)
    · refine vx_hat (fun w hw => hts1 w (List.mem_filter.mpr ⟨jx_good w hw, (List.mem_filter.mp hw).2⟩)) jx_bad (fun w hw => ?_)
      simp only [List.mem_cons, List.not_mem_nil, or_false] at hw
      rcases hw with rfl | rfl | rfl
      · exact va_Nw.use rfl hxs.2.2.2.2.1
      · exact va_Nw.use rfl hxs.2.2.2.2.2.1
      · exact va_Nw.use rfl hxs.2.2.2.2.2.2
    · intro t hvm hz hk
      refine ⟨(), hb, ⟨rfl, ?_, va_K.moved hvm hK, hH'.2.1⟩, ?_⟩
      · exact hH'.1.kept (fun k x hx => hk x.1 ((hH'.1 k x hx).lt))
      · exact ⟨Nat.le_trans hH'.2.2.1 hz, fun q h1 h2 => (hk q (Nat.lt_of_lt_of_le h1 hH'.2.2.1)).trans (hH'.2.2.2.1 q h1 h2)⟩
  · refine vx_ret ?_
    refine W.widen (k := 1) (n := 6) (Nat.zero_le _) (Nat.zero_le _) ?_
    exact W.iret B.exec B.bytes B.returns (fun t ht hW => ⟨⟨_, (), rfl, ⟨rfl, hb⟩, by rw [ht]; exact hH'.1, va_K.moved hW.alike hK, hH'.2.1⟩, hH'.2.2.F ht⟩) hH'.2.2.2.2 dX6_breaks_29
