/-! the law's own breaks: what the class throws is caught there -/
abbrev mL_breaks : jI := (yL_breaks, cL_breaks, 4, some .int)
def jx_wsL : List Cond := .codeWith yL_breaks cL_breaks 4 (some .int) [(0, 9, 12, 13)] :: j_all
def jx_L0 (i : Int) : List jV := [(10, 0), (0, i), (47, 0), (9, 0)]
theorem jx_head (i : Int) (M : jM) : J none 10 mL_breaks 0 (jx_L0 i) [] M (fun pc L st M' => pc = 4 ∧ L = jx_L0 i ∧ st = [(0, i), (10, 0), (0, 0), (47, 0)] ∧ M' = M) := by
  refine J_aload_n dL_breaks_0 rfl ?_
  refine J_iconst dL_breaks_1 ?_
  refine J_aload_n dL_breaks_2 rfl ?_
  refine J_iload_n dL_breaks_3 rfl ?_
  exact J_exit ⟨rfl, rfl, rfl, rfl⟩
theorem jx_tail (i a : Int) (ha : -2147483648 ≤ a ∧ a < 2147483648) (M : jM) : J none 10 mL_breaks 7 (jx_L0 i) [(0, a), (0, 0), (47, 0)] M (fun pc _ st M' => pc = 16 ∧ st = [(0, 0)] ∧ M' = j_up M 37 0 a) := by
  refine J_i2l dL_breaks_7 ha ?_
  refine J_last dL_breaks_8 rfl (by decide) (by decide) ?_
  refine J_goto (tgt := 15) dL_breaks_9 rfl ?_
  refine J_iconst dL_breaks_15 ?_
  exact J_exit ⟨rfl, rfl, rfl⟩
set_option maxHeartbeats 4000000 in
set_option maxRecDepth 100000 in
theorem c_L_breaks (l : Launch) (hlt : l.stackTraces = false) (P D n : Nat) (F O : Nat → Nat) (M : jM) (hR : KR P D n F O M) (i : Int) (hi : -2147483648 ≤ i ∧ i < 2147483648) (E : jE) (sz : Nat) : Met l yL_breaks jx_wsL (jc_rm 10 1 6) (va_Pc [.ref (E.2.1 0), .int (Int32.ofInt i), .ref (E.2.1 37)] (jx_pre E M sz)) (va_Qi (fun (r : Int32) (M' : jM) => (A_breaks n F O i = -1 ∧ r = Int32.ofInt 1 ∧ M' = M) ∨ (¬ A_breaks n F O i = -1 ∧ r = Int32.ofInt 0 ∧ M' = j_up M 37 0 (A_breaks n F O i))) (fun M' t => j_B E (va_A (j_w E M) sz) M' t) (va_A (j_w E M) sz)) 1 6 (va_A (j_w E M) sz) := by
  refine va_MetW (cc := cL_breaks) (maxL := 4) (ret := some .int) (by decide) rfl ?_
  intro p e s m args below meth c s₁ B hml hv
  obtain ⟨rfl, ⟨hsz, hP, hK, hD0, hst⟩, hxs⟩ := hv
  have hts := atoms_spec (ws := jx_wsL) B.pre
  have hts1 : ∀ w ∈ j_all, w.before _ s = true := fun w hw => hts w (List.mem_cons_of_mem _ hw)
  have htab := vx_table (x := yL_breaks) B (hts _ List.mem_cons_self)
  subst hsz
  have hD := hD0.self (sz := s.heap.size)
  have hown : s.vm.findClass RL = some m.cls := findClass_of_methodNamed B.named
  have hlv := lv_entry [.ref (E.2.1 0), .int (Int32.ofInt i), .ref (E.2.1 37)] (n := 4) (Nat.le_of_ble_eq_true rfl)
  rw [lg_entry_eq]
  generalize (lg_sl [.ref (E.2.1 0), .int (Int32.ofInt i), .ref (E.2.1 37)] ++ List.replicate (4 - (lg_sl [.ref (E.2.1 0), .int (Int32.ofInt i), .ref (E.2.1 37)]).length) Slot.unset).toArray = ls at hlv ⊢
  have hLL : j_L E 4 (jx_L0 i) ls := hlv
  have hA : ∀ q, s.heap.size ≤ q → va_A (j_w E M) s.heap.size q := fun q hq => Or.inr hq
  have Fx : j_fix 10 mL_breaks p (headSpec jx_wsL (jc_rm 10 1 6)).room s m ([.ref (E.2.1 0), .int (Int32.ofInt i), .ref (E.2.1 37)] : List Value).toArray c 0 0 E (va_A (j_w E M) s.heap.size) :=
    ⟨B.exec, B.bytes, hml, hown, hts1, hK, hA, Nat.le_refl _, Nat.le_refl _, Nat.zero_le _, Nat.zero_le _, hst⟩
  have Fx1 : j_fix 10 mL_breaks p (headSpec jx_wsL (jc_rm 10 1 6)).room s m ([.ref (E.2.1 0), .int (Int32.ofInt i), .ref (E.2.1 37)] : List Value).toArray c (0 + 1) (0 + 6) E (va_A (j_w E M) s.heap.size) :=
    ⟨B.exec, B.bytes, hml, hown, hts1, hK, hA, Nat.le_refl _, Nat.le_refl _, Nat.le_refl _, Nat.le_refl _, hst⟩
  refine jx_head i M p l e _ s m _ below meth c 0 0 _ E (va_A (j_w E M) s.heap.size) Fx (fun n xs q => by cases q) ?_ s.heap [] ls ⟨hP, hD, va_S.rf⟩ hLL
  intro pc' L' st' M' H locs ls hX hH hL
  obtain ⟨rfl, rfl, rfl, rfl⟩ := hX
  have hFc := j_free hA hH
  refine vx_calli (vx_runV (C := RX6) (As := [.int (Int32.ofInt i)]) (rest := [.int (Int32.ofInt 0), .ref (E.2.1 37)]) (b := E.2.1 0) ⟨B.exec, B.bytes, hml, hown, hts1⟩ (c_X6_breaks l hlt P D n F O M' hR i hi E H.size) ⟨callB_of (Ts := j_all) 1 hts1 (jc_good mX6_breaks cvX6_breaks.1.1) rfl rfl rfl (hts1 _ cvX6_breaks.1.2.1) (hts1 _ mlL_7) cvX6_breaks.1.2.2.1 ⟨Nat.le_of_ble_eq_true rfl, Nat.le_of_ble_eq_true rfl⟩, hts1 _ cvX6_breaks.2.1, hts1 _ cvX6_breaks.2.2⟩ ⟨jx_blind, va_recv hK hH.1 (show vwCl[6]? = some (RX6, TX6, 7) from rfl) (j_w_at (k := 0) rfl), fun U hU hW => ⟨rfl, jx_pre_of hK hst hxs hA hH U hU hW⟩⟩ rfl rfl hL.1 rfl (lv_room (Nat.le_of_ble_eq_true rfl)) dL_breaks_4 ⟨Nat.le_of_ble_eq_true rfl, Nat.le_of_ble_eq_true rfl⟩) hH.2.2 (fun q _ h => hFc q h) hFc (fun q _ h => hFc q h) (fun Ec ce q9 u t H1 locs1 ht hvm hpx hBX hz1 hk1 hS1 hcell hcv hcl => ?_) (fun r u t H1 locs1 ht hvm hpost hB hz1 hk1 hS1 => ?_)
  · obtain ⟨rfl, hP1, hK1, hD1⟩ := hBX
    rw [ht] at hP1
    have hD1 := hD1.weaken (fun _ q _ h => hFc q.1 h)
    refine vx_catch (name := "java/util/NoSuchElementException") hown [] ⟨0, 9, 12, 13⟩ [] htab (fun z hz => absurd hz List.not_mem_nil) (by decide) (by decide) (hts1 _ jx_kL) (va_Nw.use rfl hxs.2.2.2.1) hcell hcv hcl ?_
    have hl : lv_has ls 4 [(0, .ref (E.2.1 0)), (1, .int (Int32.ofInt i)), (2, .ref (E.2.1 37))] := hL
    refine lv_astore_n (lv' := [(3, .ref q9), (0, .ref (E.2.1 0)), (1, .int (Int32.ofInt i)), (2, .ref (E.2.1 37))]) B.exec B.bytes dL_breaks_12 rfl hl (by decide) rfl (fun ls hl => ?_)
    refine lv_iconst (v := Int32.ofInt 1) B.exec B.bytes dL_breaks_13 rfl ?_
    exact W.iret B.exec B.bytes B.returns (fun t ht hW => ⟨⟨_, M', rfl, Or.inl ⟨hpx, rfl, rfl⟩, by rw [ht]; exact hP1, va_K.moved hW.alike hK, hD1⟩, hS1.F ht⟩) hS1.2.2 dL_breaks_14
  · obtain ⟨rfl, hne⟩ := hpost
    obtain ⟨hP1, hK1, hD1⟩ := hB
    rw [ht] at hP1
    have hD1 := hD1.weaken (fun _ q _ h => hFc q.1 h)
    refine jx_tail i (A_breaks n F O i) (nthK hR _ _) M' p l e _ s m _ below meth c (0 + 1) (0 + 6) _ E (va_A (j_w E M') s.heap.size) Fx1 (fun n xs q => by cases q) ?_ H1 locs1 ls ⟨hP1, hD1, hS1⟩ hL
    intro pc2 L2 st2 M2 H2 locs2 ls2 hX2 hH2 hL2
    obtain ⟨rfl, rfl, rfl⟩ := hX2
    exact W.iret B.exec B.bytes B.returns (fun t ht hW => ⟨⟨_, _, rfl, Or.inr ⟨hne, rfl, rfl⟩, by rw [ht]; exact hH2.1, va_K.moved hW.alike hK, hH2.2.1⟩, hH2.2.2.F ht⟩) hH2.2.2.2.2 dL_breaks_16
