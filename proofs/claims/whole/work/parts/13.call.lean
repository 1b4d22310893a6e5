/-- what kind of answer: 0 none, 1 int, 2 long, 3 double, 4 a cell -/
def j_rk : Option FieldType → Nat
  | none => 0
  | some .long => 2
  | some .double => 3
  | some (.object _) => 4
  | some (.array _) => 4
  | _ => 1
def j_B (E : jE) (A : Nat → Prop) (M : jM) (t : State) : Prop := va_P E.1 vwCl (j_w E M) t.heap ∧ va_K E.1 vwCl (j_ty E) t ∧ va_D A (j_w E M)
def j_Qc (ret : Option FieldType) (E : jE) (Q : Int → jM → Prop) (A : Nat → Prop) : Array Value → State → Outcome → State → Prop := match j_rk ret with
  | 0 => va_Qv (fun M => Q 0 M) (j_B E A) A
  | 1 => va_Qi (fun r M => ∃ z, r = Int32.ofInt z ∧ Q z M) (j_B E A) A
  | 2 => va_Ql (fun r M => ∃ z, r = Int64.ofInt z ∧ Q z M) (j_B E A) A
  | 3 => va_Qd (fun r M => ∃ z, r = UInt64.ofNat (Int.toNat z) ∧ Q z M) (j_B E A) A
  | _ => va_Qr (S := jM × Nat) (fun u => Q (u.2 : Int) u.1) (fun u a t => a = E.2.1 u.2 ∧ j_B E A u.1 t) A
def j_pre (E : jE) (M : jM) (sz : Nat) (U : State) : Prop := U.heap.size = sz ∧ va_P E.1 vwCl (j_w E M) U.heap ∧ va_K E.1 vwCl (j_ty E) U ∧ va_D (fun _ => True) (j_w E M) ∧ j_st E (va_A (j_w E M) sz) U U.heap
/-- the contract of a method: from these arguments and this memory an answer and a memory of which Q holds; d: how deep it calls -/
def Ev (d : Nat) (mi : jI) (as : List jV) (M : jM) (Q : Int → jM → Prop) : Prop :=
  ∀ (l : Launch) (E : jE) (sz : Nat), Met l mi.1 (j_ws mi) (j_rm d) (va_Pc (as.map (j_cv E)) (j_pre E M sz)) (j_Qc mi.2.2.2 E Q (va_A (j_w E M) sz)) 0 0 (va_A (j_w E M) sz)
def j_ret (mi : jI) (Q : Int → jM → Prop) : jX := fun pc _ st M =>
  (mi.2.2.2 = none ∧ decode mi.2.1 pc = .ok (.return_, 1) ∧ st = [] ∧ Q 0 M) ∨
  (∃ z, mi.2.2.2 = some .int ∧ decode mi.2.1 pc = .ok (.ireturn, 1) ∧ st = [(0, z)] ∧ Q z M) ∨
  (∃ z, mi.2.2.2 = some .boolean ∧ decode mi.2.1 pc = .ok (.ireturn, 1) ∧ st = [(0, z)] ∧ (z = 0 ∨ z = 1) ∧ Q z M) ∨
  (∃ z, mi.2.2.2 = some .long ∧ decode mi.2.1 pc = .ok (.lreturn, 1) ∧ st = [(1, z)] ∧ Q z M) ∨
  (∃ z, mi.2.2.2 = some .double ∧ decode mi.2.1 pc = .ok (.dreturn, 1) ∧ st = [(3, z)] ∧ Q z M) ∨
  (∃ (k : Nat) (C : String), mi.2.2.2 = some (.object C) ∧ decode mi.2.1 pc = .ok (.areturn, 1) ∧ st = [(k + 10, 0)] ∧ Q (k : Int) M) ∨
  (∃ (z : Int) (ty : FieldType), mi.2.2.2 = some ty ∧ j_rk (some ty) = 1 ∧ narrow ty (.int (Int32.ofInt z)) = .int (Int32.ofInt z) ∧ decode mi.2.1 pc = .ok (.ireturn, 1) ∧ st = [(0, z)] ∧ Q z M)
/-- the locals at a method's entry -/
def j_flat : List jV → List jV
  | [] => []
  | v :: t => if v.1 = 1 ∨ v.1 = 3 then v :: (9, 0) :: j_flat t else v :: j_flat t
def j_ent (as : List jV) (n : Nat) : List jV := j_flat as ++ List.replicate (n - (j_flat as).length) (9, 0)
theorem j_cat2 {E : jE} {v : jV} (h : v.1 = 1 ∨ v.1 = 3) : (j_cv E v).category = 2 := by
  obtain ⟨t, z⟩ := v
  rcases h with h | h
  · dsimp only at h; subst h; rfl
  · dsimp only at h; subst h; rfl
theorem j_cat1 {E : jE} {v : jV} (h : ¬ (v.1 = 1 ∨ v.1 = 3)) : (j_cv E v).category = 1 := j_cat (by simp; omega)
theorem j_flat_len {E : jE} : ∀ as : List jV, (lg_sl (as.map (j_cv E))).length = (j_flat as).length := by
  intro as
  induction as with
  | nil => rfl
  | cons v t ih =>
    unfold lg_sl at ih ⊢
    unfold j_flat
    rw [List.map_cons, List.flatMap_cons, List.length_append, ih]
    by_cases h : v.1 = 1 ∨ v.1 = 3
    · rw [if_pos (j_cat2 h), if_pos h]
      simp only [List.length_cons, List.length_nil]
      omega
    · rw [if_neg (by rw [j_cat1 h]; decide), if_neg h]
      simp only [List.length_cons, List.length_nil]
      omega
theorem j_rep_none {E : jE} : ∀ (n i : Nat), j_as E i (List.replicate n (9, 0)) = [] := by
  intro n
  induction n with
  | zero => intro i; rfl
  | succ n ih =>
    intro i
    rw [List.replicate_succ]
    unfold j_as
    rw [if_pos rfl, ih]
theorem j_ent_in {E : jE} {n : Nat} : ∀ (as : List jV) (i : Nat) (q : Nat × Value), q ∈ j_as E i (j_flat as ++ List.replicate n (9, 0)) → q ∈ lv_args i (as.map (j_cv E)) := by
  intro as
  induction as with
  | nil =>
    intro i q h
    rw [show j_flat [] ++ List.replicate n (9, 0) = List.replicate n ((9, 0) : jV) from rfl, j_rep_none] at h
    cases h
  | cons v t ih =>
    intro i q h
    rw [List.map_cons]
    unfold lv_args
    unfold j_flat at h
    split at h
    · rename_i hw
      rw [if_pos (j_cat2 hw)]
      rw [List.cons_append, List.cons_append] at h
      unfold j_as at h
      rw [if_neg (by rcases hw with hw | hw <;> rw [hw] <;> decide)] at h
      rcases List.mem_cons.mp h with h | h
      · rw [h]; exact List.mem_cons_self
      · unfold j_as at h
        rw [if_pos rfl] at h
        exact List.mem_cons_of_mem _ (ih _ _ h)
    · rename_i hw
      rw [if_neg (by rw [j_cat1 hw]; decide)]
      rw [List.cons_append] at h
      unfold j_as at h
      split at h
      · exact List.mem_cons_of_mem _ (ih _ _ h)
      · rcases List.mem_cons.mp h with h | h
        · rw [h]; exact List.mem_cons_self
        · exact List.mem_cons_of_mem _ (ih _ _ h)
theorem Ev_of {d : Nat} {mi : jI} {as L : List jV} {M : jM} {Q : Int → jM → Prop} (hy : plainName mi.1.cls = true) (hlen : (j_flat as).length ≤ mi.2.2.1) (hL : j_ent as mi.2.2.1 = L) (h : J none d mi 0 L [] M (j_ret mi Q)) : Ev d mi as M Q := by
  intro l E sz
  refine Met.ofW (cc := mi.2.1) (maxL := mi.2.2.1) (ret := mi.2.2.2) hy rfl ?_
  intro p e s m args below meth c s₁ B hml hv
  obtain ⟨rfl, hsz, hP, hK, hD0, hst⟩ := hv
  have hts := atoms_spec (ws := j_ws mi) B.pre
  subst hsz
  have hD := hD0.self (sz := s.heap.size)
  have hlv := lv_entry (as.map (j_cv E)) (n := mi.2.2.1) (by rw [j_flat_len]; exact hlen)
  rw [lg_entry_eq]
  generalize (lg_sl (as.map (j_cv E)) ++ List.replicate (mi.2.2.1 - (lg_sl (as.map (j_cv E))).length) Slot.unset).toArray = ls at hlv ⊢
  have hLL : j_L E mi.2.2.1 L ls := by
    subst hL
    exact ⟨hlv.1, hlv.2.1, fun q hq => hlv.2.2 q (j_ent_in _ _ _ hq)⟩
  have F : j_fix d mi p (headSpec (j_ws mi) (j_rm d)).room s m ((as.map (j_cv E)).toArray) c 0 0 E (va_A (j_w E M) s.heap.size) :=
    ⟨B.exec, B.bytes, hml, findClass_of_methodNamed B.named, fun w hw => hts w (List.mem_cons_of_mem _ hw), hK, fun q hq => Or.inr hq, Nat.le_refl _, Nat.le_refl _, Nat.zero_le _, Nat.zero_le _, hst⟩
  have hlocks := B.notSynchronized
  have hr := B.returns
  refine h p l e _ s m _ below meth c 0 0 _ E (va_A (j_w E M) s.heap.size) F (fun n xs q => by cases q) ?_ s.heap [] ls ⟨hP, hD, va_S.rf⟩ hLL
  intro pc' L' st' M' H' locs' ls' hx hH' hL'
  rcases hx with ⟨h1, h2, h3, h4⟩ | ⟨z, h1, h2, h3, h4⟩ | ⟨z, h1, h2, h3, hz, h4⟩ | ⟨z, h1, h2, h3, h4⟩ | ⟨z, h1, h2, h3, h4⟩ | ⟨k, C, h1, h2, h3, h4⟩ | ⟨z, ty, h1, h0, hz, h2, h3, h4⟩
  · subst h3
    rw [h1] at hr ⊢
    exact W.vret F.1 F.2.1 hr (fun t ht hW => ⟨⟨M', rfl, h4, by rw [ht]; exact hH'.1, va_K.moved hW.alike hK, hH'.2.1⟩, hH'.2.2.F ht⟩) hH'.2.2.2.2 h2
  · subst h3
    rw [h1] at hr ⊢
    exact W.iret F.1 F.2.1 hr (fun t ht hW => ⟨⟨_, M', rfl, ⟨z, rfl, h4⟩, by rw [ht]; exact hH'.1, va_K.moved hW.alike hK, hH'.2.1⟩, hH'.2.2.F ht⟩) hH'.2.2.2.2 h2
  · subst h3
    rw [h1] at hr ⊢
    exact W.zret F.1 F.2.1 hr (j_nar (Or.inr ⟨rfl, hz⟩)).1 (fun t ht hW => ⟨⟨_, M', rfl, ⟨z, rfl, h4⟩, by rw [ht]; exact hH'.1, va_K.moved hW.alike hK, hH'.2.1⟩, hH'.2.2.F ht⟩) hH'.2.2.2.2 h2
  · subst h3
    rw [h1] at hr ⊢
    exact W.lret F.1 F.2.1 hr (fun t ht hW => ⟨⟨_, M', rfl, ⟨z, rfl, h4⟩, by rw [ht]; exact hH'.1, va_K.moved hW.alike hK, hH'.2.1⟩, hH'.2.2.F ht⟩) hH'.2.2.2.2 h2
  · subst h3
    rw [h1] at hr ⊢
    exact W.dret F.1 F.2.1 hr (fun t ht hW => ⟨⟨_, M', rfl, ⟨z, rfl, h4⟩, by rw [ht]; exact hH'.1, va_K.moved hW.alike hK, hH'.2.1⟩, hH'.2.2.F ht⟩) hH'.2.2.2.2 h2
  · subst h3
    rw [h1] at hr ⊢
    exact W.aret F.1 F.2.1 hr (Or.inl ⟨_, rfl⟩) (Or.inr ⟨_, rfl⟩) (fun t ht hW => ⟨⟨(M', k), _, rfl, h4, rfl, by rw [ht]; exact hH'.1, va_K.moved hW.alike hK, hH'.2.1⟩, hH'.2.2.F ht⟩) hH'.2.2.2.2 h2
  · subst h3
    rw [h1] at hr ⊢
    have e0 : j_Qc (some ty) E Q (va_A (j_w E M) s.heap.size) = va_Qi (fun r M => ∃ z, r = Int32.ofInt z ∧ Q z M) (j_B E (va_A (j_w E M) s.heap.size)) (va_A (j_w E M) s.heap.size) := by
      unfold j_Qc
      simp only [h0]
    rw [e0]
    exact W.zret F.1 F.2.1 hr hz (fun t ht hW => ⟨⟨_, M', rfl, ⟨z, rfl, h4⟩, by rw [ht]; exact hH'.1, va_K.moved hW.alike hK, hH'.2.1⟩, hH'.2.2.F ht⟩) hH'.2.2.2.2 h2
/-- the facts of a callee: an object's method, a static one -/
def j_CB (cl : jI) (n : Nat) : Prop := Cond.code cl.1 cl.2.1 cl.2.2.1 cl.2.2.2 ∈ j_all ∧ Cond.initialized cl.1.cls ∈ j_all ∧ (cl.1.cls ≠ "java/lang/invoke/MethodHandle" ∧ cl.1.cls ≠ "java/lang/invoke/VarHandle" ∧ (parseMethodDescriptor cl.1.desc).map (fun d => d.parameters.length) = some n) ∧ cl.2.2.1 ≤ 21
def j_CV (cl : jI) (n : Nat) : Prop := j_CB cl n ∧ Cond.instanceMethod cl.1 ∈ j_all ∧ Cond.selects cl.1.cls cl.1 cl.1 ∈ j_all
def j_CS (cl : jI) (n : Nat) : Prop := j_CB cl n ∧ Cond.static cl.1 ∈ j_all
def j_wt : List jV → Nat
  | [] => 0
  | v :: t => (if v.1 = 1 ∨ v.1 = 3 then 2 else 1) + j_wt t
theorem j_wt_eq {E : jE} : ∀ st : List jV, ((st.map (j_cv E)).map (fun v => v.category)).sum = j_wt st := by
  intro st
  induction st with
  | nil => rfl
  | cons v t ih =>
    rw [List.map_cons, List.map_cons, List.sum_cons, ih]
    rw [show j_wt (v :: t) = (if v.1 = 1 ∨ v.1 = 3 then 2 else 1) + j_wt t from rfl]
    by_cases h : v.1 = 1 ∨ v.1 = 3
    · rw [j_cat2 h, if_pos h]
    · rw [j_cat1 h, if_neg h]
theorem j_all_good {w : Cond} (h : w ∈ j_all) : (w.onTables && w.keeps) = true ∨ ∃ ty, w = .arrayClass ty := good_of_word (List.mem_filter.mp h).2
theorem j_callB {mi cl : jI} {d dc n idx cells slots : Nat} {p : Program} {R : Room} {s : State} {m : MethodId} {args : Array Value} {c : Code} {E : jE} {A : Nat → Prop} (F : j_fix d mi p R s m args c cells slots E A) (hl : Cond.methodLink mi.1.cls idx cl.1 ∈ j_all) (hc : j_CB cl n) (hdc : dc < d) : CallB R s args mi.1.cls idx cl.1 cl.2.1 cl.2.2.1 cl.2.2.2 (j_ws cl) (j_rm dc) 0 0 n := by
  obtain ⟨h1, h2, h3, h4⟩ := hc
  obtain ⟨f1, f2, f3, f4, f5, f6, f7, f8, f9, f10⟩ := F
  refine callB_of (Ts := j_all) n f5 ?_ rfl rfl rfl (f5 _ h2) (f5 _ hl) h3 ⟨?_, ?_⟩
  · intro w hw
    rcases List.mem_cons.mp hw with hw | hw
    · subst hw
      exact ⟨h1, j_all_good h1⟩
    · exact ⟨hw, j_all_good hw⟩
  · show dc + 1 ≤ R.frames
    omega
  · show 8 + (cl.2.2.1 + 11) + 40 * dc ≤ R.locals
    omega
theorem j_pre_of {E : jE} {A : Nat → Prop} {s : State} {M : jM} {H : Heap} {locs : List Loc} (hK : va_K E.1 vwCl (j_ty E) s) (hst : j_st E A s s.heap) (hA : ∀ q, s.heap.size ≤ q → A q) (hH : j_H E A s M H locs) (U : State) (hU : U.heap = H) (hW : s.WarmedH U.vm) : j_pre E M H.size U := by
  refine ⟨by rw [hU], by rw [hU]; exact hH.1, va_K.moved hW.alike hK, hH.2.1.weaken (fun _ _ _ _ => trivial), ?_⟩
  rw [hU]
  refine j_st_at hst hH.2.2.2.1 hW ?_
  intro q hq
  rcases hq with ⟨k, e, h⟩ | h
  · exact hH.2.1.2 k (q, e) h
  · exact hA q (Nat.le_trans hH.2.2.1 h)
theorem j_blind {E : jE} {M : jM} {sz : Nat} {av : List Value} : FrameBlind (va_Pc av (j_pre E M sz)) := by
  intro a U g mk q
  obtain ⟨q0, q1, q2, q3, q4, q5⟩ := q
  exact ⟨q0, q1, q2, va_K.moved (u := U) (U := U.calling g mk a) (Vm.Alike.refl U.vm) q3, q4, j_st_calling q5⟩
theorem j_free {E : jE} {A : Nat → Prop} {s : State} {M : jM} {H : Heap} {locs : List Loc} (hA : ∀ q, s.heap.size ≤ q → A q) (hH : j_H E A s M H locs) : ∀ q, va_A (j_w E M) H.size q → A q := by
  intro q hq
  rcases hq with ⟨k, e, h⟩ | h
  · exact hH.2.1.2 k (q, e) h
  · exact hA q (Nat.le_trans hH.2.2.1 h)
section JCALL
variable {sc : Option (Nat × (Nat → Int))} {d : Nat} {mi : jI} {pc : Nat} {L L' st : List jV} {M : jM} {X : jX}
theorem J_callVi {cl : jI} {n k ci idx dc : Nat} {z : Int} {fs : List (Option Nat)} {q : vw_C} {Qc : Int → jM → Prop} (As rest : List jV) (hd : decode mi.2.1 pc = .ok (.invokevirtual idx, 3)) (hl : Cond.methodLink mi.1.cls idx cl.1 ∈ j_all) (hc : j_CV cl n) (hn : As.length = n) (hst : st = As.reverse ++ (k + 10, z) :: rest) (hsh : j_sh[k]? = some (0, ci, fs)) (hcl : vwCl[ci]? = some q) (hq : q.1 = cl.1.cls) (hdc : dc < d) (hw : j_wt rest ≤ 8) (hrk : j_rk cl.2.2.2 = 1) (ev : Ev dc cl ((k + 10, z) :: As) M Qc) (kk : ∀ (z : Int) (M' : jM), Qc z M' → J sc d mi (pc + 3) L ((0, z) :: rest) M' X) : J sc d mi pc L st M X := by
  intro p l e R s m args below meth c cells slots Q E A F hsc hX H locs ls hH hL
  have hM := ev l E H.size
  have e0 : j_Qc cl.2.2.2 E Qc (va_A (j_w E M) H.size) = va_Qi (fun r M => ∃ z, r = Int32.ofInt z ∧ Qc z M) (j_B E (va_A (j_w E M) H.size)) (va_A (j_w E M) H.size) := by
    unfold j_Qc
    simp only [hrk]
  rw [e0] at hM
  have hFc := j_free F.2.2.2.2.2.2.1 hH
  refine va_calli (va_runV (As := As.map (j_cv E)) (rest := rest.map (j_cv E)) (b := E.2.1 k) ⟨F.1, F.2.1, F.2.2.1, F.2.2.2.1, F.2.2.2.2.1⟩ hM ⟨j_callB F hl hc.1 hdc, F.2.2.2.2.1 _ hc.2.1, F.2.2.2.2.1 _ hc.2.2⟩ ⟨j_blind, by rw [← hq]; exact va_recv F.2.2.2.2.2.1 hH.1 hcl (j_w_at hsh), fun U hU hW => ⟨rfl, j_pre_of F.2.2.2.2.2.1 F.2.2.2.2.2.2.2.2.2.2.2 F.2.2.2.2.2.2.1 hH U hU hW⟩⟩ rfl (by rw [List.length_map]; exact hn) hL.1 (by show List.map (j_cv E) st = _; rw [hst, List.map_append, List.map_reverse]; rfl) (lv_room (by rw [j_wt_eq]; exact hw)) hd ⟨by have := F.2.2.2.2.2.2.2.2.2.1; omega, by have := F.2.2.2.2.2.2.2.2.2.2.1; omega⟩) hH.2.2 (fun q _ h => hFc q h) hFc (fun r u t H1 locs1 ht hvm hpost hB hz1 hk1 hS1 => ?_)
  obtain ⟨hP1, hK1, hD1⟩ := hB
  rw [ht] at hP1
  have hD1 := hD1.weaken (fun _ q _ h => hFc q.1 h)
  obtain ⟨z1, hz, hq1⟩ := hpost
  subst hz
  exact kk z1 u hq1 p l e R s m args below meth c cells slots Q E A F hsc hX H1 locs1 ls ⟨hP1, hD1, hS1⟩ hL
theorem J_callVv {cl : jI} {n k ci idx dc : Nat} {z : Int} {fs : List (Option Nat)} {q : vw_C} {Qc : Int → jM → Prop} (As rest : List jV) (hd : decode mi.2.1 pc = .ok (.invokevirtual idx, 3)) (hl : Cond.methodLink mi.1.cls idx cl.1 ∈ j_all) (hc : j_CV cl n) (hn : As.length = n) (hst : st = As.reverse ++ (k + 10, z) :: rest) (hsh : j_sh[k]? = some (0, ci, fs)) (hcl : vwCl[ci]? = some q) (hq : q.1 = cl.1.cls) (hdc : dc < d) (hw : j_wt rest ≤ 8) (hrk : j_rk cl.2.2.2 = 0) (ev : Ev dc cl ((k + 10, z) :: As) M Qc) (kk : ∀ M' : jM, Qc 0 M' → J sc d mi (pc + 3) L rest M' X) : J sc d mi pc L st M X := by
  intro p l e R s m args below meth c cells slots Q E A F hsc hX H locs ls hH hL
  have hM := ev l E H.size
  have e0 : j_Qc cl.2.2.2 E Qc (va_A (j_w E M) H.size) = va_Qv (fun M => Qc 0 M) (j_B E (va_A (j_w E M) H.size)) (va_A (j_w E M) H.size) := by
    unfold j_Qc
    simp only [hrk]
  rw [e0] at hM
  have hFc := j_free F.2.2.2.2.2.2.1 hH
  refine va_callv (va_runV (As := As.map (j_cv E)) (rest := rest.map (j_cv E)) (b := E.2.1 k) ⟨F.1, F.2.1, F.2.2.1, F.2.2.2.1, F.2.2.2.2.1⟩ hM ⟨j_callB F hl hc.1 hdc, F.2.2.2.2.1 _ hc.2.1, F.2.2.2.2.1 _ hc.2.2⟩ ⟨j_blind, by rw [← hq]; exact va_recv F.2.2.2.2.2.1 hH.1 hcl (j_w_at hsh), fun U hU hW => ⟨rfl, j_pre_of F.2.2.2.2.2.1 F.2.2.2.2.2.2.2.2.2.2.2 F.2.2.2.2.2.2.1 hH U hU hW⟩⟩ rfl (by rw [List.length_map]; exact hn) hL.1 (by show List.map (j_cv E) st = _; rw [hst, List.map_append, List.map_reverse]; rfl) (lv_room (by rw [j_wt_eq]; exact hw)) hd ⟨by have := F.2.2.2.2.2.2.2.2.2.1; omega, by have := F.2.2.2.2.2.2.2.2.2.2.1; omega⟩) hH.2.2 (fun q _ h => hFc q h) hFc (fun u t H1 locs1 ht hvm hpost hB hz1 hk1 hS1 => ?_)
  obtain ⟨hP1, hK1, hD1⟩ := hB
  rw [ht] at hP1
  have hD1 := hD1.weaken (fun _ q _ h => hFc q.1 h)
  exact kk u hpost p l e R s m args below meth c cells slots Q E A F hsc hX H1 locs1 ls ⟨hP1, hD1, hS1⟩ hL
theorem J_callVl {cl : jI} {n k ci idx dc : Nat} {z : Int} {fs : List (Option Nat)} {q : vw_C} {Qc : Int → jM → Prop} (As rest : List jV) (hd : decode mi.2.1 pc = .ok (.invokevirtual idx, 3)) (hl : Cond.methodLink mi.1.cls idx cl.1 ∈ j_all) (hc : j_CV cl n) (hn : As.length = n) (hst : st = As.reverse ++ (k + 10, z) :: rest) (hsh : j_sh[k]? = some (0, ci, fs)) (hcl : vwCl[ci]? = some q) (hq : q.1 = cl.1.cls) (hdc : dc < d) (hw : j_wt rest ≤ 8) (hrk : j_rk cl.2.2.2 = 2) (ev : Ev dc cl ((k + 10, z) :: As) M Qc) (kk : ∀ (z : Int) (M' : jM), Qc z M' → J sc d mi (pc + 3) L ((1, z) :: rest) M' X) : J sc d mi pc L st M X := by
  intro p l e R s m args below meth c cells slots Q E A F hsc hX H locs ls hH hL
  have hM := ev l E H.size
  have e0 : j_Qc cl.2.2.2 E Qc (va_A (j_w E M) H.size) = va_Ql (fun r M => ∃ z, r = Int64.ofInt z ∧ Qc z M) (j_B E (va_A (j_w E M) H.size)) (va_A (j_w E M) H.size) := by
    unfold j_Qc
    simp only [hrk]
  rw [e0] at hM
  have hFc := j_free F.2.2.2.2.2.2.1 hH
  refine va_calll (va_runV (As := As.map (j_cv E)) (rest := rest.map (j_cv E)) (b := E.2.1 k) ⟨F.1, F.2.1, F.2.2.1, F.2.2.2.1, F.2.2.2.2.1⟩ hM ⟨j_callB F hl hc.1 hdc, F.2.2.2.2.1 _ hc.2.1, F.2.2.2.2.1 _ hc.2.2⟩ ⟨j_blind, by rw [← hq]; exact va_recv F.2.2.2.2.2.1 hH.1 hcl (j_w_at hsh), fun U hU hW => ⟨rfl, j_pre_of F.2.2.2.2.2.1 F.2.2.2.2.2.2.2.2.2.2.2 F.2.2.2.2.2.2.1 hH U hU hW⟩⟩ rfl (by rw [List.length_map]; exact hn) hL.1 (by show List.map (j_cv E) st = _; rw [hst, List.map_append, List.map_reverse]; rfl) (lv_room (by rw [j_wt_eq]; exact hw)) hd ⟨by have := F.2.2.2.2.2.2.2.2.2.1; omega, by have := F.2.2.2.2.2.2.2.2.2.2.1; omega⟩) hH.2.2 (fun q _ h => hFc q h) hFc (fun r u t H1 locs1 ht hvm hpost hB hz1 hk1 hS1 => ?_)
  obtain ⟨hP1, hK1, hD1⟩ := hB
  rw [ht] at hP1
  have hD1 := hD1.weaken (fun _ q _ h => hFc q.1 h)
  obtain ⟨z1, hz, hq1⟩ := hpost
  subst hz
  exact kk z1 u hq1 p l e R s m args below meth c cells slots Q E A F hsc hX H1 locs1 ls ⟨hP1, hD1, hS1⟩ hL
theorem J_callVd {cl : jI} {n k ci idx dc : Nat} {z : Int} {fs : List (Option Nat)} {q : vw_C} {Qc : Int → jM → Prop} (As rest : List jV) (hd : decode mi.2.1 pc = .ok (.invokevirtual idx, 3)) (hl : Cond.methodLink mi.1.cls idx cl.1 ∈ j_all) (hc : j_CV cl n) (hn : As.length = n) (hst : st = As.reverse ++ (k + 10, z) :: rest) (hsh : j_sh[k]? = some (0, ci, fs)) (hcl : vwCl[ci]? = some q) (hq : q.1 = cl.1.cls) (hdc : dc < d) (hw : j_wt rest ≤ 8) (hrk : j_rk cl.2.2.2 = 3) (ev : Ev dc cl ((k + 10, z) :: As) M Qc) (kk : ∀ (z : Int) (M' : jM), Qc z M' → J sc d mi (pc + 3) L ((3, z) :: rest) M' X) : J sc d mi pc L st M X := by
  intro p l e R s m args below meth c cells slots Q E A F hsc hX H locs ls hH hL
  have hM := ev l E H.size
  have e0 : j_Qc cl.2.2.2 E Qc (va_A (j_w E M) H.size) = va_Qd (fun r M => ∃ z, r = UInt64.ofNat (Int.toNat z) ∧ Qc z M) (j_B E (va_A (j_w E M) H.size)) (va_A (j_w E M) H.size) := by
    unfold j_Qc
    simp only [hrk]
  rw [e0] at hM
  have hFc := j_free F.2.2.2.2.2.2.1 hH
  refine va_calld (va_runV (As := As.map (j_cv E)) (rest := rest.map (j_cv E)) (b := E.2.1 k) ⟨F.1, F.2.1, F.2.2.1, F.2.2.2.1, F.2.2.2.2.1⟩ hM ⟨j_callB F hl hc.1 hdc, F.2.2.2.2.1 _ hc.2.1, F.2.2.2.2.1 _ hc.2.2⟩ ⟨j_blind, by rw [← hq]; exact va_recv F.2.2.2.2.2.1 hH.1 hcl (j_w_at hsh), fun U hU hW => ⟨rfl, j_pre_of F.2.2.2.2.2.1 F.2.2.2.2.2.2.2.2.2.2.2 F.2.2.2.2.2.2.1 hH U hU hW⟩⟩ rfl (by rw [List.length_map]; exact hn) hL.1 (by show List.map (j_cv E) st = _; rw [hst, List.map_append, List.map_reverse]; rfl) (lv_room (by rw [j_wt_eq]; exact hw)) hd ⟨by have := F.2.2.2.2.2.2.2.2.2.1; omega, by have := F.2.2.2.2.2.2.2.2.2.2.1; omega⟩) hH.2.2 (fun q _ h => hFc q h) hFc (fun r u t H1 locs1 ht hvm hpost hB hz1 hk1 hS1 => ?_)
  obtain ⟨hP1, hK1, hD1⟩ := hB
  rw [ht] at hP1
  have hD1 := hD1.weaken (fun _ q _ h => hFc q.1 h)
  obtain ⟨z1, hz, hq1⟩ := hpost
  subst hz
  exact kk z1 u hq1 p l e R s m args below meth c cells slots Q E A F hsc hX H1 locs1 ls ⟨hP1, hD1, hS1⟩ hL
theorem J_callVr {cl : jI} {n k ci idx dc : Nat} {z : Int} {fs : List (Option Nat)} {q : vw_C} {Qc : Int → jM → Prop} (As rest : List jV) (hd : decode mi.2.1 pc = .ok (.invokevirtual idx, 3)) (hl : Cond.methodLink mi.1.cls idx cl.1 ∈ j_all) (hc : j_CV cl n) (hn : As.length = n) (hst : st = As.reverse ++ (k + 10, z) :: rest) (hsh : j_sh[k]? = some (0, ci, fs)) (hcl : vwCl[ci]? = some q) (hq : q.1 = cl.1.cls) (hdc : dc < d) (hw : j_wt rest ≤ 8) (hrk : j_rk cl.2.2.2 = 4) (ev : Ev dc cl ((k + 10, z) :: As) M Qc) (kk : ∀ (k' : Nat) (M' : jM), Qc (k' : Int) M' → J sc d mi (pc + 3) L ((k' + 10, 0) :: rest) M' X) : J sc d mi pc L st M X := by
  intro p l e R s m args below meth c cells slots Q E A F hsc hX H locs ls hH hL
  have hM := ev l E H.size
  have e0 : j_Qc cl.2.2.2 E Qc (va_A (j_w E M) H.size) = va_Qr (S := jM × Nat) (fun u => Qc (u.2 : Int) u.1) (fun u a t => a = E.2.1 u.2 ∧ j_B E (va_A (j_w E M) H.size) u.1 t) (va_A (j_w E M) H.size) := by
    unfold j_Qc
    simp only [hrk]
  rw [e0] at hM
  have hFc := j_free F.2.2.2.2.2.2.1 hH
  refine va_callr (va_runV (As := As.map (j_cv E)) (rest := rest.map (j_cv E)) (b := E.2.1 k) ⟨F.1, F.2.1, F.2.2.1, F.2.2.2.1, F.2.2.2.2.1⟩ hM ⟨j_callB F hl hc.1 hdc, F.2.2.2.2.1 _ hc.2.1, F.2.2.2.2.1 _ hc.2.2⟩ ⟨j_blind, by rw [← hq]; exact va_recv F.2.2.2.2.2.1 hH.1 hcl (j_w_at hsh), fun U hU hW => ⟨rfl, j_pre_of F.2.2.2.2.2.1 F.2.2.2.2.2.2.2.2.2.2.2 F.2.2.2.2.2.2.1 hH U hU hW⟩⟩ rfl (by rw [List.length_map]; exact hn) hL.1 (by show List.map (j_cv E) st = _; rw [hst, List.map_append, List.map_reverse]; rfl) (lv_room (by rw [j_wt_eq]; exact hw)) hd ⟨by have := F.2.2.2.2.2.2.2.2.2.1; omega, by have := F.2.2.2.2.2.2.2.2.2.2.1; omega⟩) hH.2.2 (fun q _ h => hFc q h) hFc (fun u ra t H1 locs1 ht hvm hpost hB hz1 hk1 hS1 => ?_)
  obtain ⟨hra, hP1, hK1, hD1⟩ := hB
  rw [ht] at hP1
  have hD1 := hD1.weaken (fun _ q _ h => hFc q.1 h)
  subst hra
  exact kk u.2 u.1 hpost p l e R s m args below meth c cells slots Q E A F hsc hX H1 locs1 ls ⟨hP1, hD1, hS1⟩ hL
theorem J_callSi {cl : jI} {n idx dc : Nat} {Qc : Int → jM → Prop} (As rest : List jV) (hd : decode mi.2.1 pc = .ok (.invokestatic idx, 3)) (hl : Cond.methodLink mi.1.cls idx cl.1 ∈ j_all) (hc : j_CS cl n) (hn : As.length = n) (hst : st = As.reverse ++ rest) (hdc : dc < d) (hw : j_wt rest ≤ 8) (hrk : j_rk cl.2.2.2 = 1) (ev : Ev dc cl As M Qc) (kk : ∀ (z : Int) (M' : jM), Qc z M' → J sc d mi (pc + 3) L ((0, z) :: rest) M' X) : J sc d mi pc L st M X := by
  intro p l e R s m args below meth c cells slots Q E A F hsc hX H locs ls hH hL
  have hM := ev l E H.size
  have e0 : j_Qc cl.2.2.2 E Qc (va_A (j_w E M) H.size) = va_Qi (fun r M => ∃ z, r = Int32.ofInt z ∧ Qc z M) (j_B E (va_A (j_w E M) H.size)) (va_A (j_w E M) H.size) := by
    unfold j_Qc
    simp only [hrk]
  rw [e0] at hM
  have hFc := j_free F.2.2.2.2.2.2.1 hH
  refine va_calli (va_runS (As := As.map (j_cv E)) (rest := rest.map (j_cv E)) ⟨F.1, F.2.1, F.2.2.1, F.2.2.2.1, F.2.2.2.2.1⟩ hM ⟨j_callB F hl hc.1 hdc, F.2.2.2.2.1 _ hc.2⟩ ⟨j_blind, fun U hU hW => ⟨rfl, j_pre_of F.2.2.2.2.2.1 F.2.2.2.2.2.2.2.2.2.2.2 F.2.2.2.2.2.2.1 hH U hU hW⟩⟩ rfl (by rw [List.length_map]; exact hn) hL.1 (by show List.map (j_cv E) st = _; rw [hst, List.map_append, List.map_reverse]) (lv_room (by rw [j_wt_eq]; exact hw)) hd ⟨by have := F.2.2.2.2.2.2.2.2.2.1; omega, by have := F.2.2.2.2.2.2.2.2.2.2.1; omega⟩) hH.2.2 (fun q _ h => hFc q h) hFc (fun r u t H1 locs1 ht hvm hpost hB hz1 hk1 hS1 => ?_)
  obtain ⟨hP1, hK1, hD1⟩ := hB
  rw [ht] at hP1
  have hD1 := hD1.weaken (fun _ q _ h => hFc q.1 h)
  obtain ⟨z1, hz, hq1⟩ := hpost
  subst hz
  exact kk z1 u hq1 p l e R s m args below meth c cells slots Q E A F hsc hX H1 locs1 ls ⟨hP1, hD1, hS1⟩ hL
theorem J_callSv {cl : jI} {n idx dc : Nat} {Qc : Int → jM → Prop} (As rest : List jV) (hd : decode mi.2.1 pc = .ok (.invokestatic idx, 3)) (hl : Cond.methodLink mi.1.cls idx cl.1 ∈ j_all) (hc : j_CS cl n) (hn : As.length = n) (hst : st = As.reverse ++ rest) (hdc : dc < d) (hw : j_wt rest ≤ 8) (hrk : j_rk cl.2.2.2 = 0) (ev : Ev dc cl As M Qc) (kk : ∀ M' : jM, Qc 0 M' → J sc d mi (pc + 3) L rest M' X) : J sc d mi pc L st M X := by
  intro p l e R s m args below meth c cells slots Q E A F hsc hX H locs ls hH hL
  have hM := ev l E H.size
  have e0 : j_Qc cl.2.2.2 E Qc (va_A (j_w E M) H.size) = va_Qv (fun M => Qc 0 M) (j_B E (va_A (j_w E M) H.size)) (va_A (j_w E M) H.size) := by
    unfold j_Qc
    simp only [hrk]
  rw [e0] at hM
  have hFc := j_free F.2.2.2.2.2.2.1 hH
  refine va_callv (va_runS (As := As.map (j_cv E)) (rest := rest.map (j_cv E)) ⟨F.1, F.2.1, F.2.2.1, F.2.2.2.1, F.2.2.2.2.1⟩ hM ⟨j_callB F hl hc.1 hdc, F.2.2.2.2.1 _ hc.2⟩ ⟨j_blind, fun U hU hW => ⟨rfl, j_pre_of F.2.2.2.2.2.1 F.2.2.2.2.2.2.2.2.2.2.2 F.2.2.2.2.2.2.1 hH U hU hW⟩⟩ rfl (by rw [List.length_map]; exact hn) hL.1 (by show List.map (j_cv E) st = _; rw [hst, List.map_append, List.map_reverse]) (lv_room (by rw [j_wt_eq]; exact hw)) hd ⟨by have := F.2.2.2.2.2.2.2.2.2.1; omega, by have := F.2.2.2.2.2.2.2.2.2.2.1; omega⟩) hH.2.2 (fun q _ h => hFc q h) hFc (fun u t H1 locs1 ht hvm hpost hB hz1 hk1 hS1 => ?_)
  obtain ⟨hP1, hK1, hD1⟩ := hB
  rw [ht] at hP1
  have hD1 := hD1.weaken (fun _ q _ h => hFc q.1 h)
  exact kk u hpost p l e R s m args below meth c cells slots Q E A F hsc hX H1 locs1 ls ⟨hP1, hD1, hS1⟩ hL
theorem J_ireturn {z : Int} {Q : Int → jM → Prop} (hd : decode mi.2.1 pc = .ok (.ireturn, 1)) (hr : mi.2.2.2 = some .int) (hq : Q z M) : J sc d mi pc L [(0, z)] M (j_ret mi Q) := J_exit (Or.inr (Or.inl ⟨z, hr, hd, rfl, hq⟩))
theorem J_zreturn {z : Int} {Q : Int → jM → Prop} (hd : decode mi.2.1 pc = .ok (.ireturn, 1)) (hr : mi.2.2.2 = some .boolean) (hz : z = 0 ∨ z = 1) (hq : Q z M) : J sc d mi pc L [(0, z)] M (j_ret mi Q) := J_exit (Or.inr (Or.inr (Or.inl ⟨z, hr, hd, rfl, hz, hq⟩)))
theorem J_lreturn {z : Int} {Q : Int → jM → Prop} (hd : decode mi.2.1 pc = .ok (.lreturn, 1)) (hr : mi.2.2.2 = some .long) (hq : Q z M) : J sc d mi pc L [(1, z)] M (j_ret mi Q) := J_exit (Or.inr (Or.inr (Or.inr (Or.inl ⟨z, hr, hd, rfl, hq⟩))))
theorem J_dreturn {z : Int} {Q : Int → jM → Prop} (hd : decode mi.2.1 pc = .ok (.dreturn, 1)) (hr : mi.2.2.2 = some .double) (hq : Q z M) : J sc d mi pc L [(3, z)] M (j_ret mi Q) := J_exit (Or.inr (Or.inr (Or.inr (Or.inr (Or.inl ⟨z, hr, hd, rfl, hq⟩)))))
theorem J_areturn {k : Nat} {C : String} {Q : Int → jM → Prop} (hd : decode mi.2.1 pc = .ok (.areturn, 1)) (hr : mi.2.2.2 = some (.object C)) (hq : Q (k : Int) M) : J sc d mi pc L [(k + 10, 0)] M (j_ret mi Q) := J_exit (Or.inr (Or.inr (Or.inr (Or.inr (Or.inr (Or.inl ⟨k, C, hr, hd, rfl, hq⟩))))))
theorem J_creturn {z : Int} {ty : FieldType} {Q : Int → jM → Prop} (hd : decode mi.2.1 pc = .ok (.ireturn, 1)) (hr : mi.2.2.2 = some ty) (h0 : j_rk (some ty) = 1) (hz : narrow ty (.int (Int32.ofInt z)) = .int (Int32.ofInt z)) (hq : Q z M) : J sc d mi pc L [(0, z)] M (j_ret mi Q) := J_exit (Or.inr (Or.inr (Or.inr (Or.inr (Or.inr (Or.inr ⟨z, ty, hr, h0, hz, hd, rfl, hq⟩))))))
theorem J_return {Q : Int → jM → Prop} (hd : decode mi.2.1 pc = .ok (.return_, 1)) (hr : mi.2.2.2 = none) (hq : Q 0 M) : J sc d mi pc L [] M (j_ret mi Q) := J_exit (Or.inl ⟨hr, hd, rfl, hq⟩)
end JCALL
