def bcv1 (x : Int32) : Int32 := x - ((x.toUInt32 >>> (((1 : Int32)).toUInt32 &&& Int32.toUInt32 31)).toInt32 &&& Int32.ofInt 1431655765)
def bcv2 (x : Int32) : Int32 := (x &&& Int32.ofInt 858993459) + ((x.toUInt32 >>> (((2 : Int32)).toUInt32 &&& Int32.toUInt32 31)).toInt32 &&& Int32.ofInt 858993459)
def bcv3 (x : Int32) : Int32 := (x + (x.toUInt32 >>> (((4 : Int32)).toUInt32 &&& Int32.toUInt32 31)).toInt32) &&& Int32.ofInt 252645135
def bcv4 (x : Int32) : Int32 := x + (x.toUInt32 >>> (((8 : Int32)).toUInt32 &&& Int32.toUInt32 31)).toInt32
def bcv5 (x : Int32) : Int32 := x + (x.toUInt32 >>> (((16 : Int32)).toUInt32 &&& Int32.toUInt32 31)).toInt32
def bcv (x : Int32) : Int32 := bcv5 (bcv4 (bcv3 (bcv2 (bcv1 x)))) &&& 63
set_option maxRecDepth 100000 in
theorem bcv_ok : ∀ t : Nat, t < 128 → bcv (Int32.ofInt (t : Int)) = Int32.ofInt ((popc t : Nat) : Int) := by decide +kernel
set_option maxHeartbeats 4000000 in
set_option maxRecDepth 100000 in
theorem c_bitCount (l : Launch) (x : Int32) : Met l yJ6_bitCount_0f7a4 (j_ws mJ6_bitCount_0f7a4) (jc_rm 0 0 0) (va_Pc [.int x] (fun _ => True)) (va_Qi (fun (r : Int32) (_ : Unit) => r = bcv x) (fun _ _ => True) (fun _ => False)) 0 0 (fun _ => False) := by
  refine Met.ofW (cc := cJ6_bitCount_0f7a4) (maxL := 1) (ret := some .int) (by decide) rfl ?_
  intro p e s m args below meth c s₁ B hml hv
  obtain ⟨rfl, -⟩ := hv
  have hx := B.exec
  have hb := B.bytes
  have hr := B.returns
  have hts0 := atoms_spec (ws := j_ws mJ6_bitCount_0f7a4) B.pre
  have hts : ∀ w ∈ j_all, w.before _ s = true := fun w hw => hts0 w (List.mem_cons_of_mem _ hw)
  have hown : s.vm.findClass RJ6 = some m.cls := findClass_of_methodNamed B.named
  have hl := lv_entry ([.int x]) (n := 1) (Nat.le_of_ble_eq_true rfl)
  rw [lg_entry_eq]
  generalize (lg_sl ([.int x]) ++ List.replicate (1 - (lg_sl ([.int x])).length) Slot.unset).toArray = ls at hl ⊢
  have hl : lv_has ls 1 [(0, .int x)] := hl
  refine lv_iload_n hx hb dJ6_bitCount_0f7a4_0 rfl (lv_at hl 0 rfl) ?_
  refine lv_iload_n hx hb dJ6_bitCount_0f7a4_1 rfl (lv_at hl 0 rfl) ?_
  refine lv_iconst (v := 1) hx hb dJ6_bitCount_0f7a4_2 (by decide) ?_
  refine lv_iushr hx hb dJ6_bitCount_0f7a4_3 rfl ?_
  refine lv_ldcw hx hb hown (hts _ kcJ6_265) dJ6_bitCount_0f7a4_4 ?_
  refine lv_iand hx hb dJ6_bitCount_0f7a4_7 ?_
  refine lv_isub hx hb dJ6_bitCount_0f7a4_8 ?_
  refine lv_istore_n (lv' := [(0, .int (bcv1 x))]) hx hb dJ6_bitCount_0f7a4_9 rfl hl (by decide) rfl (fun ls hl => ?_)
  refine lv_iload_n hx hb dJ6_bitCount_0f7a4_10 rfl (lv_at hl 0 rfl) ?_
  refine lv_ldcw hx hb hown (hts _ kcJ6_266) dJ6_bitCount_0f7a4_11 ?_
  refine lv_iand hx hb dJ6_bitCount_0f7a4_14 ?_
  refine lv_iload_n hx hb dJ6_bitCount_0f7a4_15 rfl (lv_at hl 0 rfl) ?_
  refine lv_iconst (v := 2) hx hb dJ6_bitCount_0f7a4_16 (by decide) ?_
  refine lv_iushr hx hb dJ6_bitCount_0f7a4_17 rfl ?_
  refine lv_ldcw hx hb hown (hts _ kcJ6_266) dJ6_bitCount_0f7a4_18 ?_
  refine lv_iand hx hb dJ6_bitCount_0f7a4_21 ?_
  refine lv_iadd hx hb dJ6_bitCount_0f7a4_22 ?_
  refine lv_istore_n (lv' := [(0, .int (bcv2 (bcv1 x)))]) hx hb dJ6_bitCount_0f7a4_23 rfl hl (by decide) rfl (fun ls hl => ?_)
  refine lv_iload_n hx hb dJ6_bitCount_0f7a4_24 rfl (lv_at hl 0 rfl) ?_
  refine lv_iload_n hx hb dJ6_bitCount_0f7a4_25 rfl (lv_at hl 0 rfl) ?_
  refine lv_iconst (v := 4) hx hb dJ6_bitCount_0f7a4_26 (by decide) ?_
  refine lv_iushr hx hb dJ6_bitCount_0f7a4_27 rfl ?_
  refine lv_iadd hx hb dJ6_bitCount_0f7a4_28 ?_
  refine lv_ldcw hx hb hown (hts _ kcJ6_267) dJ6_bitCount_0f7a4_29 ?_
  refine lv_iand hx hb dJ6_bitCount_0f7a4_32 ?_
  refine lv_istore_n (lv' := [(0, .int (bcv3 (bcv2 (bcv1 x))))]) hx hb dJ6_bitCount_0f7a4_33 rfl hl (by decide) rfl (fun ls hl => ?_)
  refine lv_iload_n hx hb dJ6_bitCount_0f7a4_34 rfl (lv_at hl 0 rfl) ?_
  refine lv_iload_n hx hb dJ6_bitCount_0f7a4_35 rfl (lv_at hl 0 rfl) ?_
  refine lv_bipush (v := 8) hx hb dJ6_bitCount_0f7a4_36 (by decide) ?_
  refine lv_iushr hx hb dJ6_bitCount_0f7a4_38 rfl ?_
  refine lv_iadd hx hb dJ6_bitCount_0f7a4_39 ?_
  refine lv_istore_n (lv' := [(0, .int (bcv4 (bcv3 (bcv2 (bcv1 x)))))]) hx hb dJ6_bitCount_0f7a4_40 rfl hl (by decide) rfl (fun ls hl => ?_)
  refine lv_iload_n hx hb dJ6_bitCount_0f7a4_41 rfl (lv_at hl 0 rfl) ?_
  refine lv_iload_n hx hb dJ6_bitCount_0f7a4_42 rfl (lv_at hl 0 rfl) ?_
  refine lv_bipush (v := 16) hx hb dJ6_bitCount_0f7a4_43 (by decide) ?_
  refine lv_iushr hx hb dJ6_bitCount_0f7a4_45 rfl ?_
  refine lv_iadd hx hb dJ6_bitCount_0f7a4_46 ?_
  refine lv_istore_n (lv' := [(0, .int (bcv5 (bcv4 (bcv3 (bcv2 (bcv1 x))))))]) hx hb dJ6_bitCount_0f7a4_47 rfl hl (by decide) rfl (fun ls hl => ?_)
  refine lv_iload_n hx hb dJ6_bitCount_0f7a4_48 rfl (lv_at hl 0 rfl) ?_
  refine lv_bipush (v := 63) hx hb dJ6_bitCount_0f7a4_49 (by decide) ?_
  refine lv_iand hx hb dJ6_bitCount_0f7a4_51 ?_
  exact W.iret hx hb hr (fun t ht hW => ⟨⟨_, (), rfl, rfl, trivial⟩, (va_S.rf (A := fun _ => False) (H0 := s.heap)).F ht⟩) (fun q hq => absurd hq List.not_mem_nil) dJ6_bitCount_0f7a4_52
theorem pc8 : ∀ t : Nat, t < 128 → popc t < 8 := by decide +kernel
theorem jc_good (cl : jI) (h1 : Cond.code cl.1 cl.2.1 cl.2.2.1 cl.2.2.2 ∈ j_all) : GoodIn j_all (j_ws cl) := by
  intro w hw
  rcases List.mem_cons.mp hw with hw | hw
  · subst hw
    exact ⟨h1, j_all_good h1⟩
  · exact ⟨hw, j_all_good hw⟩
def jcF (t : Nat) : Nat → Int32 := fun j => Int32.ofInt (if j < t then (col j : Int) else 0)
def jcG (t : Nat) : Nat → Int32 := fun b => Int32.ofInt ((cntN t (fun u => popc u == b) : Nat) : Int)
theorem jcF_0 : jcF 0 = fun _ => Int32.ofInt 0 := by
  funext j
  unfold jcF
  rw [if_neg (Nat.not_lt_zero _)]
theorem jcG_0 : jcG 0 = fun _ => Int32.ofInt 0 := by
  funext j
  rfl
theorem jcF_s {t : Nat} : upd (jcF t) t (Int32.ofInt (col t : Int)) = jcF (t + 1) := by
  funext j
  unfold upd jcF
  by_cases h : j = t
  · rw [if_pos h, if_pos (by omega), h]
  · rw [if_neg h]
    by_cases h2 : j < t
    · rw [if_pos h2, if_pos (by omega)]
    · rw [if_neg h2, if_neg (by omega)]
theorem jcG_v {t : Nat} : jcG t (popc t) = Int32.ofInt (col t : Int) := rfl
theorem jcG_s {t : Nat} : upd (jcG t) (popc t) (Int32.ofInt (col t : Int) + 1) = jcG (t + 1) := by
  funext j
  unfold upd jcG
  by_cases h : j = popc t
  · subst h
    rw [if_pos rfl]
    show _ = Int32.ofInt (((cntN t (fun u => popc u == popc t) + (popc t == popc t).toNat : Nat)) : Int)
    rw [beq_self_eq_true]
    show _ = Int32.ofInt (((col t + 1 : Nat)) : Int)
    rw [show (((col t + 1 : Nat)) : Int) = (col t : Int) + 1 by omega, Int32.ofInt_add]
    rfl
  · rw [if_neg h]
    show _ = Int32.ofInt (((cntN t (fun u => popc u == j) + (popc t == j).toNat : Nat)) : Int)
    rw [beq_eq_false_iff_ne.mpr (fun q => h q.symm)]
    rfl
set_option maxHeartbeats 4000000 in
set_option maxRecDepth 100000 in
theorem X1_loop {p : Program} {l : Launch} {e : Env} {R : Room} {s : State} {m : MethodId} {args : Array Value} {below : List Frame} {meth : Method} {c : Code} {cells slots : Nat} {Q : State → Prop} {D : va_G} {A : Nat → Prop} {cI cL cZ : ClassId} {h0 q1 q2 q3 q4 qn : Nat} (hx : p.tables.exec = Jvm.exec) (hb : c.code = cX1_init) (hml : c.maxLocals = 4) (hts : ∀ w ∈ j_all, w.before args s = true) (hown : s.vm.findClass RX1 = some m.cls) (hK : va_K D vwCl (jc_ty cI cL cZ) s) (hA : ∀ q : Nat, s.heap.size ≤ q → A q) (hfr : 1 ≤ R.frames) (hlo : 40 ≤ R.locals) (hce : cells ≤ R.cells) (hsl : slots ≤ R.slots)
    (hend : ∀ (H : Heap) (locs : List Loc) (ls : Array Slot), va_P D vwCl [(h0, .inr (1, [.ref q1, .ref q2, .int 0, .ref q3, .ref q4, .int 0])), (q1, .inl (cI, 128, .inl (jcF 128))), (q2, .inl (cZ, 128, .inl (fun _ => Int32.ofInt 0))), (q3, .inl (cL, 35, .inr (.inl (fun _ => Int64.ofInt 0)))), (q4, .inl (cI, 35, .inl (fun _ => Int32.ofInt 0))), (qn, .inl (cI, 8, .inl (jcG 128)))] H → va_D A [(h0, .inr (1, [.ref q1, .ref q2, .int 0, .ref q3, .ref q4, .int 0])), (q1, .inl (cI, 128, .inl (jcF 128))), (q2, .inl (cZ, 128, .inl (fun _ => Int32.ofInt 0))), (q3, .inl (cL, 35, .inr (.inl (fun _ => Int64.ofInt 0)))), (q4, .inl (cI, 35, .inl (fun _ => Int32.ofInt 0))), (qn, .inl (cI, 8, .inl (jcG 128)))] → va_S A s.heap H locs → W p l e R s m args below meth c H locs cells slots Q (F0 m 79 ls [])) :
    ∀ (fu t : Nat), t ≤ 128 → 128 - t < fu → ∀ (H : Heap) (locs : List Loc) (ls : Array Slot), lv_has ls 4 [(2, .int (Int32.ofInt (t : Int))), (1, .ref qn), (0, .ref h0)] → va_P D vwCl [(h0, .inr (1, [.ref q1, .ref q2, .int 0, .ref q3, .ref q4, .int 0])), (q1, .inl (cI, 128, .inl (jcF t))), (q2, .inl (cZ, 128, .inl (fun _ => Int32.ofInt 0))), (q3, .inl (cL, 35, .inr (.inl (fun _ => Int64.ofInt 0)))), (q4, .inl (cI, 35, .inl (fun _ => Int32.ofInt 0))), (qn, .inl (cI, 8, .inl (jcG t)))] H → va_D A [(h0, .inr (1, [.ref q1, .ref q2, .int 0, .ref q3, .ref q4, .int 0])), (q1, .inl (cI, 128, .inl (jcF t))), (q2, .inl (cZ, 128, .inl (fun _ => Int32.ofInt 0))), (q3, .inl (cL, 35, .inr (.inl (fun _ => Int64.ofInt 0)))), (q4, .inl (cI, 35, .inl (fun _ => Int32.ofInt 0))), (qn, .inl (cI, 8, .inl (jcG t)))] → va_S A s.heap H locs → W p l e R s m args below meth c H locs cells slots Q (F0 m 45 ls []) := by
  intro fu
  induction fu with
  | zero => intro t _ h; exact absurd h (Nat.not_lt_zero _)
  | succ fu ih =>
    intro t ht hfu H locs ls hl hP hD hS
    refine lv_iload_n hx hb dX1_init_45 rfl (lv_at hl 0 rfl) ?_
    refine lv_sipush (v := Int32.ofInt 128) hx hb dX1_init_46 (by decide) ?_
    have h1 : -2147483648 ≤ (t : Int) ∧ (t : Int) < 2147483648 := by omega
    have h2 : (-2147483648 : Int) ≤ 128 ∧ (128 : Int) < 2147483648 := by omega
    refine lv_icmp_ge (tgt := 79) hx hb dX1_init_49 (by decide) (fun q => ?_) (fun q => ?_)
    · simp only [Int32.le_iff_toInt_le, j_oi h1, j_oi h2] at q
      obtain rfl : t = 128 := by omega
      exact hend H locs ls hP hD hS
    · simp only [Int32.le_iff_toInt_le, j_oi h1, j_oi h2] at q
      have ht1 : t < 128 := by omega
      have hp8 : popc t < 8 := pc8 t ht1
      refine lv_iload_n hx hb dX1_init_52 rfl (lv_at hl 0 rfl) ?_
      refine va_calli (va_runS (As := [.int (Int32.ofInt (t : Int))]) (rest := []) ⟨hx, hb, hml, hown, hts⟩ (c_bitCount l (Int32.ofInt (t : Int))) ⟨callB_of (Ts := j_all) 1 hts (jc_good mJ6_bitCount_0f7a4 csJ6_bitCount_0f7a4.1.1) rfl rfl rfl (hts _ csJ6_bitCount_0f7a4.1.2.1) (hts _ mlX1_26) csJ6_bitCount_0f7a4.1.2.2.1 ⟨hfr, Nat.le_trans (Nat.le_of_ble_eq_true rfl) hlo⟩, hts _ csJ6_bitCount_0f7a4.2⟩ ⟨fun a U g mk q => q, fun U hU hW => ⟨rfl, trivial⟩⟩ rfl rfl hl.1 rfl (lv_room (Nat.le_of_ble_eq_true rfl)) dX1_init_53 ⟨hce, hsl⟩) hS (fun q _ h => h.elim) (fun q h => h.elim) (fun r u t9 H1 locs1 ht9 hvm hw hB hz1 hk1 hS => ?_)
      subst hw
      have hP : va_P D vwCl [(h0, .inr (1, [.ref q1, .ref q2, .int 0, .ref q3, .ref q4, .int 0])), (q1, .inl (cI, 128, .inl (jcF t))), (q2, .inl (cZ, 128, .inl (fun _ => Int32.ofInt 0))), (q3, .inl (cL, 35, .inr (.inl (fun _ => Int64.ofInt 0)))), (q4, .inl (cI, 35, .inl (fun _ => Int32.ofInt 0))), (qn, .inl (cI, 8, .inl (jcG t)))] H1 := hP.kept (fun k x hx => hk1 x.1 ((hP k x hx).lt) (fun h => h))
      rw [bcv_ok t ht1]
      have hb8 : 0 ≤ ((popc t : Nat) : Int) ∧ ((popc t : Nat) : Int) < ((8 : Nat) : Int) := by omega
      have hb128 : 0 ≤ (t : Int) ∧ (t : Int) < ((128 : Nat) : Int) := by omega
      have e8 : (Int32.ofInt ((popc t : Nat) : Int)).toNatClampNeg = popc t := by rw [j_tn (by decide) hb8]; rfl
      have e128 : (Int32.ofInt (t : Int)).toNatClampNeg = t := by rw [j_tn (by decide) hb128]; rfl
      refine lv_istore_n (lv' := [(3, .int (Int32.ofInt ((popc t : Nat) : Int))), (2, .int (Int32.ofInt (t : Int))), (1, .ref qn), (0, .ref h0)]) hx hb dX1_init_56 rfl hl (by decide) rfl (fun ls hl => ?_)
      refine lv_aload_n hx hb dX1_init_57 rfl (lv_at hl 3 rfl) ?_
      obtain ⟨C, T, N, ty, ⟨c1, c2, c3, c4⟩, hj, hl2, hC, hfin, htt, hzz⟩ := flX1_9
      refine va_get (D := D) (cl := vwCl) hx hb hts c2 hown hK hP 0 rfl c1 0 hj (hts _ hl2) (fun x h => by rw [hC] at h; exact h) rfl dX1_init_58 ?_
      refine lv_iload_n hx hb dX1_init_61 rfl (lv_at hl 1 rfl) ?_
      refine lv_aload_n hx hb dX1_init_62 rfl (lv_at hl 2 rfl) ?_
      refine lv_iload_n hx hb dX1_init_63 rfl (lv_at hl 0 rfl) ?_
      refine va_iald (D := D) (cl := vwCl) (f := jcG t) (n := 8) hx hb hK hP 5 0 rfl rfl (j_in (by decide) hb8) dX1_init_64 ?_
      rw [e8, jcG_v]
      refine va_iast (D := D) (cl := vwCl) (f := jcF t) (n := 128) hx hb hK hP hD hS 1 0 rfl rfl (j_in (by decide) hb128) dX1_init_65 (fun H2 locs2 hP hD hS => ?_)
      rw [e128, jcF_s] at hP hD
      have hP : va_P D vwCl [(h0, .inr (1, [.ref q1, .ref q2, .int 0, .ref q3, .ref q4, .int 0])), (q1, .inl (cI, 128, .inl (jcF (t + 1)))), (q2, .inl (cZ, 128, .inl (fun _ => Int32.ofInt 0))), (q3, .inl (cL, 35, .inr (.inl (fun _ => Int64.ofInt 0)))), (q4, .inl (cI, 35, .inl (fun _ => Int32.ofInt 0))), (qn, .inl (cI, 8, .inl (jcG t)))] H2 := hP
      have hD : va_D A [(h0, .inr (1, [.ref q1, .ref q2, .int 0, .ref q3, .ref q4, .int 0])), (q1, .inl (cI, 128, .inl (jcF (t + 1)))), (q2, .inl (cZ, 128, .inl (fun _ => Int32.ofInt 0))), (q3, .inl (cL, 35, .inr (.inl (fun _ => Int64.ofInt 0)))), (q4, .inl (cI, 35, .inl (fun _ => Int32.ofInt 0))), (qn, .inl (cI, 8, .inl (jcG t)))] := hD
      refine lv_aload_n hx hb dX1_init_66 rfl (lv_at hl 2 rfl) ?_
      refine lv_iload_n hx hb dX1_init_67 rfl (lv_at hl 0 rfl) ?_
      refine lv_dup2_11 hx hb dX1_init_68 rfl rfl ?_
      refine va_iald (D := D) (cl := vwCl) (f := jcG t) (n := 8) hx hb hK hP 5 0 rfl rfl (j_in (by decide) hb8) dX1_init_69 ?_
      rw [e8, jcG_v]
      refine lv_iconst (v := 1) hx hb dX1_init_70 (by decide) ?_
      refine lv_iadd hx hb dX1_init_71 ?_
      refine va_iast (D := D) (cl := vwCl) (f := jcG t) (n := 8) hx hb hK hP hD hS 5 0 rfl rfl (j_in (by decide) hb8) dX1_init_72 (fun H3 locs3 hP hD hS => ?_)
      rw [e8, jcG_s] at hP hD
      refine lv_iinc (k := 1) (v := Int32.ofInt ((t + 1 : Nat) : Int)) (lv' := [(2, .int (Int32.ofInt ((t + 1 : Nat) : Int))), (3, .int (Int32.ofInt ((popc t : Nat) : Int))), (1, .ref qn), (0, .ref h0)]) hx hb dX1_init_73 hl rfl (by rw [← Int32.ofInt_add]; rfl) (by decide) rfl (fun ls hl => ?_)
      refine lv_goto (tgt := 45) hx hb dX1_init_76 (by decide) ?_
      exact ih (t + 1) (by omega) (by omega) H3 locs3 ls (lv_sub hl [0, 2, 3] rfl) hP hD hS
set_option maxHeartbeats 4000000 in
set_option maxRecDepth 100000 in
theorem c_X1_init (l : Launch) (D : va_G) (cI cL cZ : ClassId) (h0 sz : Nat) : Met l yX1_init (j_ws mX1_init) (jc_rm 1 5 334) (va_Pc [.ref h0] (fun U => U.heap.size = sz ∧ va_P D vwCl [(h0, .inr (1, [.null, .null, .int 0, .null, .null, .int 0]))] U.heap ∧ va_K D vwCl (jc_ty cI cL cZ) U ∧ va_D (fun _ => True) [(h0, .inr (1, [.null, .null, .int 0, .null, .null, .int 0]))])) (va_Qv (fun _ : Unit => True) (fun _ t => ∃ q1 q2 q3 q4 : Nat, va_P D vwCl [(h0, .inr (1, [.ref q1, .ref q2, .int 0, .ref q3, .ref q4, .int 0])), (q1, .inl (cI, 128, .inl (jcF 128))), (q2, .inl (cZ, 128, .inl (fun _ => Int32.ofInt 0))), (q3, .inl (cL, 35, .inr (.inl (fun _ => Int64.ofInt 0)))), (q4, .inl (cI, 35, .inl (fun _ => Int32.ofInt 0)))] t.heap ∧ va_K D vwCl (jc_ty cI cL cZ) t ∧ va_D (va_A [(h0, .inr (1, [.null, .null, .int 0, .null, .null, .int 0]))] sz) [(h0, .inr (1, [.ref q1, .ref q2, .int 0, .ref q3, .ref q4, .int 0])), (q1, .inl (cI, 128, .inl (jcF 128))), (q2, .inl (cZ, 128, .inl (fun _ => Int32.ofInt 0))), (q3, .inl (cL, 35, .inr (.inl (fun _ => Int64.ofInt 0)))), (q4, .inl (cI, 35, .inl (fun _ => Int32.ofInt 0)))]) (va_A [(h0, .inr (1, [.null, .null, .int 0, .null, .null, .int 0]))] sz)) 5 334 (va_A [(h0, .inr (1, [.null, .null, .int 0, .null, .null, .int 0]))] sz) := by
  refine Met.ofW (cc := cX1_init) (maxL := 4) (ret := none) (by decide) rfl ?_
  intro p e s m args below meth c s₁ B hml hv
  obtain ⟨rfl, hsz, hP, hK, hD0⟩ := hv
  have hx := B.exec
  have hb := B.bytes
  have hr := B.returns
  have hts0 := atoms_spec (ws := j_ws mX1_init) B.pre
  have hts : ∀ w ∈ j_all, w.before _ s = true := fun w hw => hts0 w (List.mem_cons_of_mem _ hw)
  have hown : s.vm.findClass RX1 = some m.cls := findClass_of_methodNamed B.named
  have hlocks := B.notSynchronized
  have hin : meth.name = "<init>" := (name_of_methodNamed B.named B.method).1
  have hcI : s.vm.findClass ("[" ++ FieldType.int.toString) = some cI := (hK.2 0 _ rfl).2
  have hcL : s.vm.findClass ("[" ++ FieldType.long.toString) = some cL := (hK.2 1 _ rfl).2
  have hcZ : s.vm.findClass ("[" ++ FieldType.boolean.toString) = some cZ := (hK.2 2 _ rfl).2
  subst hsz
  have hD := hD0.self (sz := s.heap.size)
  generalize hAe : va_A [(h0, .inr (1, [.null, .null, .int 0, .null, .null, .int 0]))] s.heap.size = A at hD ⊢
  have hA : ∀ q : Nat, s.heap.size ≤ q → A q := fun q h => by rw [← hAe]; exact Or.inr h
  have hS : va_S A s.heap s.heap [] := va_S.rf
  have hl := lv_entry ([.ref h0]) (n := 4) (Nat.le_of_ble_eq_true rfl)
  rw [lg_entry_eq]
  generalize (lg_sl ([.ref h0]) ++ List.replicate (4 - (lg_sl ([.ref h0])).length) Slot.unset).toArray = ls at hl ⊢
  have hl : lv_has ls 4 [(0, .ref h0)] := hl
  refine lv_aload_n hx hb dX1_init_0 rfl (lv_at hl 0 rfl) ?_
  refine W.objInit hx hb hown (hts _ olkX1) (hts _ oin) (hts _ ocd) rfl (by rw [hml]; exact hl.1) rfl dX1_init_1 (Nat.le_of_ble_eq_true rfl) (Nat.le_of_ble_eq_true rfl) ?_
  refine W.eq (g2 := F0 m 4 ls []) rfl ?_
  refine lv_aload_n hx hb dX1_init_4 rfl (lv_at hl 0 rfl) ?_
  refine lv_sipush (v := 128) hx hb dX1_init_5 (by decide) ?_
  refine jc_newa (cA := cI) (atype := .int) (a0 := (128, .inl (fun _ => Int32.ofInt 0))) (N' := 128) hx hb (hts _ oaint) rfl hcI hP hD hS hA rfl (by decide) (by decide) (Nat.le_of_ble_eq_true rfl) (Nat.le_of_ble_eq_true rfl) (Nat.le_of_ble_eq_true rfl) dX1_init_8 (fun q1 H hP hD hS => ?_)
  have hP : va_P D vwCl [(h0, .inr (1, [.null, .null, .int 0, .null, .null, .int 0])), (q1, .inl (cI, 128, .inl (fun _ => Int32.ofInt 0)))] H := hP
  have hD : va_D A [(h0, .inr (1, [.null, .null, .int 0, .null, .null, .int 0])), (q1, .inl (cI, 128, .inl (fun _ => Int32.ofInt 0)))] := hD
  refine jc_putF (v := .ref q1) hx hb hts hown hin hK hP hD hS flX1_9 (fun C T N h => by cases h; rfl) 0 rfl rfl rfl (Nat.le_of_ble_eq_true rfl) dX1_init_10 (fun H locs hP hD hS => ?_)
  have hP : va_P D vwCl [(h0, .inr (1, [.ref q1, .null, .int 0, .null, .null, .int 0])), (q1, .inl (cI, 128, .inl (fun _ => Int32.ofInt 0)))] H := hP
  have hD : va_D A [(h0, .inr (1, [.ref q1, .null, .int 0, .null, .null, .int 0])), (q1, .inl (cI, 128, .inl (fun _ => Int32.ofInt 0)))] := hD
  refine lv_aload_n hx hb dX1_init_13 rfl (lv_at hl 0 rfl) ?_
  refine lv_sipush (v := 128) hx hb dX1_init_14 (by decide) ?_
  refine jc_newa (cA := cZ) (atype := .boolean) (a0 := (128, .inl (fun _ => Int32.ofInt 0))) (N' := 128) hx hb (hts _ oaboolean) rfl hcZ hP hD hS hA rfl (by decide) (by decide) (Nat.le_of_ble_eq_true rfl) (Nat.le_of_ble_eq_true rfl) (Nat.le_of_ble_eq_true rfl) dX1_init_17 (fun q2 H hP hD hS => ?_)
  have hP : va_P D vwCl [(h0, .inr (1, [.ref q1, .null, .int 0, .null, .null, .int 0])), (q1, .inl (cI, 128, .inl (fun _ => Int32.ofInt 0))), (q2, .inl (cZ, 128, .inl (fun _ => Int32.ofInt 0)))] H := hP
  have hD : va_D A [(h0, .inr (1, [.ref q1, .null, .int 0, .null, .null, .int 0])), (q1, .inl (cI, 128, .inl (fun _ => Int32.ofInt 0))), (q2, .inl (cZ, 128, .inl (fun _ => Int32.ofInt 0)))] := hD
  refine jc_putF (v := .ref q2) hx hb hts hown hin hK hP hD hS flX1_15 (fun C T N h => by cases h; rfl) 0 rfl rfl rfl (Nat.le_of_ble_eq_true rfl) dX1_init_19 (fun H locs hP hD hS => ?_)
  have hP : va_P D vwCl [(h0, .inr (1, [.ref q1, .ref q2, .int 0, .null, .null, .int 0])), (q1, .inl (cI, 128, .inl (fun _ => Int32.ofInt 0))), (q2, .inl (cZ, 128, .inl (fun _ => Int32.ofInt 0)))] H := hP
  have hD : va_D A [(h0, .inr (1, [.ref q1, .ref q2, .int 0, .null, .null, .int 0])), (q1, .inl (cI, 128, .inl (fun _ => Int32.ofInt 0))), (q2, .inl (cZ, 128, .inl (fun _ => Int32.ofInt 0)))] := hD
  refine lv_aload_n hx hb dX1_init_22 rfl (lv_at hl 0 rfl) ?_
  refine lv_bipush (v := 35) hx hb dX1_init_23 (by decide) ?_
  refine jc_newa (cA := cL) (atype := .long) (a0 := (35, .inr (.inl (fun _ => Int64.ofInt 0)))) (N' := 35) hx hb (hts _ oalong) rfl hcL hP hD hS hA rfl (by decide) (by decide) (Nat.le_of_ble_eq_true rfl) (Nat.le_of_ble_eq_true rfl) (Nat.le_of_ble_eq_true rfl) dX1_init_25 (fun q3 H hP hD hS => ?_)
  have hP : va_P D vwCl [(h0, .inr (1, [.ref q1, .ref q2, .int 0, .null, .null, .int 0])), (q1, .inl (cI, 128, .inl (fun _ => Int32.ofInt 0))), (q2, .inl (cZ, 128, .inl (fun _ => Int32.ofInt 0))), (q3, .inl (cL, 35, .inr (.inl (fun _ => Int64.ofInt 0))))] H := hP
  have hD : va_D A [(h0, .inr (1, [.ref q1, .ref q2, .int 0, .null, .null, .int 0])), (q1, .inl (cI, 128, .inl (fun _ => Int32.ofInt 0))), (q2, .inl (cZ, 128, .inl (fun _ => Int32.ofInt 0))), (q3, .inl (cL, 35, .inr (.inl (fun _ => Int64.ofInt 0))))] := hD
  refine jc_putF (v := .ref q3) hx hb hts hown hin hK hP hD hS flX1_19 (fun C T N h => by cases h; rfl) 0 rfl rfl rfl (Nat.le_of_ble_eq_true rfl) dX1_init_27 (fun H locs hP hD hS => ?_)
  have hP : va_P D vwCl [(h0, .inr (1, [.ref q1, .ref q2, .int 0, .ref q3, .null, .int 0])), (q1, .inl (cI, 128, .inl (fun _ => Int32.ofInt 0))), (q2, .inl (cZ, 128, .inl (fun _ => Int32.ofInt 0))), (q3, .inl (cL, 35, .inr (.inl (fun _ => Int64.ofInt 0))))] H := hP
  have hD : va_D A [(h0, .inr (1, [.ref q1, .ref q2, .int 0, .ref q3, .null, .int 0])), (q1, .inl (cI, 128, .inl (fun _ => Int32.ofInt 0))), (q2, .inl (cZ, 128, .inl (fun _ => Int32.ofInt 0))), (q3, .inl (cL, 35, .inr (.inl (fun _ => Int64.ofInt 0))))] := hD
  refine lv_aload_n hx hb dX1_init_30 rfl (lv_at hl 0 rfl) ?_
  refine lv_bipush (v := 35) hx hb dX1_init_31 (by decide) ?_
  refine jc_newa (cA := cI) (atype := .int) (a0 := (35, .inl (fun _ => Int32.ofInt 0))) (N' := 35) hx hb (hts _ oaint) rfl hcI hP hD hS hA rfl (by decide) (by decide) (Nat.le_of_ble_eq_true rfl) (Nat.le_of_ble_eq_true rfl) (Nat.le_of_ble_eq_true rfl) dX1_init_33 (fun q4 H hP hD hS => ?_)
  have hP : va_P D vwCl [(h0, .inr (1, [.ref q1, .ref q2, .int 0, .ref q3, .null, .int 0])), (q1, .inl (cI, 128, .inl (fun _ => Int32.ofInt 0))), (q2, .inl (cZ, 128, .inl (fun _ => Int32.ofInt 0))), (q3, .inl (cL, 35, .inr (.inl (fun _ => Int64.ofInt 0)))), (q4, .inl (cI, 35, .inl (fun _ => Int32.ofInt 0)))] H := hP
  have hD : va_D A [(h0, .inr (1, [.ref q1, .ref q2, .int 0, .ref q3, .null, .int 0])), (q1, .inl (cI, 128, .inl (fun _ => Int32.ofInt 0))), (q2, .inl (cZ, 128, .inl (fun _ => Int32.ofInt 0))), (q3, .inl (cL, 35, .inr (.inl (fun _ => Int64.ofInt 0)))), (q4, .inl (cI, 35, .inl (fun _ => Int32.ofInt 0)))] := hD
  refine jc_putF (v := .ref q4) hx hb hts hown hin hK hP hD hS flX1_23 (fun C T N h => by cases h; rfl) 0 rfl rfl rfl (Nat.le_of_ble_eq_true rfl) dX1_init_35 (fun H locs hP hD hS => ?_)
  have hP : va_P D vwCl [(h0, .inr (1, [.ref q1, .ref q2, .int 0, .ref q3, .ref q4, .int 0])), (q1, .inl (cI, 128, .inl (fun _ => Int32.ofInt 0))), (q2, .inl (cZ, 128, .inl (fun _ => Int32.ofInt 0))), (q3, .inl (cL, 35, .inr (.inl (fun _ => Int64.ofInt 0)))), (q4, .inl (cI, 35, .inl (fun _ => Int32.ofInt 0)))] H := hP
  have hD : va_D A [(h0, .inr (1, [.ref q1, .ref q2, .int 0, .ref q3, .ref q4, .int 0])), (q1, .inl (cI, 128, .inl (fun _ => Int32.ofInt 0))), (q2, .inl (cZ, 128, .inl (fun _ => Int32.ofInt 0))), (q3, .inl (cL, 35, .inr (.inl (fun _ => Int64.ofInt 0)))), (q4, .inl (cI, 35, .inl (fun _ => Int32.ofInt 0)))] := hD
  refine lv_bipush (v := 8) hx hb dX1_init_38 (by decide) ?_
  refine jc_newa (cA := cI) (atype := .int) (a0 := (8, .inl (fun _ => Int32.ofInt 0))) (N' := 8) hx hb (hts _ oaint) rfl hcI hP hD hS hA rfl (by decide) (by decide) (Nat.le_of_ble_eq_true rfl) (Nat.le_of_ble_eq_true rfl) (Nat.le_of_ble_eq_true rfl) dX1_init_40 (fun qn H hP hD hS => ?_)
  refine lv_astore_n (lv' := [(1, .ref qn), (0, .ref h0)]) hx hb dX1_init_42 rfl hl (by decide) rfl (fun ls hl => ?_)
  refine lv_iconst (v := Int32.ofInt ((0 : Nat) : Int)) hx hb dX1_init_43 (by decide) ?_
  refine lv_istore_n (lv' := [(2, .int (Int32.ofInt ((0 : Nat) : Int))), (1, .ref qn), (0, .ref h0)]) hx hb dX1_init_44 rfl hl (by decide) rfl (fun ls hl => ?_)
  have hP : va_P D vwCl [(h0, .inr (1, [.ref q1, .ref q2, .int 0, .ref q3, .ref q4, .int 0])), (q1, .inl (cI, 128, .inl (jcF 0))), (q2, .inl (cZ, 128, .inl (fun _ => Int32.ofInt 0))), (q3, .inl (cL, 35, .inr (.inl (fun _ => Int64.ofInt 0)))), (q4, .inl (cI, 35, .inl (fun _ => Int32.ofInt 0))), (qn, .inl (cI, 8, .inl (jcG 0)))] H := by rw [jcF_0, jcG_0]; exact hP
  have hD : va_D A [(h0, .inr (1, [.ref q1, .ref q2, .int 0, .ref q3, .ref q4, .int 0])), (q1, .inl (cI, 128, .inl (jcF 0))), (q2, .inl (cZ, 128, .inl (fun _ => Int32.ofInt 0))), (q3, .inl (cL, 35, .inr (.inl (fun _ => Int64.ofInt 0)))), (q4, .inl (cI, 35, .inl (fun _ => Int32.ofInt 0))), (qn, .inl (cI, 8, .inl (jcG 0)))] := by rw [jcF_0, jcG_0]; exact hD
  refine W.widen (k := 5) (n := 334) (Nat.le_of_ble_eq_true rfl) (Nat.le_of_ble_eq_true rfl) ?_
  refine X1_loop hx hb hml hts hown hK hA (Nat.le_of_ble_eq_true rfl) (Nat.le_of_ble_eq_true rfl) (Nat.le_of_ble_eq_true rfl) (Nat.le_of_ble_eq_true rfl) (fun H locs ls hP hD hS => ?_) 129 0 (by decide) (by decide) H _ ls hl hP hD hS
  have hP9 := hP.sub (ws' := [(h0, .inr (1, [.ref q1, .ref q2, .int 0, .ref q3, .ref q4, .int 0])), (q1, .inl (cI, 128, .inl (jcF 128))), (q2, .inl (cZ, 128, .inl (fun _ => Int32.ofInt 0))), (q3, .inl (cL, 35, .inr (.inl (fun _ => Int64.ofInt 0)))), (q4, .inl (cI, 35, .inl (fun _ => Int32.ofInt 0)))]) [0, 1, 2, 3, 4] rfl
  have hD9 := hD.sub (ws' := [(h0, .inr (1, [.ref q1, .ref q2, .int 0, .ref q3, .ref q4, .int 0])), (q1, .inl (cI, 128, .inl (jcF 128))), (q2, .inl (cZ, 128, .inl (fun _ => Int32.ofInt 0))), (q3, .inl (cL, 35, .inr (.inl (fun _ => Int64.ofInt 0)))), (q4, .inl (cI, 35, .inl (fun _ => Int32.ofInt 0)))]) [0, 1, 2, 3, 4] (by decide) rfl
  exact W.vret hx hb hr (fun t ht hW => ⟨⟨(), rfl, trivial, q1, q2, q3, q4, by rw [ht]; exact hP9, va_K.moved hW.alike hK, hD9⟩, hS.F ht⟩) hS.2.2 dX1_init_79
