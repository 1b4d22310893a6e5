/-! what the Statement gives of the start -/
def jg_tm (i : Nat) : Term := .string "ShellPeel$Tape" ([69, 78, 83, 93].getD i 0)
def jg_mm (i : Nat) : Term := .string "ShellPeelModel" ([145, 151, 121, 127].getD i 0)
abbrev jg_L : List Cond := flatC (Jvm.Cond.and given_1 narrow_1)
theorem jg_ex : ∀ i : Nat, i < 4 → Cond.exactly (jg_tm i) "java/lang/String" ∈ jg_L := by decide +kernel
theorem jg_co : ∀ i : Nat, i < 4 → Cond.eq (.field (jg_tm i) "java/lang/String" "coder" "B") (.int 0) ∈ jg_L := by decide +kernel
theorem jg_ar : ∀ i : Nat, i < 4 → Cond.arrayOf (.field (jg_tm i) "java/lang/String" "value" "[B") .byte ∈ jg_L := by decide +kernel
theorem jg_le : ∀ i : Nat, i < 4 → Cond.eq (.length (.field (jg_tm i) "java/lang/String" "value" "[B")) (.int (Int32.ofNat (j_len.getD i 0))) ∈ jg_L := by decide +kernel
theorem jg_el : ∀ i : Nat, i < 4 → ∀ j : Nat, j < j_len.getD i 0 → Cond.eq (.elem (.field (jg_tm i) "java/lang/String" "value" "[B") (.int (Int32.ofNat j))) (.int ((j_byt.getD i []).getD j 0)) ∈ jg_L := by decide +kernel
theorem jg_ne : ∀ i : Nat, i < 4 → ∀ j : Nat, j < 4 → i ≠ j → Cond.not (Cond.eq (jg_tm i) (jg_tm j)) ∈ jg_L ∨ Cond.not (Cond.eq (jg_tm j) (jg_tm i)) ∈ jg_L := by decide +kernel
theorem jg_eq : ∀ i : Nat, i < 4 → Cond.eq (jg_tm i) (jg_mm i) ∈ jg_L ∨ Cond.eq (jg_mm i) (jg_tm i) ∈ jg_L := by decide +kernel
theorem jg_nb : Cond.exactly (.string "ShellPeel" 315) "java/lang/String" ∈ jg_L := by decide +kernel
theorem jg_cs : Cond.eq (.static "java/lang/String" "COMPACT_STRINGS" "Z") (.int 1) ∈ jg_L := by decide +kernel
theorem jg_fm : Cond.isRef (.static "jdk/internal/util/Preconditions" "SIOOBE_FORMATTER" "Ljava/util/function/BiFunction;") ∈ jg_L := by decide +kernel
theorem jg_us : Cond.isRef (.static Bundle.tN "UNASSIGNED_STACK" Bundle.steD) ∈ jg_L := by decide +kernel
theorem jg_ss : Cond.isRef (.static Bundle.tN "SUPPRESSED_SENTINEL" Bundle.listD) ∈ jg_L := by decide +kernel
theorem jg_ca : Cond.arrayOf (.static "ShellPeel$Facets" "CHOICES" "[I") .int ∈ jg_L := by decide +kernel
theorem jg_cl : Cond.eq (.length (.static "ShellPeel$Facets" "CHOICES" "[I")) (.int (Int32.ofNat 36)) ∈ jg_L := by decide +kernel
theorem jg_ce : ∀ j : Nat, j < 36 → Cond.eq (.elem (.static "ShellPeel$Facets" "CHOICES" "[I") (.int (Int32.ofNat j))) (.int (Int32.ofInt (j_chs.getD j 0))) ∈ jg_L := by decide +kernel
theorem jt_cs : lw_tbl[393]? = some (Cond.laysStatic "java/lang/String" "COMPACT_STRINGS" "Z") := by decide +kernel
theorem jt_fm : lw_tbl[409]? = some (Cond.laysStatic "jdk/internal/util/Preconditions" "SIOOBE_FORMATTER" "Ljava/util/function/BiFunction;") := by decide +kernel
theorem jt_us : lw_tbl[1095]? = some (Cond.laysStatic Bundle.tN "UNASSIGNED_STACK" Bundle.steD) := by decide +kernel
theorem jt_ss : lw_tbl[1097]? = some (Cond.laysStatic Bundle.tN "SUPPRESSED_SENTINEL" Bundle.listD) := by decide +kernel
theorem jt_ch : lw_tbl[588]? = some (Cond.laysStatic "ShellPeel$Facets" "CHOICES" "[I") := by decide +kernel
theorem ji_cs : lw_tbl[108]? = some (Cond.initialized "java/lang/String") := by decide +kernel
theorem ji_fm : lw_tbl[110]? = some (Cond.initialized "jdk/internal/util/Preconditions") := by decide +kernel
theorem ji_th : lw_tbl[112]? = some (Cond.initialized "java/lang/Throwable") := by decide +kernel
theorem ji_fa : lw_tbl[100]? = some (Cond.initialized "ShellPeel$Facets") := by decide +kernel
theorem js_0 : lw_tbl[379]? = some (Cond.stringRef "ShellPeel$Tape" 69 "complex") := by decide +kernel
theorem js_1 : lw_tbl[450]? = some (Cond.stringRef "ShellPeel$Tape" 78 "facet") := by decide +kernel
theorem js_2 : lw_tbl[440]? = some (Cond.stringRef "ShellPeel$Tape" 83 "points") := by decide +kernel
theorem js_3 : lw_tbl[449]? = some (Cond.stringRef "ShellPeel$Tape" 93 "size") := by decide +kernel
theorem js_4 : lw_tbl[1281]? = some (Cond.stringRef "ShellPeelModel" 145 "complex") := by decide +kernel
theorem js_5 : lw_tbl[1302]? = some (Cond.stringRef "ShellPeelModel" 151 "facet") := by decide +kernel
theorem js_6 : lw_tbl[1296]? = some (Cond.stringRef "ShellPeelModel" 121 "points") := by decide +kernel
theorem js_7 : lw_tbl[1301]? = some (Cond.stringRef "ShellPeelModel" 127 "size") := by decide +kernel
theorem js_8 : lw_tbl[1107]? = some (Cond.stringRef "ShellPeel" 315 "no such break") := by decide +kernel
theorem jd_r : lw_tbl[1072]? = some (Cond.declares (Bundle.initS "java/lang/RuntimeException")) := by decide +kernel
theorem jd_e : lw_tbl[1074]? = some (Cond.declares (Bundle.initS "java/lang/Exception")) := by decide +kernel
theorem jd_t : lw_tbl[1076]? = some (Cond.declares (Bundle.initS "java/lang/Throwable")) := by decide +kernel
theorem jd_c : lw_tbl[1070]? = some (Cond.castable "java/util/NoSuchElementException" "java/util/NoSuchElementException") := by decide +kernel
theorem jn_0 : lw_tbl[126]? = some (Cond.methodLinkNest RX6 9 yX5_init "ShellPeel") := by decide +kernel
theorem jn_1 : lw_tbl[180]? = some (Cond.methodLinkNest RX6 18 yX0_init "ShellPeel") := by decide +kernel
theorem jn_2 : lw_tbl[224]? = some (Cond.methodLinkNest RX6 25 yX3_init "ShellPeel") := by decide +kernel
theorem jn_3 : lw_tbl[268]? = some (Cond.methodLinkNest RX6 39 yX2_init "ShellPeel") := by decide +kernel
theorem jn_4 : lw_tbl[290]? = some (Cond.methodLinkNest RX6 46 yX4_init "ShellPeel") := by decide +kernel
theorem jn_5 : lw_tbl[963]? = some (Cond.methodLinkNest "ShellPeel" 277 yX4_falls "ShellPeel") := by decide +kernel
theorem jn_6 : lw_tbl[986]? = some (Cond.methodLinkNest "ShellPeel" 284 yX4_leastPoint "ShellPeel") := by decide +kernel
theorem jg_evq {args : Array Value} {s : State} {t u : Term} {a : Nat} (h : (Cond.eq t u).before args s = true) (hu : t.eval args s none [] s = some (.ref a)) : u.eval args s none [] s = some (.ref a) := by
  cases hv : u.eval args s none [] s with
  | none => simp [Cond.before, Cond.holds, Cond.value, hu, hv] at h
  | some x =>
    cases x <;> simp_all [Cond.before, Cond.holds, Cond.value]
theorem jg_evq2 {args : Array Value} {s : State} {t u : Term} {a : Nat} (h : (Cond.eq u t).before args s = true) (hu : t.eval args s none [] s = some (.ref a)) : u.eval args s none [] s = some (.ref a) := by
  cases hv : u.eval args s none [] s with
  | none => simp [Cond.before, Cond.holds, Cond.value, hu, hv] at h
  | some x =>
    cases x <;> simp_all [Cond.before, Cond.holds, Cond.value]
/-- the statics and texts, with addresses chosen -/
theorem jg_start {args : Array Value} {s : State} {A : Nat → Prop} (hA : ∀ a : Nat, a < s.heap.size → ¬ A a) (hg : ∀ w ∈ jg_L, w.before args s = true) (ht : ∀ w ∈ lw_tbl, w.before args s = true) :
    ∃ (Tx : Nat → Nat) (row : Nat), ∀ (D : va_G) (ad : Nat → Nat) (kd : Nat → ClassId) (b : Nat), j_st (D, ad, kd, Tx, (fun _ => 0), row, b) A s s.heap ∧ jx_st (D, ad, kd, Tx, (fun _ => 0), row, b) A s s.heap := by
  have hq : ∀ {k : Nat} {w : Cond}, lw_tbl[k]? = some w → w.before args s = true := fun h => ht _ (List.mem_of_getElem? h)
  obtain ⟨adK, adV, hS, hev⟩ := vk_Sof (args := args) (s := s) (N := 4) (tm := jg_tm) (len := j_len) (byt := j_byt) (A := A) (by decide) (fun i hi => hg _ (jg_ex i hi)) (fun i hi => hg _ (jg_co i hi)) (fun i hi => hg _ (jg_ar i hi)) (fun i hi => hg _ (jg_le i hi)) (fun i hi j hj => hg _ (jg_el i hi j hj)) (fun i j hi hj hn => (jg_ne i hi j hj hn).elim (fun h => Or.inl (hg _ h)) (fun h => Or.inr (hg _ h))) hA
  obtain ⟨row, hrow, hT⟩ := va_Tof (args := args) (s := s) (tm := .static "ShellPeel$Facets" "CHOICES" "[I") (ty := .int) (N := 36) (f := fun j => .int (Int32.ofInt (j_chs.getD j 0))) (A := A) (by decide) (hg _ jg_ca) (va_eqt (hg _ jg_cl)) (fun j hj => va_eqt (hg _ (jg_ce j hj))) hA
  have hCh := va_Zof (A := A) (hq jt_ch) (hq ji_fa) hrow hA
  have hCs := va_Zof (A := A) (hq jt_cs) (hq ji_cs) (va_eqt (hg _ jg_cs)) hA
  obtain ⟨fm, hfm⟩ : ∃ fm : Nat, va_Z "jdk/internal/util/Preconditions" "SIOOBE_FORMATTER" "Ljava/util/function/BiFunction;" (j_fm fm) A s s.heap := by
    rcases va_Zqof (A := A) (hq jt_fm) (hq ji_fm) (hg _ jg_fm) hA with h | ⟨t, h⟩
    · exact ⟨0, h⟩
    · exact ⟨t + 1, h⟩
  have hU := vx_Zqof (A := A) (hq jt_us) (hq ji_th) (hg _ jg_us) hA
  have hN := vx_Zqof (A := A) (hq jt_ss) (hq ji_th) (hg _ jg_ss) hA
  obtain ⟨sa, hsa⟩ : ∃ sa : Nat, (Term.string "ShellPeel" 315).eval args s none [] s = some (.ref sa) := by
    have h := hg _ jg_nb
    cases hv : (Term.string "ShellPeel" 315).eval args s none [] s with
    | none => simp [Cond.before, Cond.holds, Cond.value, hv] at h
    | some x =>
      cases x with
      | ref a => exact ⟨a, rfl⟩
      | null => cases hf : s.vm.findClass "java/lang/String" <;> simp [Cond.before, Cond.holds, Cond.value, hv, hf] at h
      | _ => simp [Cond.before, Cond.holds, Cond.value, hv] at h
  have hmm : ∀ i : Nat, i < 4 → (jg_mm i).eval args s none [] s = some (.ref (adK i)) := by
    intro i hi
    rcases jg_eq i hi with h | h
    · exact jg_evq (hg _ h) (hev i hi)
    · exact jg_evq2 (hg _ h) (hev i hi)
  refine ⟨fun k => if k < 4 then adK k else if k = 8 then sa else if k = 9 then fm else adV (k - 10), row, fun D ad kd b => ⟨⟨hCh, hT, ?_, ?_, hCs, hfm, ?_⟩, hU, hN, vk_R.of (hq js_8) hsa, va_Nw.of rfl (hq jd_c), va_Nw.of rfl (hq jd_r), va_Nw.of rfl (hq jd_e), va_Nw.of rfl (hq jd_t)⟩⟩
  · refine ⟨fun i hi => ?_, fun i j hi hj h => ?_⟩
    · have e1 : (if i < 4 then adK i else if i = 8 then sa else if i = 9 then fm else adV (i - 10)) = adK i := if_pos hi
      have e2 : (if 10 + i < 4 then adK (10 + i) else if 10 + i = 8 then sa else if 10 + i = 9 then fm else adV (10 + i - 10)) = adV i := by
        rw [if_neg (by omega), if_neg (by omega), if_neg (by omega), Nat.add_sub_cancel_left]
      show va_O "java/lang/String" (if i < 4 then adK i else if i = 8 then sa else if i = 9 then fm else adV (i - 10)) A s s.heap ∧ va_OF "java/lang/String" "coder" "B" (.int 0) (if i < 4 then adK i else if i = 8 then sa else if i = 9 then fm else adV (i - 10)) A s s.heap ∧ va_OF "java/lang/String" "value" "[B" (.ref (if 10 + i < 4 then adK (10 + i) else if 10 + i = 8 then sa else if 10 + i = 9 then fm else adV (10 + i - 10))) (if i < 4 then adK i else if i = 8 then sa else if i = 9 then fm else adV (i - 10)) A s s.heap ∧ va_T .byte (if 10 + i < 4 then adK (10 + i) else if 10 + i = 8 then sa else if 10 + i = 9 then fm else adV (10 + i - 10)) (j_len.getD i 0) (fun j => .int ((j_byt.getD i []).getD j 0)) A s s.heap
      rw [e1, e2]
      exact hS.1 i hi
    · have e1 : (if i < 4 then adK i else if i = 8 then sa else if i = 9 then fm else adV (i - 10)) = adK i := if_pos hi
      have e2 : (if j < 4 then adK j else if j = 8 then sa else if j = 9 then fm else adV (j - 10)) = adK j := if_pos hj
      exact hS.2 i j hi hj (e1.symm.trans (h.trans e2))
  · intro q hq9
    simp only [j_texts, List.mem_cons, List.not_mem_nil, or_false] at hq9
    rcases hq9 with rfl | rfl | rfl | rfl | rfl | rfl | rfl | rfl
    · exact vk_R.of (hq js_0) (hev 0 (by decide))
    · exact vk_R.of (hq js_1) (hev 1 (by decide))
    · exact vk_R.of (hq js_2) (hev 2 (by decide))
    · exact vk_R.of (hq js_3) (hev 3 (by decide))
    · exact vk_R.of (hq js_4) (hmm 0 (by decide))
    · exact vk_R.of (hq js_5) (hmm 1 (by decide))
    · exact vk_R.of (hq js_6) (hmm 2 (by decide))
    · exact vk_R.of (hq js_7) (hmm 3 (by decide))
  · intro q hq9
    simp only [j_nst, List.mem_cons, List.not_mem_nil, or_false] at hq9
    rcases hq9 with rfl | rfl
    · exact va_Nw.of rfl (hq jn_5)
    · exact va_Nw.of rfl (hq jn_6)
theorem jg_N {args : Array Value} {s : State} (ht : ∀ w ∈ lw_tbl, w.before args s = true) : jc_N s := by
  have hq : ∀ {k : Nat} {w : Cond}, lw_tbl[k]? = some w → w.before args s = true := fun h => ht _ (List.mem_of_getElem? h)
  intro q hq9
  simp only [jc_nst, List.mem_cons, List.not_mem_nil, or_false] at hq9
  rcases hq9 with rfl | rfl | rfl | rfl | rfl
  · exact va_Nw.of rfl (hq jn_0)
  · exact va_Nw.of rfl (hq jn_1)
  · exact va_Nw.of rfl (hq jn_2)
  · exact va_Nw.of rfl (hq jn_3)
  · exact va_Nw.of rfl (hq jn_4)
