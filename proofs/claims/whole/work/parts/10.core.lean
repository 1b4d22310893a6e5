/-! THE LAYER: a judgement J over pure states (locals, stack, memory of numbers), each instruction a rule. -/
abbrev jV : Type := Nat × Int
abbrev jM : Type := Nat → Int → Int
/-- places: (tables), cells, array kinds, texts, their rows, the static row, the script -/
abbrev jE : Type := va_G × (Nat → Nat) × (Nat → ClassId) × (Nat → Nat) × (Nat → Nat) × Nat × Nat
abbrev jI : Type := MethodName × ByteArray × Nat × Option FieldType
abbrev jX : Type := Nat → List jV → List jV → jM → Prop
/-- a static that may be null: 0 null, n + 1 the cell n -/
def j_fm : Nat → Value
  | 0 => .null
  | n + 1 => .ref n
theorem j_fm_cat (n : Nat) : (j_fm n).category = 1 := by cases n <;> rfl
def j_cv (E : jE) : jV → Value
  | (0, z) => .int (Int32.ofInt z)
  | (1, z) => .long (Int64.ofInt z)
  | (3, z) => .double (UInt64.ofNat z.toNat)
  | (4, z) => .ref (E.2.2.2.1 z.toNat)
  | (5, _) => .ref E.2.2.2.2.2.2
  | (6, _) => .ref E.2.2.2.2.2.1
  | (7, _) => j_fm (E.2.2.2.1 9)
  | (k + 10, _) => .ref (E.2.1 k)
  | (_, _) => .null
def j_all : List Cond := lw_tbl.filter goodWord
def j_ws (mi : jI) : List Cond := .code mi.1 mi.2.1 mi.2.2.1 mi.2.2.2 :: j_all
def j_rm (d : Nat) : Room := { frames := d, cells := 0, slots := 0, locals := 40 * d }
/-- the cells: (0, kind, fields: none a number, some r the cell r), (1, n) ints, (2, n) longs, (3, n) booleans -/
def j_sh : List (Nat × Nat × List (Option Nat)) := [
  (0, 6, [some 1, some 4, some 9, some 11, some 16, some 20, none]),
  (0, 5, [some 2, none, none, none, some 3, none, none, none, none, none, none, none, none]),
  (1, 200, []), (1, 12, []),
  (0, 0, [none, none, none, some 5, some 6, some 7, some 8]),
  (1, 12, []), (1, 7, []), (1, 128, []), (1, 84, []),
  (0, 3, [some 10]), (1, 12, []),
  (0, 1, [some 12, some 13, none, some 14, some 15, none]),
  (1, 128, []), (3, 128, []), (2, 35, []), (1, 35, []),
  (0, 2, [none, some 17, some 18, some 19]),
  (1, 4096, []), (1, 4096, []), (1, 4096, []),
  (0, 4, [none, some 21, some 22]), (1, 128, []), (1, 128, []),
  (0, 7, [none, none, none, none, some 24, none, none, none, none, some 25, some 26, none, none, none, none, none, none, none, none, none, none, none, some 27, some 28, some 29, some 30, some 31, none, some 32, some 33, some 34, some 35, some 36, none]),
  (1, 200, []), (1, 12, []), (1, 12, []), (1, 12, []), (3, 128, []), (2, 128, []), (1, 128, []), (1, 128, []), (1, 128, []),
  (1, 4096, []), (1, 4096, []), (1, 12, []), (1, 12, []),
  (2, 1, [])]
def j_fs (E : jE) (f : Int → Int) : Nat → List (Option Nat) → List Value
  | _, [] => []
  | j, none :: t => .int (Int32.ofInt (f (j : Int))) :: j_fs E f (j + 1) t
  | j, some r :: t => .ref (E.2.1 r) :: j_fs E f (j + 1) t
def j_cell (E : jE) (f : Int → Int) : Nat × Nat × List (Option Nat) → va_E
  | (0, ci, fl) => .inr (ci, j_fs E f 0 fl)
  | (1, n, _) => .inl (E.2.2.1 0, n, .inl (fun j => Int32.ofInt (f (j : Int))))
  | (2, n, _) => .inl (E.2.2.1 1, n, .inr (.inl (fun j => Int64.ofInt (f (j : Int)))))
  | (_, n, _) => .inl (E.2.2.1 2, n, .inl (fun j => Int32.ofInt (f (j : Int))))
def j_wg (E : jE) (M : jM) : Nat → List (Nat × Nat × List (Option Nat)) → va_W
  | _, [] => []
  | k, q :: t => (E.2.1 k, j_cell E (M k) q) :: j_wg E M (k + 1) t
def j_w (E : jE) (M : jM) : va_W := j_wg E M 0 j_sh
def j_up (M : jM) (k : Nat) (z v : Int) : jM := fun k' => if k' = k then (fun z' => if z' = z then v else M k z') else M k'
def j_ty (E : jE) : List (ClassId × FieldType) := [(E.2.2.1 0, .int), (E.2.2.1 1, .long), (E.2.2.1 2, .boolean)]
theorem j_wg_at (E : jE) (M : jM) : ∀ (l : List (Nat × Nat × List (Option Nat))) (o k : Nat), (j_wg E M o l)[k]? = l[k]?.map (fun q => (E.2.1 (o + k), j_cell E (M (o + k)) q)) := by
  intro l
  induction l with
  | nil => intro o k; simp [j_wg]
  | cons a t ih =>
    intro o k
    cases k with
    | zero => simp [j_wg]
    | succ k =>
      rw [show j_wg E M o (a :: t) = (E.2.1 o, j_cell E (M o) a) :: j_wg E M (o + 1) t from rfl, List.getElem?_cons_succ, ih, List.getElem?_cons_succ, show o + 1 + k = o + (k + 1) by omega]
theorem j_w_at {E : jE} {M : jM} {k : Nat} {q : Nat × Nat × List (Option Nat)} (h : j_sh[k]? = some q) : (j_w E M)[k]? = some (E.2.1 k, j_cell E (M k) q) := by
  unfold j_w
  rw [j_wg_at, h]
  simp
theorem j_w_up {E : jE} {M : jM} {k : Nat} {z v : Int} {q : Nat × Nat × List (Option Nat)} {e : va_E} (h : j_sh[k]? = some q) (he : e = j_cell E (j_up M k z v k) q) : (j_w E M).set k (E.2.1 k, e) = j_w E (j_up M k z v) := by
  apply List.ext_getElem?
  intro j
  subst he
  rw [List.getElem?_set]
  unfold j_w
  rw [j_wg_at, j_wg_at]
  by_cases hj : k = j
  · subst hj
    have hlt : k < (j_wg E M 0 j_sh).length := by
      rcases Nat.lt_or_ge k (j_wg E M 0 j_sh).length with q | q
      · exact q
      · have := List.getElem?_eq_none_iff.mpr q
        rw [j_wg_at, h] at this
        simp at this
    rw [if_pos rfl, if_pos hlt, h]
    simp
  · rw [if_neg hj]
    have : j_up M k z v (0 + j) = M (0 + j) := by
      unfold j_up
      rw [if_neg (by omega)]
    rw [this]
theorem j_fs_get {E : jE} {f : Int → Int} : ∀ (l : List (Option Nat)) (o j : Nat), (j_fs E f o l)[j]? = l[j]?.map (fun x => match x with | none => .int (Int32.ofInt (f ((o + j : Nat) : Int))) | some r => .ref (E.2.1 r)) := by
  intro l
  induction l with
  | nil => intro o j; simp [j_fs]
  | cons a t ih =>
    intro o j
    cases a with
    | none =>
      cases j with
      | zero => simp [j_fs]
      | succ j => rw [show j_fs E f o (none :: t) = .int (Int32.ofInt (f (o : Int))) :: j_fs E f (o + 1) t from rfl, List.getElem?_cons_succ, ih, List.getElem?_cons_succ, show o + 1 + j = o + (j + 1) by omega]
    | some r =>
      cases j with
      | zero => simp [j_fs]
      | succ j => rw [show j_fs E f o (some r :: t) = .ref (E.2.1 r) :: j_fs E f (o + 1) t from rfl, List.getElem?_cons_succ, ih, List.getElem?_cons_succ, show o + 1 + j = o + (j + 1) by omega]
theorem j_fs_set {E : jE} {M : jM} {k j : Nat} {v : Int} {fl : List (Option Nat)} (h : fl[j]? = some none) : (j_fs E (M k) 0 fl).set j (.int (Int32.ofInt v)) = j_fs E (j_up M k (j : Int) v k) 0 fl := by
  apply List.ext_getElem?
  intro i
  rw [List.getElem?_set, j_fs_get, j_fs_get]
  by_cases hi : j = i
  · subst hi
    have hlt : j < (j_fs E (M k) 0 fl).length := by
      rcases Nat.lt_or_ge j (j_fs E (M k) 0 fl).length with q | q
      · exact q
      · have := List.getElem?_eq_none_iff.mpr q
        rw [j_fs_get, h] at this
        simp at this
    rw [if_pos rfl, if_pos hlt, h]
    simp [j_up]
  · rw [if_neg hi]
    cases fl[i]? with
    | none => rfl
    | some x =>
      cases x with
      | some r => rfl
      | none =>
        have : j_up M k (j : Int) v k (i : Int) = M k (i : Int) := by
          unfold j_up
          rw [if_pos rfl, if_neg (by omega)]
        simp [this]
/-- locals by their places; tag 9: unknown -/
def j_as (E : jE) : Nat → List jV → List (Nat × Value)
  | _, [] => []
  | i, v :: L => if v.1 = 9 then j_as E (i + 1) L else (i, j_cv E v) :: j_as E (i + 1) L
theorem j_as_mem {E : jE} : ∀ (L : List jV) (i k : Nat) (v : jV), L[k]? = some v → ¬ v.1 = 9 → (i + k, j_cv E v) ∈ j_as E i L := by
  intro L
  induction L with
  | nil => intro i k v h; simp at h
  | cons a t ih =>
    intro i k v h h9
    cases k with
    | zero =>
      simp at h
      subst h
      simp [j_as, h9]
    | succ k =>
      have := ih (i + 1) k v (by simpa using h) h9
      rw [show i + 1 + k = i + (k + 1) by omega] at this
      unfold j_as
      split
      · exact this
      · exact List.mem_cons_of_mem _ this
theorem j_as_of {E : jE} : ∀ (L : List jV) (i : Nat) (q : Nat × Value), q ∈ j_as E i L → ∃ (k : Nat) (v : jV), L[k]? = some v ∧ ¬ v.1 = 9 ∧ q = (i + k, j_cv E v) := by
  intro L
  induction L with
  | nil => intro i q h; simp [j_as] at h
  | cons a t ih =>
    intro i q h
    unfold j_as at h
    split at h
    · obtain ⟨k, v, h1, h2, h3⟩ := ih _ _ h
      exact ⟨k + 1, v, by simpa using h1, h2, by rw [h3]; congr 1; omega⟩
    · rename_i h9
      rcases List.mem_cons.mp h with h | h
      · exact ⟨0, a, by simp, h9, by rw [h]; rfl⟩
      · obtain ⟨k, v, h1, h2, h3⟩ := ih _ _ h
        exact ⟨k + 1, v, by simpa using h1, h2, by rw [h3]; congr 1; omega⟩
/-- what stands beside the world and never changes: the static row of ways, the texts -/
def j_chs : List Int := [1, 0, 0, 0, 0, 0, 1, 1, 0, 0, 0, 0, 1, 2, 1, 0, 0, 0, 1, 3, 3, 1, 0, 0, 1, 4, 6, 4, 1, 0, 1, 5, 10, 10, 5, 1]
def j_len : List Nat := [7, 5, 6, 4]
def j_byt : List (List Int32) := [[99, 111, 109, 112, 108, 101, 120], [102, 97, 99, 101, 116], [112, 111, 105, 110, 116, 115], [115, 105, 122, 101]]
def j_texts : List (String × Nat × String × Nat) := [("ShellPeel$Tape", 69, "complex", 0), ("ShellPeel$Tape", 78, "facet", 1), ("ShellPeel$Tape", 83, "points", 2), ("ShellPeel$Tape", 93, "size", 3), ("ShellPeelModel", 145, "complex", 0), ("ShellPeelModel", 151, "facet", 1), ("ShellPeelModel", 121, "points", 2), ("ShellPeelModel", 127, "size", 3)]
/-- private methods of a nest mate -/
def j_nst : List (String × Nat × MethodName × String) := [("ShellPeel", 277, yX4_falls, "ShellPeel"), ("ShellPeel", 284, yX4_leastPoint, "ShellPeel")]
def j_st (E : jE) (A : Nat → Prop) (U : State) (H : Heap) : Prop :=
  va_Z "ShellPeel$Facets" "CHOICES" "[I" (.ref E.2.2.2.2.2.1) A U H ∧ va_T .int E.2.2.2.2.2.1 36 (fun j => .int (Int32.ofInt (j_chs.getD j 0))) A U H ∧
  vk_S 4 j_len j_byt E.2.2.2.1 (fun i => E.2.2.2.1 (10 + i)) A U H ∧ (∀ q ∈ j_texts, vk_R q.1 q.2.1 q.2.2.1 (E.2.2.2.1 q.2.2.2) U) ∧
  va_Z "java/lang/String" "COMPACT_STRINGS" "Z" (.int 1) A U H ∧ va_Z "jdk/internal/util/Preconditions" "SIOOBE_FORMATTER" "Ljava/util/function/BiFunction;" (j_fm (E.2.2.2.1 9)) A U H ∧
  (∀ q ∈ j_nst, va_Nw (.methodLinkNest q.1 q.2.1 q.2.2.1 q.2.2.2) U)
theorem j_st_at {E : jE} {A B : Nat → Prop} {s U : State} {H1 : Heap} (h : j_st E A s s.heap) (hq : ∀ a : Nat, a < s.heap.size → ¬ A a → H1[a]? = s.heap[a]?) (hW : s.WarmedH U.vm) (hAB : ∀ q, B q → A q) : j_st E B U H1 := by
  obtain ⟨h1, h2, h3, h4, h5, h6, h7⟩ := h
  exact ⟨((h1.kept hq).narrow hAB).moved hW.alike, ((h2.kept hq).narrow hAB).moved hW.alike, ((h3.kept hq).narrow hAB).moved hW.alike, fun q hq' => (h4 q hq').warm hW, ((h5.kept hq).narrow hAB).moved hW.alike, ((h6.kept hq).narrow hAB).moved hW.alike, fun q hq' => (h7 q hq').warmM hW⟩
theorem j_st_calling {E : jE} {A : Nat → Prop} {U : State} {H : Heap} {g : JFrame} {mk : MethodId} {a : Array Value} (h : j_st E A U H) : j_st E A (U.calling g mk a) H := by
  obtain ⟨h1, h2, h3, h4, h5, h6, h7⟩ := h
  exact ⟨h1.moved (Vm.Alike.refl U.vm), h2.moved (Vm.Alike.refl U.vm), h3.moved (Vm.Alike.refl U.vm), fun q hq' => (h4 q hq').same rfl, h5.moved (Vm.Alike.refl U.vm), h6.moved (Vm.Alike.refl U.vm), fun q hq' => va_Nw.same (u := U) rfl rfl (h7 q hq')⟩
/-- the script, where there is one -/
def j_scr (E : jE) (z : Option (Nat × (Nat → Int))) (A : Nat → Prop) (s : State) : Prop := ∀ (n : Nat) (xs : Nat → Int), z = some (n, xs) → va_X E.2.2.2.2.2.2 n (fun j => Int32.ofInt (xs j)) s s.heap ∧ E.2.2.2.2.2.2 < s.heap.size ∧ ¬ A E.2.2.2.2.2.2
/-- what stays through a method's walk -/
def j_fix (d : Nat) (mi : jI) (p : Program) (R : Room) (s : State) (m : MethodId) (args : Array Value) (c : Code) (cells slots : Nat) (E : jE) (A : Nat → Prop) : Prop :=
  p.tables.exec = Jvm.exec ∧ c.code = mi.2.1 ∧ c.maxLocals = mi.2.2.1 ∧ s.vm.findClass mi.1.cls = some m.cls ∧ (∀ w ∈ j_all, w.before args s = true) ∧ va_K E.1 vwCl (j_ty E) s ∧ (∀ q, s.heap.size ≤ q → A q) ∧ d ≤ R.frames ∧ 40 * d ≤ R.locals ∧ cells ≤ R.cells ∧ slots ≤ R.slots ∧ j_st E A s s.heap
def j_H (E : jE) (A : Nat → Prop) (s : State) (M : jM) (H : Heap) (locs : List Loc) : Prop := va_P E.1 vwCl (j_w E M) H ∧ va_D A (j_w E M) ∧ va_S A s.heap H locs
def j_L (E : jE) (n : Nat) (L : List jV) (ls : Array Slot) : Prop := lv_has ls n (j_as E 0 L)
def J (sc : Option (Nat × (Nat → Int))) (d : Nat) (mi : jI) (pc : Nat) (L st : List jV) (M : jM) (X : jX) : Prop :=
  ∀ (p : Program) (l : Launch) (e : Env) (R : Room) (s : State) (m : MethodId) (args : Array Value) (below : List Frame) (meth : Method) (c : Code) (cells slots : Nat) (Q : State → Prop) (E : jE) (A : Nat → Prop),
    j_fix d mi p R s m args c cells slots E A → j_scr E sc A s →
    (∀ (pc' : Nat) (L' st' : List jV) (M' : jM) (H' : Heap) (locs' : List Loc) (ls' : Array Slot), X pc' L' st' M' → j_H E A s M' H' locs' → j_L E mi.2.2.1 L' ls' → W p l e R s m args below meth c H' locs' cells slots Q (F0 m pc' ls' (st'.map (j_cv E)))) →
    ∀ (H : Heap) (locs : List Loc) (ls : Array Slot), j_H E A s M H locs → j_L E mi.2.2.1 L ls → W p l e R s m args below meth c H locs cells slots Q (F0 m pc ls (st.map (j_cv E)))
theorem j_L_at {E : jE} {n k : Nat} {L : List jV} {ls : Array Slot} {v : jV} (h : j_L E n L ls) (hk : L[k]? = some v) (h9 : ¬ v.1 = 9) : ls[k]? = some (.val (j_cv E v)) := by
  have := h.2.2 _ (j_as_mem L 0 k v hk h9)
  simpa using this
/-- may a place be written: the one ahead is no wide one -/
def j_ok (L : List jV) : Nat → Bool
  | 0 => true
  | i + 1 => match L[i]? with
    | some v => v.1 != 1 && v.1 != 3
    | none => true
theorem j_cat {E : jE} {v : jV} (h : (v.1 != 1 && v.1 != 3) = true) : (j_cv E v).category = 1 := by
  obtain ⟨t, z⟩ := v
  unfold j_cv
  split <;> first | exact j_fm_cat _ | simp_all [Value.category]
theorem j_L_set {E : jE} {n i : Nat} {L L' : List jV} {ls' : Array Slot} {v : jV} (hok : j_ok L i = true) (hL : L.set i v = L') (h : lv_has ls' n ((i, j_cv E v) :: (j_as E 0 L).filter (fun q => !(q.1 == i) && !(q.1 + 1 == i && q.2.category == 2)))) : j_L E n L' ls' := by
  refine ⟨h.1, h.2.1, fun q hq => ?_⟩
  obtain ⟨k, w, h1, h2, rfl⟩ := j_as_of _ _ _ hq
  subst hL
  rw [List.getElem?_set] at h1
  by_cases hk : i = k
  · subst hk
    rw [if_pos rfl] at h1
    split at h1
    · simp at h1
      subst h1
      apply h.2.2
      simp
    · simp at h1
  · rw [if_neg hk] at h1
    apply h.2.2
    apply List.mem_cons_of_mem
    rw [List.mem_filter]
    refine ⟨j_as_mem L 0 k w h1 h2, ?_⟩
    simp only [Bool.and_eq_true, Bool.not_eq_true', beq_eq_false_iff_ne, ne_eq, Bool.and_eq_false_iff]
    refine ⟨by omega, ?_⟩
    by_cases hk1 : 0 + k + 1 = i
    · right
      have : i = k + 1 := by omega
      subst this
      simp only [j_ok, h1] at hok
      rw [j_cat hok]
      decide
    · exact Or.inl hk1
theorem j_L_setw {E : jE} {n i : Nat} {L L' : List jV} {ls' : Array Slot} {v : jV} (hok : j_ok L i = true) (hL : (L.set i v).set (i + 1) (9, 0) = L') (h : lv_has ls' n ((i, j_cv E v) :: (j_as E 0 L).filter (fun q => !(q.1 == i) && (!(q.1 == i + 1) && !(q.1 + 1 == i && q.2.category == 2))))) : j_L E n L' ls' := by
  refine ⟨h.1, h.2.1, fun q hq => ?_⟩
  obtain ⟨k, w, h1, h2, rfl⟩ := j_as_of _ _ _ hq
  subst hL
  rw [List.getElem?_set] at h1
  by_cases hk2 : i + 1 = k
  · rw [if_pos hk2] at h1
    split at h1
    · simp at h1
      subst h1
      exact absurd rfl h2
    · simp at h1
  rw [if_neg hk2, List.getElem?_set] at h1
  by_cases hk : i = k
  · subst hk
    rw [if_pos rfl] at h1
    split at h1
    · simp at h1
      subst h1
      apply h.2.2
      simp
    · simp at h1
  · rw [if_neg hk] at h1
    apply h.2.2
    apply List.mem_cons_of_mem
    rw [List.mem_filter]
    refine ⟨j_as_mem L 0 k w h1 h2, ?_⟩
    simp only [Bool.and_eq_true, Bool.not_eq_true', beq_eq_false_iff_ne, ne_eq, Bool.and_eq_false_iff]
    refine ⟨by omega, by omega, ?_⟩
    by_cases hk1 : 0 + k + 1 = i
    · right
      have : i = k + 1 := by omega
      subst this
      simp only [j_ok, h1] at hok
      rw [j_cat hok]
      decide
    · exact Or.inl hk1
/-- some locals are forgotten -/
theorem j_L_forget {E : jE} {n : Nat} {L L' : List jV} {ls : Array Slot} (h : j_L E n L ls) (hs : ∀ (k : Nat) (v : jV), L'[k]? = some v → v.1 = 9 ∨ L[k]? = some v) : j_L E n L' ls := by
  refine ⟨h.1, h.2.1, fun q hq => ?_⟩
  obtain ⟨k, w, h1, h2, rfl⟩ := j_as_of _ _ _ hq
  rcases hs k w h1 with h3 | h3
  · exact absurd h3 h2
  · exact h.2.2 _ (j_as_mem L 0 k w h3 h2)
