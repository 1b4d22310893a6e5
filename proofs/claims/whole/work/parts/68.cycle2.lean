/-! the class's cycle -/
def xrN (r : Nat → Nat) : Nat → Nat → Nat
  | 0, _ => 0
  | k + 1, m => xrN r k m ^^^ (if m.testBit k = true then r k else 0)
theorem xr_xor (r : Nat → Nat) : ∀ k a b, xrN r k (a ^^^ b) = xrN r k a ^^^ xrN r k b := by
  intro k
  induction k with
  | zero => intro a b; rw [show xrN r 0 (a ^^^ b) = 0 from rfl, show xrN r 0 a = 0 from rfl, show xrN r 0 b = 0 from rfl, Nat.xor_self]
  | succ k ih =>
    intro a b
    simp only [xrN]
    rw [ih, Nat.testBit_xor]
    cases a.testBit k <;> cases b.testBit k
    · simp
    · simp only [Bool.false_xor, if_true, Bool.false_eq_true, if_false, Nat.xor_zero]
      rw [Nat.xor_assoc]
    · simp only [Bool.xor_false, if_true, Bool.false_eq_true, if_false, Nat.xor_zero]
      rw [xor_sw]
    · simp only [Bool.xor_self, if_true, Bool.false_eq_true, if_false, Nat.xor_zero]
      rw [xor_2]
theorem xr_none {r : Nat → Nat} {k m : Nat} (h : ∀ i, i < k → m.testBit i = false) : xrN r k m = 0 := by
  induction k with
  | zero => rfl
  | succ k ih =>
    simp only [xrN]
    rw [ih (fun i hi => h i (by omega)), h k (by omega), if_neg (by decide), Nat.xor_zero]
theorem xr_p2 {r : Nat → Nat} {k c : Nat} (h : c < k) : xrN r k (2 ^ c) = r c := by
  induction k with
  | zero => omega
  | succ k ih =>
    simp only [xrN]
    rw [p2_bit]
    by_cases e : c = k
    · subst e
      rw [xr_none (fun i hi => by rw [p2_bit]; exact decide_eq_false (by omega)), decide_eq_true rfl, if_pos rfl, Nat.zero_xor]
    · rw [ih (by omega), decide_eq_false e, if_neg (by decide), Nat.xor_zero]
theorem xr_bit (r : Nat → Nat) (k m b : Nat) : (xrN r k m).testBit b = xbN k (fun i => m.testBit i && (r i).testBit b) := by
  induction k with
  | zero => rw [xrN, Nat.zero_testBit]; rfl
  | succ k ih =>
    simp only [xrN, xbN]
    rw [Nat.testBit_xor, ih]
    congr 1
    cases m.testBit k
    · simp
    · simp
theorem st_mark {T : Nat → Nat × Nat} {r : Nat → Nat} {n : Nat} (hx : ∀ j, j < 35 → xrN r n (T j).2 = (T j).1) : ∀ i l m, i ≤ 35 → xrN r n (stF T i l m).2.2.2 ^^^ (stF T i l m).2.2.1 = xrN r n m ^^^ l := by
  intro i
  induction i with
  | zero => intro l m _; rfl
  | succ i ih =>
    intro l m hi
    by_cases e0 : l = 0
    · rw [stF_z e0]
    · cases e1 : l.testBit i
      · rw [stF_no (by omega) e0 (by rw [show i + 1 - 1 = i by omega]; exact e1), show i + 1 - 1 = i by omega]
        exact ih l m (by omega)
      · by_cases e2 : (T i).1 = 0
        · rw [stF_new (by omega) e0 (by rw [show i + 1 - 1 = i by omega]; exact e1) (by rw [show i + 1 - 1 = i by omega]; exact e2)]
        · rw [stF_go (by omega) e0 (by rw [show i + 1 - 1 = i by omega]; exact e1) (by rw [show i + 1 - 1 = i by omega]; exact e2), show i + 1 - 1 = i by omega]
          rw [ih _ _ (by omega), xr_xor, hx i (by omega), xor_2]
theorem st_bits {T : Nat → Nat × Nat} {p : Nat → Prop} (hT : ∀ j, j < 35 → ∀ b, (T j).2.testBit b = true → p b) : ∀ i l m, i ≤ 35 → (∀ b, m.testBit b = true → p b) → ∀ b, (stF T i l m).2.2.2.testBit b = true → p b := by
  intro i
  induction i with
  | zero => intro l m _ hm; exact hm
  | succ i ih =>
    intro l m hi hm
    by_cases e0 : l = 0
    · rw [stF_z e0]; exact hm
    · cases e1 : l.testBit i
      · rw [stF_no (by omega) e0 (by rw [show i + 1 - 1 = i by omega]; exact e1), show i + 1 - 1 = i by omega]
        exact ih l m (by omega) hm
      · by_cases e2 : (T i).1 = 0
        · rw [stF_new (by omega) e0 (by rw [show i + 1 - 1 = i by omega]; exact e1) (by rw [show i + 1 - 1 = i by omega]; exact e2)]
          exact hm
        · rw [stF_go (by omega) e0 (by rw [show i + 1 - 1 = i by omega]; exact e1) (by rw [show i + 1 - 1 = i by omega]; exact e2), show i + 1 - 1 = i by omega]
          refine ih _ _ (by omega) (fun b hb => ?_)
          rw [Nat.testBit_xor] at hb
          cases e3 : m.testBit b
          · rw [e3, Bool.false_xor] at hb
            exact hT i (by omega) b hb
          · exact hm b e3
theorem st_one {T : Nat → Nat × Nat} {o : Nat} (hT : ∀ j, j < 35 → (T j).2.testBit o = false) : ∀ i l m, i ≤ 35 → (stF T i l m).2.2.2.testBit o = m.testBit o := by
  intro i
  induction i with
  | zero => intro l m _; rfl
  | succ i ih =>
    intro l m hi
    by_cases e0 : l = 0
    · rw [stF_z e0]
    · cases e1 : l.testBit i
      · rw [stF_no (by omega) e0 (by rw [show i + 1 - 1 = i by omega]; exact e1), show i + 1 - 1 = i by omega]
        exact ih l m (by omega)
      · by_cases e2 : (T i).1 = 0
        · rw [stF_new (by omega) e0 (by rw [show i + 1 - 1 = i by omega]; exact e1) (by rw [show i + 1 - 1 = i by omega]; exact e2)]
        · rw [stF_go (by omega) e0 (by rw [show i + 1 - 1 = i by omega]; exact e1) (by rw [show i + 1 - 1 = i by omega]; exact e2), show i + 1 - 1 = i by omega]
          rw [ih _ _ (by omega), Nat.testBit_xor, hT i (by omega), Bool.xor_false]
def rwC (F : Nat → Nat) (k : Nat) : Nat := crN (F k) 7
def wy (F : Nat → Nat) (pl t : Nat) : Nat := if pl.testBit t = true then rwC F t else 0
theorem cyS_t {F : Nat → Nat} {pl i : Nat} (h : pl.testBit i = true) : cyS F pl (i + 1) = stT (cyS F pl i) (stF (cyS F pl i) 35 (crN (F i) 7) (2 ^ i)) := by rw [cyS, if_pos h]
theorem cyS_f {F : Nat → Nat} {pl i : Nat} (h : pl.testBit i = false) : cyS F pl (i + 1) = cyS F pl i := by rw [cyS, if_neg (by rw [h]; decide)]
theorem cy_ok {n : Nat} {F : Nat → Nat} {pl : Nat} (hF : ∀ i, i < n → F i < 128) : ∀ i, i ≤ n → HA (fun j => (cyS F pl i j).1) ∧ (∀ j, j < 35 → inS (wy F pl) i (cyS F pl i j).1 = true) ∧ (∀ t, t < i → inS (fun j => (cyS F pl i j).1) 35 (wy F pl t) = true) ∧ (∀ j, j < 35 → xrN (rwC F) n (cyS F pl i j).2 = (cyS F pl i j).1) ∧ ∀ j, j < 35 → ∀ b, (cyS F pl i j).2.testBit b = true → pl.testBit b = true := by
  intro i
  induction i with
  | zero =>
    intro _
    refine ⟨fun j _ => Or.inl rfl, fun j _ => rfl, fun t ht => absurd ht (Nat.not_lt_zero _), fun j _ => ?_, fun j _ b hb => ?_⟩
    · exact xr_none (fun i _ => Nat.zero_testBit i)
    · rw [show (cyS F pl 0 j).2 = 0 from rfl, Nat.zero_testBit] at hb
      exact absurd hb (by decide)
  | succ i ih =>
    intro hi
    obtain ⟨h1, h2, h3, h4, h5⟩ := ih (by omega)
    cases e : pl.testBit i
    · rw [cyS_f e]
      refine ⟨h1, fun j hj => inS_up (h2 j hj), fun t ht => ?_, h4, h5⟩
      by_cases e2 : t = i
      · rw [e2]
        unfold wy
        rw [if_neg (by rw [e]; decide)]
        exact inS_zero _ _
      · exact h3 t (by omega)
    · have hl : crN (F i) 7 < 2 ^ 35 := crN_lt (hF i (by omega)) 7
      have hw : wy F pl i = crN (F i) 7 := by unfold wy; rw [if_pos e]; rfl
      have hsp := st_span h1 (m := 2 ^ i) hl
      rw [cyS_t e]
      refine ⟨st_HA h1 hl, ?_, ?_, ?_, ?_⟩
      · exact st_in h1 hl (fun j hj => inS_up (h2 j hj)) (by rw [← hw]; exact inS_self (by omega))
      · intro t ht
        by_cases e2 : t = i
        · rw [e2, hw]; exact hsp.1
        · exact inS_sub 35 _ hsp.2 (h3 t (by omega))
      · intro j hj
        unfold stT
        split
        · have hm := st_mark (r := rwC F) (n := n) h4 35 (crN (F i) 7) (2 ^ i) (Nat.le_refl _)
          rw [xr_p2 (show i < n by omega), show rwC F i = crN (F i) 7 from rfl, Nat.xor_self] at hm
          exact xor_eq0 hm
        · exact h4 j hj
      · intro j hj b hb
        unfold stT at hb
        split at hb
        · exact st_bits (p := fun b => pl.testBit b = true) h5 35 _ _ (Nat.le_refl _) (fun b hb => by rw [p2_bit, decide_eq_true_eq] at hb; rw [← hb]; exact e) b hb
        · exact h5 j hj b hb
theorem cy_res {n : Nat} {F : Nat → Nat} {one pl : Nat} (hF : ∀ i, i < n → F i < 128) (ho : one < n) (hpl : pl.testBit one = false) (hin : inS (wy F pl) n (rwC F one) = true) : xrN (rwC F) n (cyN n F one pl) = 0 ∧ (cyN n F one pl).testBit one = true ∧ ∀ b, (cyN n F one pl).testBit b = true → pl.testBit b = true ∨ b = one := by
  obtain ⟨h1, h2, h3, h4, h5⟩ := cy_ok (pl := pl) hF n (Nat.le_refl _)
  have hl : crN (F one) 7 < 2 ^ 35 := crN_lt (hF one ho) 7
  have hin2 : inS (fun j => (cyS F pl n j).1) 35 (crN (F one) 7) = true := inS_sub n _ h3 hin
  have hnew := st_new h1 (m := 2 ^ one) hl
  rw [hin2, Bool.not_true] at hnew
  have hz := (st_ok h1 35 (crN (F one) 7) (2 ^ one) (Nat.le_refl _) hl).2.1 hnew
  have hm := st_mark (r := rwC F) (n := n) h4 35 (crN (F one) 7) (2 ^ one) (Nat.le_refl _)
  rw [hz, Nat.xor_zero, xr_p2 ho, show rwC F one = crN (F one) 7 from rfl, Nat.xor_self] at hm
  refine ⟨hm, ?_, ?_⟩
  · unfold cyN
    rw [st_one (o := one) (fun j hj => by
      cases e : (cyS F pl n j).2.testBit one
      · rfl
      · have := h5 j hj one e
        rw [hpl] at this
        exact absurd this (by decide)) 35 _ _ (Nat.le_refl _), p2_bit, decide_eq_true rfl]
  · exact st_bits (p := fun b => pl.testBit b = true ∨ b = one) (fun j hj b hb => Or.inl (h5 j hj b hb)) 35 _ _ (Nat.le_refl _) (fun b hb => by rw [p2_bit, decide_eq_true_eq] at hb; exact Or.inr hb.symm)
/-- in a shelling a spanning facet's row lies in the span of those that aren't spanning -/
theorem cy_in {P D n : Nat} {F O : Nat → Nat} (h : WF P D n F O) (hj : ∀ k, k < n → jnA F O k = true) {k : Nat} (hk : k < n) : inS (wy F (frN F O n)) n (rwC F (O k)) = true := by
  cases e : inS (wy F (frN F O n)) n (rwC F (O k))
  · exfalso
    have hlt : ∀ i, i < n → rwC F i < 2 ^ 35 := fun i hi => crN_lt (h.fb hi) 7
    obtain ⟨f, f1, f2⟩ := dual_f (K := 35) n _ (fun i hi => by unfold wy; split; exact hlt i hi; exact Nat.two_pow_pos 35) (hlt _ (h.on hk)) e
    have hd : ∀ m, m < n → parN 35 (f &&& rwC F (O m)) = dl (fun t => f.testBit (col t)) (F (O m)) := fun m hm => crN_par f _ (h.fb (h.on hm)) 7 (Nat.le_refl _)
    have hz := coc_all h (fun t => f.testBit (col t)) hj (fun m hm hs => by
      rw [← hd m hm]
      have h1 := f1 (O m) (h.on hm)
      unfold wy at h1
      rw [if_pos] at h1
      · exact h1
      · rw [frN_bit]
        exact anyN_iff.mpr ⟨m, hm, by rw [hs, beq_iff_eq.mpr rfl]; rfl⟩) k hk
    rw [← hd k hk, f2] at hz
    exact absurd hz (by decide)
  · rfl
/-! the reference's -/
def Sol (rows n : Nat) (T : Nat → Nat) (S : Nat) : Prop := ∀ r, r < rows → parN n (T r &&& S) = false
theorem sol_E {rows n free k : Nat} {T : Nat → Nat} {S : Nat} : Sol rows n (slE rows free k T) S ↔ Sol rows n T S := by
  by_cases hb : slB rows free k T = -1
  · have : slE rows free k T = T := by
      funext r
      unfold slE
      rw [if_pos hb]
    rw [this]
  · have hlt := slB_lt hb
    have he : ∀ r, slE rows free k T r = if ¬ r = (slB rows free k T).toNat ∧ (T r).testBit k = true then T r ^^^ T (slB rows free k T).toNat else T r := by
      intro r
      unfold slE
      rw [if_neg hb]
    have hby : slE rows free k T (slB rows free k T).toNat = T (slB rows free k T).toNat := by
      rw [he, if_neg (fun q => q.1 rfl)]
    constructor
    · intro h r hr
      have h1 := h r hr
      have h2 := h _ hlt
      rw [hby] at h2
      rw [he] at h1
      split at h1
      · rw [xr_and, par_xor, h2, Bool.xor_false] at h1
        exact h1
      · exact h1
    · intro h r hr
      rw [he]
      split
      · rw [xr_and, par_xor, h r hr, h _ hlt]
        rfl
      · exact h r hr
theorem sol_T {rows n free : Nat} {T : Nat → Nat} {S : Nat} : ∀ k, Sol rows n (slT rows free T k) S ↔ Sol rows n T S := by
  intro k
  induction k with
  | zero => exact Iff.rfl
  | succ k ih =>
    rw [show slT rows free T (k + 1) = slE rows free k (slT rows free T k) from rfl, sol_E]
    exact ih
theorem bits_low {x k : Nat} : (x &&& (2 ^ k - 1)) = 0 ↔ ∀ i, i < k → x.testBit i = false := by
  rw [and_z]
  constructor
  · intro h i hi
    cases e : x.testBit i
    · rfl
    · have := h i e
      rw [all_bit, decide_eq_true hi] at this
      exact absurd this (by decide)
  · intro h i hi
    rw [all_bit, decide_eq_false_iff_not]
    intro q
    rw [h i q] at hi
    exact absurd hi (by decide)
theorem sl_piv {rows n free : Nat} {T0 : Nat → Nat} (hfr : free < 2 ^ n) (hind : ∀ S, ¬ S = 0 → sbs S free = true → ¬ Sol rows n T0 S) : ∀ k, k ≤ n → ∃ piv : Nat → Nat, (∀ j, j < k → free.testBit j = true → piv j < rows ∧ ∀ r, r < rows → (slT rows free T0 k r).testBit j = decide (r = piv j)) ∧ ∀ i j, i < k → j < k → free.testBit i = true → free.testBit j = true → piv i = piv j → i = j := by
  intro k
  induction k with
  | zero => intro _; exact ⟨fun _ => 0, fun j hj => absurd hj (Nat.not_lt_zero _), fun i j hi => absurd hi (Nat.not_lt_zero _)⟩
  | succ k ih =>
    intro hk
    obtain ⟨piv, p1, p2⟩ := ih (by omega)
    rw [show slT rows free T0 (k + 1) = slE rows free k (slT rows free T0 k) from rfl]
    have hsol : ∀ S, Sol rows n (slT rows free T0 k) S ↔ Sol rows n T0 S := fun S => sol_T k
    generalize slT rows free T0 k = T at p1 hsol ⊢
    cases hfk : free.testBit k
    · have hb : slB rows free k T = -1 := by
        unfold slB
        rw [fstN_none]
        rw [anyN_false]
        intro r _
        unfold slP
        rw [hfk]
        rfl
      have hE : slE rows free k T = T := by
        funext r
        unfold slE
        rw [if_pos hb]
      rw [hE]
      refine ⟨piv, fun j hj hf => ?_, fun i j hi hj hfi hfj e => ?_⟩
      · have : ¬ j = k := by intro e; rw [e, hfk] at hf; exact absurd hf (by decide)
        exact p1 j (by omega) hf
      · have n1 : ¬ i = k := by intro e; rw [e, hfk] at hfi; exact absurd hfi (by decide)
        have n2 : ¬ j = k := by intro e; rw [e, hfk] at hfj; exact absurd hfj (by decide)
        exact p2 i j (by omega) (by omega) hfi hfj e
    · have hex : anyN rows (slP free k T) = true := by
        cases hany : anyN rows (slP free k T)
        · exfalso
          have hno := anyN_false.mp hany
          have hlow : ∀ r, r < rows → (T r).testBit k = true → ∃ j, j < k ∧ free.testBit j = true ∧ (T r).testBit j = true := by
            intro r hr hb
            have h1 := hno r hr
            unfold slP at h1
            rw [hfk, hb, Bool.true_and, Bool.true_and, beq_eq_false_iff_ne] at h1
            apply Classical.byContradiction
            intro hc
            apply h1
            rw [bits_low]
            intro i hi
            rw [Nat.testBit_and]
            cases e1 : (T r).testBit i
            · rfl
            · cases e2 : free.testBit i
              · rfl
              · exact absurd ⟨i, hi, e2, e1⟩ hc
          have hSb : ∀ i, (2 ^ k ||| mskN k (fun j => free.testBit j && (T (piv j)).testBit k)).testBit i = (decide (k = i) || (decide (i < k) && (free.testBit i && (T (piv i)).testBit k))) := by
            intro i
            rw [Nat.testBit_or, p2_bit, mskN_bit]
          refine hind (2 ^ k ||| mskN k (fun j => free.testBit j && (T (piv j)).testBit k)) ?_ ?_ ((hsol _).mp ?_)
          · intro e
            have := hSb k
            rw [e, Nat.zero_testBit, decide_eq_true rfl] at this
            exact absurd this (by simp)
          · rw [sbs_iff]
            intro i hi
            rw [hSb] at hi
            simp only [Bool.or_eq_true, Bool.and_eq_true, decide_eq_true_eq] at hi
            rcases hi with hi | hi
            · rw [← hi]; exact hfk
            · exact hi.2.1
          · intro r hr
            cases hb : (T r).testBit k
            · have : T r &&& (2 ^ k ||| mskN k (fun j => free.testBit j && (T (piv j)).testBit k)) = 0 := by
                rw [and_z]
                intro i hi
                rw [hSb]
                by_cases e : k = i
                · rw [e, hi] at hb; exact absurd hb (by decide)
                · rw [decide_eq_false e, Bool.false_or]
                  by_cases e2 : i < k
                  · cases e3 : free.testBit i
                    · simp
                    · have h3 := (p1 i e2 e3).2 r hr
                      rw [hi] at h3
                      have h4 := of_decide_eq_true h3.symm
                      rw [← h4, hb]
                      simp
                  · rw [decide_eq_false e2, Bool.false_and]
              rw [this, par_0]
            · obtain ⟨j, j1, j2, j3⟩ := hlow r hr hb
              have h3 := (p1 j j1 j2).2 r hr
              rw [j3] at h3
              have h4 := of_decide_eq_true h3.symm
              have : T r &&& (2 ^ k ||| mskN k (fun j => free.testBit j && (T (piv j)).testBit k)) = 2 ^ k ^^^ 2 ^ j := by
                apply Nat.eq_of_testBit_eq
                intro i
                rw [Nat.testBit_and, hSb, Nat.testBit_xor, p2_bit, p2_bit]
                by_cases e : k = i
                · subst e
                  rw [hb, decide_eq_true rfl, decide_eq_false (by omega : ¬ j = k)]
                  simp
                · rw [decide_eq_false e, Bool.false_or, Bool.false_xor]
                  by_cases e2 : j = i
                  · subst e2
                    rw [j3, decide_eq_true j1, j2, ← h4, hb, decide_eq_true rfl]
                    rfl
                  · rw [decide_eq_false e2]
                    by_cases e3 : i < k
                    · cases e4 : free.testBit i
                      · simp
                      · rw [(p1 i e3 e4).2 r hr]
                        have : ¬ r = piv i := by
                          intro q
                          exact e2 (p2 j i j1 e3 j2 e4 (h4.symm.trans q))
                        rw [decide_eq_false this]
                        rfl
                    · rw [decide_eq_false e3]; simp
              rw [this, par_xor, par_p2 (by omega : k < n), par_p2 (by omega : j < n)]
              rfl
        · rfl
      obtain ⟨b, b1, b2, b3, b4⟩ := fstN_get (z := -1) hex
      have hB : slB rows free k T = (b : Int) := b3
      have hbn : (slB rows free k T).toNat = b := by rw [hB, Int.toNat_natCast]
      have hne : ¬ slB rows free k T = -1 := by rw [hB]; omega
      have he : ∀ r, slE rows free k T r = if ¬ r = b ∧ (T r).testBit k = true then T r ^^^ T b else T r := by
        intro r
        unfold slE
        rw [if_neg hne, hbn]
      unfold slP at b2
      rw [hfk, Bool.true_and, Bool.and_eq_true, beq_iff_eq, bits_low] at b2
      have hblow : ∀ j, j < k → free.testBit j = true → (T b).testBit j = false := by
        intro j hj hf
        have := b2.2 j hj
        rw [Nat.testBit_and, hf, Bool.and_true] at this
        exact this
      refine ⟨fun j => if j = k then b else piv j, fun j hj hf => ?_, fun i j hi hj hfi hfj e => ?_⟩
      · have hv : ∀ x, x = (if j = k then b else piv j) → x < rows ∧ ∀ r, r < rows → (slE rows free k T r).testBit j = decide (r = x) := by
          intro x hx
          by_cases ejk : j = k
          · rw [if_pos ejk] at hx
            subst hx
            refine ⟨b1, fun r hr => ?_⟩
            rw [he, ejk]
            by_cases er : r = x
            · rw [if_neg (fun q => q.1 er), er, b2.1, decide_eq_true rfl]
            · rw [decide_eq_false er]
              cases e5 : (T r).testBit k
              · rw [if_neg (fun q => absurd q.2 (by decide))]; exact e5
              · rw [if_pos ⟨er, rfl⟩, Nat.testBit_xor, e5, b2.1]; rfl
          · rw [if_neg ejk] at hx
            subst hx
            obtain ⟨a1, a2⟩ := p1 j (by omega) hf
            refine ⟨a1, fun r hr => ?_⟩
            rw [he, ← a2 r hr]
            split
            · rw [Nat.testBit_xor, hblow j (by omega) hf, Bool.xor_false]
            · rfl
        exact hv _ rfl
      · dsimp only at e
        by_cases ei : i = k
        · by_cases ej : j = k
          · omega
          · rw [if_pos ei, if_neg ej] at e
            have h1 := (p1 j (by omega) hfj).2 b b1
            rw [hblow j (by omega) hfj, decide_eq_true e] at h1
            exact absurd h1 (by decide)
        · by_cases ej : j = k
          · rw [if_neg ei, if_pos ej] at e
            have h1 := (p1 i (by omega) hfi).2 b b1
            rw [hblow i (by omega) hfi, decide_eq_true e.symm] at h1
            exact absurd h1 (by decide)
          · rw [if_neg ei, if_neg ej] at e
            exact p2 i j (by omega) (by omega) hfi hfj e
theorem slS_bit {rows one free : Nat} {T : Nat → Nat} : ∀ k i, (slS rows one free T k).testBit i = (decide (one = i) || (decide (i < k) && anyN rows (slO rows one free i T))) := by
  intro k
  induction k with
  | zero => intro i; rw [slS, p2_bit]; simp
  | succ k ih =>
    intro i
    rw [slS, Nat.testBit_or, ih]
    have h2 : (if anyN rows (slO rows one free k T) = true then 2 ^ k else 0).testBit i = (decide (k = i) && anyN rows (slO rows one free k T)) := by
      split
      · rename_i h; rw [p2_bit, h, Bool.and_true]
      · rename_i h
        rw [Nat.zero_testBit]
        cases e : anyN rows (slO rows one free k T)
        · rw [Bool.and_false]
        · exact absurd e h
    rw [h2]
    by_cases e : k = i
    · subst e
      simp
    · rw [decide_eq_false e]
      by_cases e2 : i < k
      · simp [e2, show i < k + 1 by omega]
      · simp [e2, show ¬ i < k + 1 by omega]
theorem sl_sol {rows n free one : Nat} {T0 : Nat → Nat} {S : Nat} (hfr : free < 2 ^ n) (ho : one < n) (hof : free.testBit one = false) (hind : ∀ S, ¬ S = 0 → sbs S free = true → ¬ Sol rows n T0 S) (hS : Sol rows n T0 S) (hSo : S.testBit one = true) (hSb : ∀ b, S.testBit b = true → free.testBit b = true ∨ b = one) : slS rows one free (slT rows free T0 n) n = S := by
  obtain ⟨piv, p1, p2⟩ := sl_piv hfr hind n (Nat.le_refl _)
  have hS2 := (sol_T (rows := rows) (n := n) (free := free) (T := T0) (S := S) n).mpr hS
  generalize slT rows free T0 n = T at p1 hS2 ⊢
  have hkey : ∀ k r, k < n → r < rows → free.testBit k = true → (T r &&& free) = 2 ^ k → S.testBit k = (T r).testBit one := by
    intro k r hk hr hf he
    have h1 := hS2 r hr
    have hkb : (T r).testBit k = true := by
      have := p2_bit k k
      rw [← he, Nat.testBit_and, hf, Bool.and_true, decide_eq_true rfl] at this
      exact this
    have hne : ¬ k = one := by intro q; rw [q, hof] at hf; exact absurd hf (by decide)
    have h2 : T r &&& S = (if S.testBit k = true then 2 ^ k else 0) ^^^ (if (T r).testBit one = true then 2 ^ one else 0) := by
      apply Nat.eq_of_testBit_eq
      intro i
      have b1 : (if S.testBit k = true then 2 ^ k else 0).testBit i = (S.testBit k && decide (k = i)) := by
        split
        · rename_i q; rw [p2_bit, q, Bool.true_and]
        · rename_i q; rw [Nat.zero_testBit]; cases e : S.testBit k; rfl; exact absurd e q
      have b2 : (if (T r).testBit one = true then 2 ^ one else 0).testBit i = ((T r).testBit one && decide (one = i)) := by
        split
        · rename_i q; rw [p2_bit, q, Bool.true_and]
        · rename_i q; rw [Nat.zero_testBit]; cases e : (T r).testBit one; rfl; exact absurd e q
      rw [Nat.testBit_and, Nat.testBit_xor, b1, b2]
      by_cases e1 : one = i
      · subst e1
        rw [hSo, decide_eq_false hne, decide_eq_true rfl]
        simp
      · rw [decide_eq_false e1, Bool.and_false, Bool.xor_false]
        by_cases e2 : k = i
        · subst e2
          rw [hkb, decide_eq_true rfl]
          simp
        · rw [decide_eq_false e2, Bool.and_false]
          cases e3 : S.testBit i
          · rw [Bool.and_false]
          · rcases hSb i e3 with q | q
            · have := p2_bit k i
              rw [← he, Nat.testBit_and, q, Bool.and_true, decide_eq_false e2] at this
              rw [this]
              rfl
            · exact absurd q.symm e1
    rw [h2, par_xor] at h1
    have c1 : parN n (if S.testBit k = true then 2 ^ k else 0) = S.testBit k := by
      split
      · rename_i q; rw [par_p2 hk, q]
      · rename_i q; rw [par_0]; cases e : S.testBit k; rfl; exact absurd e q
    have c2 : parN n (if (T r).testBit one = true then 2 ^ one else 0) = (T r).testBit one := by
      split
      · rename_i q; rw [par_p2 ho, q]
      · rename_i q; rw [par_0]; cases e : (T r).testBit one; rfl; exact absurd e q
    rw [c1, c2] at h1
    cases a : S.testBit k <;> cases b : (T r).testBit one <;> rw [a, b] at h1 <;> first | rfl | exact absurd h1 (by decide)
  apply Nat.eq_of_testBit_eq
  intro i
  rw [slS_bit]
  apply beqB
  rw [Bool.or_eq_true, Bool.and_eq_true, decide_eq_true_eq, decide_eq_true_eq, anyN_iff]
  constructor
  · rintro (h | ⟨hi, r, hr, h⟩)
    · rw [← h]; exact hSo
    · unfold slO at h
      rw [Bool.and_eq_true, Bool.and_eq_true, beq_iff_eq] at h
      rw [hkey i r hi hr h.1.1 h.1.2]
      exact h.2
  · intro h
    rcases hSb i h with q | q
    · have hi : i < n := bit_lt hfr q
      obtain ⟨a1, a2⟩ := p1 i hi q
      have he : T (piv i) &&& free = 2 ^ i := by
        apply Nat.eq_of_testBit_eq
        intro j
        rw [Nat.testBit_and, p2_bit]
        cases e : free.testBit j
        · rw [Bool.and_false]
          symm
          rw [decide_eq_false_iff_not]
          intro w
          rw [w, e] at q
          exact absurd q (by decide)
        · rw [Bool.and_true, (p1 j (bit_lt hfr e) e).2 _ a1]
          apply beqB
          rw [decide_eq_true_eq, decide_eq_true_eq]
          exact ⟨fun w => p2 i j hi (bit_lt hfr e) q e w, fun w => by rw [w]⟩
      refine Or.inr ⟨hi, piv i, a1, ?_⟩
      unfold slO
      rw [q, beq_iff_eq.mpr he, ← hkey i (piv i) hi a1 q he, h]
      rfl
    · exact Or.inl q.symm
theorem row_bit {P D n : Nat} {F O : Nat → Nat} (h : WF P D n F O) {t i : Nat} (hi : i < n) (ht : popc t + 1 = D) : (rwC F i).testBit (col t) = sbs t (F i) := by
  unfold rwC
  rw [crN_bit]
  apply beqB
  rw [anyN_iff]
  constructor
  · rintro ⟨q, _, h1⟩
    rw [Bool.and_eq_true, decide_eq_true_eq] at h1
    have h2 := popc_rem' h1.1
    have h3 := h.fD hi
    have h4 := col_inj (by omega) h1.2
    rw [← h4]
    exact wo_s _ _
  · intro h1
    obtain ⟨p, p1, p2⟩ := one_more h1 (by rw [h.fD hi]; exact ht)
    refine ⟨p, by have := bit_lt (h.fP hi) p1; have := h.1; omega, ?_⟩
    rw [p1, ← p2, decide_eq_true rfl]
    rfl
theorem par_row {P D n : Nat} {F O : Nat → Nat} (h : WF P D n F O) {t S : Nat} (ht : popc t + 1 = D) : parN n (lyg n F t &&& S) = (xrN (rwC F) n S).testBit (col t) := by
  rw [xr_bit]
  unfold parN
  refine xb_congr (fun i hi => ?_)
  rw [Nat.testBit_and, lyg_bit, decide_eq_true hi, Bool.true_and, row_bit h hi ht, Bool.and_comm]
theorem sl_ind {P D n : Nat} {F O : Nat → Nat} (h : WF P D n F O) (one : Nat) : ∀ S, ¬ S = 0 → sbs S (frN F O n) = true → ¬ Sol (slR D n F) n (slL D n F one (frN F O n)) S := by
  intro S h0 hS hsol
  -- the last place of one of S
  have hex : ∃ k, k < n ∧ S.testBit (O k) = true ∧ ∀ m, k < m → m < n → S.testBit (O m) = false := by
    obtain ⟨b, hb⟩ := ne_bit h0
    have hb2 := sbs_iff.mp hS b hb
    rw [frN_bit] at hb2
    obtain ⟨k0, k1, k2⟩ := anyN_iff.mp hb2
    rw [Bool.and_eq_true, beq_iff_eq] at k2
    have key : ∀ d k, n - k ≤ d → k < n → S.testBit (O k) = true → ∃ k, k < n ∧ S.testBit (O k) = true ∧ ∀ m, k < m → m < n → S.testBit (O m) = false := by
      intro d
      induction d with
      | zero => intro k h1 h2; omega
      | succ d ih =>
        intro k h1 h2 h3
        by_cases hc : ∃ m, k < m ∧ m < n ∧ S.testBit (O m) = true
        · obtain ⟨m, m1, m2, m3⟩ := hc
          exact ih m (by omega) m2 m3
        · refine ⟨k, h2, h3, fun m m1 m2 => ?_⟩
          cases e : S.testBit (O m)
          · rfl
          · exact absurd ⟨m, m1, m2, e⟩ hc
    exact key n k0 (by omega) k1 (by rw [k2.2]; exact hb)
  obtain ⟨k, hk, hkS, hlast⟩ := hex
  have hns : spB F O k = false := by
    have h1 := sbs_iff.mp hS _ hkS
    rw [frN_bit] at h1
    obtain ⟨j, j1, j2⟩ := anyN_iff.mp h1
    rw [Bool.and_eq_true, Bool.not_eq_true', beq_iff_eq] at j2
    rw [h.oi hk j1 j2.2.symm]
    exact j2.1
  have hp : ∃ p, (F (O k)).testBit p = true ∧ (rst F O k).testBit p = false := by
    apply Classical.byContradiction
    intro hc
    have : rst F O k = F (O k) := by
      apply Nat.eq_of_testBit_eq
      intro i
      cases e1 : (F (O k)).testBit i
      · cases e2 : (rst F O k).testBit i
        · rfl
        · have := rst_sub F O k i e2
          rw [e1] at this
          exact absurd this (by decide)
      · cases e2 : (rst F O k).testBit i
        · exact absurd ⟨i, e1, e2⟩ hc
        · rfl
    unfold spB at hns
    rw [this] at hns
    simp at hns
  obtain ⟨p, p1, p2⟩ := hp
  have hpc := popc_rem' p1
  have hD := h.fD (h.on hk)
  have htf : isF n F (ndf (F (O k)) (2 ^ p)) = true := anyN_iff.mpr ⟨O k, h.on hk, wo_s _ _⟩
  have hal : alQ (isF n F) D (ndf (F (O k)) (2 ^ p)) = true := by
    unfold alQ
    rw [htf, Bool.true_and, beq_iff_eq]
    omega
  have ht128 : ndf (F (O k)) (2 ^ p) < 128 := nb_ndf (h.fb (h.on hk))
  have hj : cntN (ndf (F (O k)) (2 ^ p)) (alQ (isF n F) D) < slR D n F := by
    have := cntN_mono (p := alQ (isF n F) D) (m := ndf (F (O k)) (2 ^ p) + 1) (n := 128) (by omega)
    rw [cntN_t hal] at this
    unfold slR
    omega
  have h1 := hsol _ hj
  unfold slL at h1
  rw [nthN_hit hal rfl ht128, Int.toNat_natCast] at h1
  have h2 : lyg n F (ndf (F (O k)) (2 ^ p)) &&& (frN F O n ||| 2 ^ one) &&& S = 2 ^ O k := by
    apply Nat.eq_of_testBit_eq
    intro i
    rw [Nat.testBit_and, Nat.testBit_and, Nat.testBit_or, p2_bit, p2_bit, lyg_bit]
    cases e : S.testBit i
    · rw [Bool.and_false]
      symm
      rw [decide_eq_false_iff_not]
      intro q
      rw [q, e] at hkS
      exact absurd hkS (by decide)
    · rw [sbs_iff.mp hS i e, Bool.true_or, Bool.and_true, Bool.and_true]
      have h5 := sbs_iff.mp hS i e
      rw [frN_bit] at h5
      obtain ⟨m, m1, m2⟩ := anyN_iff.mp h5
      rw [Bool.and_eq_true, beq_iff_eq] at m2
      rw [← m2.2] at e ⊢
      rw [decide_eq_true (h.on m1), Bool.true_and]
      apply beqB
      rw [decide_eq_true_eq]
      constructor
      · intro w
        rcases Nat.lt_trichotomy m k with q | q | q
        · exfalso
          have : (rst F O k).testBit p = true := by
            unfold rst
            rw [mskN_bit, p1]
            have hp7 := bit_lt (h.fP (h.on hk)) p1
            have := h.1
            rw [decide_eq_true (by omega : p < 7), Bool.true_and, Bool.true_and]
            exact anyN_iff.mpr ⟨m, q, w⟩
          rw [p2] at this
          exact absurd this (by decide)
        · rw [q]
        · rw [hlast m q m1] at e
          exact absurd e (by decide)
      · intro w
        rw [← w]
        exact wo_s _ _
  rw [h2, par_p2 (h.on hk)] at h1
  exact absurd h1 (by decide)
/-- the two answers of a cycle -/
theorem cyc_eq {P D n : Nat} {F O : Nat → Nat} (h : WF P D n F O) (hj : ∀ k, k < n → jnA F O k = true) {k : Nat} (hk : k < n) (hs : spB F O k = true) : cyN n F (O k) (frN F O n) = slN D n F (O k) (frN F O n) := by
  have hof : (frN F O n).testBit (O k) = false := by
    rw [frN_bit, anyN_false]
    intro m hm
    cases e : (O m == O k)
    · rw [Bool.and_false]
    · rw [beq_iff_eq] at e
      rw [h.oi hm hk e, hs]
      rfl
  have hfr : frN F O n < 2 ^ n := frN_lt n (fun i hi => h.on hi)
  obtain ⟨a1, a2, a3⟩ := cy_res (fun i hi => h.fb hi) (h.on hk) hof (cy_in h hj hk)
  unfold slN
  symm
  refine sl_sol hfr (h.on hk) hof (sl_ind h (O k)) ?_ a2 a3
  intro r hr
  obtain ⟨t, t1, t2, t3, t4⟩ := nthN_spec (n := 128) (p := alQ (isF n F) D) (i := r) hr
  unfold slL
  rw [t2, Int.toNat_natCast]
  have ht : popc t + 1 = D := by
    unfold alQ at t3
    rw [Bool.and_eq_true, beq_iff_eq] at t3
    exact t3.2
  have he : lyg n F t &&& (frN F O n ||| 2 ^ O k) &&& cyN n F (O k) (frN F O n) = lyg n F t &&& cyN n F (O k) (frN F O n) := by
    have h9 : (frN F O n ||| 2 ^ O k) &&& cyN n F (O k) (frN F O n) = cyN n F (O k) (frN F O n) := by
      apply and_of_sbs
      rw [sbs_iff]
      intro i hi
      rw [ins_bit]
      rcases a3 i hi with q | q
      · rw [q]; rfl
      · rw [q]; simp
    rw [Nat.and_assoc, h9]
  rw [he, par_row h ht, a1, Nat.zero_testBit]
