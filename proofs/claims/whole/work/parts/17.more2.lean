theorem j_R {x : Nat} (h : x < 2147483648) : -2147483648 ≤ (x : Int) ∧ (x : Int) < 2147483648 := by omega
theorem popc_le (n : Nat) : popc n ≤ n := by
  induction n using Nat.strongRecOn with
  | _ n ih =>
    rw [popc_eq]
    by_cases h : n = 0
    · subst h; simp [popc_zero]
    · have := ih (n / 2) (by omega)
      omega
theorem popc_lt {x n : Nat} (h : x < n) : popc x < n := Nat.lt_of_le_of_lt (popc_le x) h
theorem bt {b : Bool} (h : b = true) : (1 : Int) = ((b.toNat : Nat) : Int) := by subst h; rfl
theorem bf {b : Bool} (h : b = false) : (0 : Int) = ((b.toNat : Nat) : Int) := by subst h; rfl
theorem bt' {b : Bool} (h : ((b.toNat : Nat) : Int) = 1) : b = true := by cases b <;> simp_all
theorem bf' {b : Bool} (h : ¬ ((b.toNat : Nat) : Int) = 1) : b = false := by cases b <;> simp_all
theorem dt {p : Prop} {i : Decidable p} (h : p) : (1 : Int) = (((decide p).toNat : Nat) : Int) := bt (decide_eq_true h)
theorem df {p : Prop} {i : Decidable p} (h : ¬ p) : (0 : Int) = (((decide p).toNat : Nat) : Int) := bf (decide_eq_false h)
theorem j_or0 {a : Int} {x : Nat} (ha : a = (x : Int)) (hx : x < 2147483648) : j_or a 0 = (x : Int) := by
  have h := j_orN (b := 0) (y := 0) ha rfl hx (by decide)
  rw [Nat.or_zero] at h
  exact h
theorem j_xor0 {a : Int} {x : Nat} (ha : a = (x : Int)) (hx : x < 2147483648) : j_xor a 0 = (x : Int) := by
  have h := j_xorN (b := 0) (y := 0) ha rfl hx (by decide)
  rw [Nat.xor_zero] at h
  exact h
section JQ
variable {sc : Option (Nat × (Nat → Int))} {d : Nat} {mi : jI} {pc : Nat} {L L' st : List jV} {M : jM} {X : jX}
theorem J_callViQ {cl : jI} {n k ci idx dc : Nat} {z e : Int} {m1 : jM} {fs : List (Option Nat)} {q : vw_C} (As rest : List jV) (hd : decode mi.2.1 pc = .ok (.invokevirtual idx, 3)) (hl : Cond.methodLink mi.1.cls idx cl.1 ∈ j_all) (hc : j_CV cl n) (hn : As.length = n) (hst : st = As.reverse ++ (k + 10, z) :: rest) (hsh : j_sh[k]? = some (0, ci, fs)) (hcl : vwCl[ci]? = some q) (hq : q.1 = cl.1.cls) (hdc : dc < d) (hw : j_wt rest ≤ 8) (hrk : j_rk cl.2.2.2 = 1) (ev : Ev dc cl ((k + 10, z) :: As) M (fun z M' => z = e ∧ M' = m1)) (kk : J sc d mi (pc + 3) L ((0, e) :: rest) m1 X) : J sc d mi pc L st M X :=
  J_callVi As rest hd hl hc hn hst hsh hcl hq hdc hw hrk ev (fun z M' h => by rw [h.1, h.2]; exact kk)
theorem J_callVvQ {cl : jI} {n k ci idx dc : Nat} {z : Int} {m1 : jM} {fs : List (Option Nat)} {q : vw_C} (As rest : List jV) (hd : decode mi.2.1 pc = .ok (.invokevirtual idx, 3)) (hl : Cond.methodLink mi.1.cls idx cl.1 ∈ j_all) (hc : j_CV cl n) (hn : As.length = n) (hst : st = As.reverse ++ (k + 10, z) :: rest) (hsh : j_sh[k]? = some (0, ci, fs)) (hcl : vwCl[ci]? = some q) (hq : q.1 = cl.1.cls) (hdc : dc < d) (hw : j_wt rest ≤ 8) (hrk : j_rk cl.2.2.2 = 0) (ev : Ev dc cl ((k + 10, z) :: As) M (fun _ M' => M' = m1)) (kk : J sc d mi (pc + 3) L rest m1 X) : J sc d mi pc L st M X :=
  J_callVv As rest hd hl hc hn hst hsh hcl hq hdc hw hrk ev (fun M' h => by rw [h]; exact kk)
theorem J_callVlQ {cl : jI} {n k ci idx dc : Nat} {z e : Int} {m1 : jM} {fs : List (Option Nat)} {q : vw_C} (As rest : List jV) (hd : decode mi.2.1 pc = .ok (.invokevirtual idx, 3)) (hl : Cond.methodLink mi.1.cls idx cl.1 ∈ j_all) (hc : j_CV cl n) (hn : As.length = n) (hst : st = As.reverse ++ (k + 10, z) :: rest) (hsh : j_sh[k]? = some (0, ci, fs)) (hcl : vwCl[ci]? = some q) (hq : q.1 = cl.1.cls) (hdc : dc < d) (hw : j_wt rest ≤ 8) (hrk : j_rk cl.2.2.2 = 2) (ev : Ev dc cl ((k + 10, z) :: As) M (fun z M' => z = e ∧ M' = m1)) (kk : J sc d mi (pc + 3) L ((1, e) :: rest) m1 X) : J sc d mi pc L st M X :=
  J_callVl As rest hd hl hc hn hst hsh hcl hq hdc hw hrk ev (fun z M' h => by rw [h.1, h.2]; exact kk)
theorem J_callSiQ {cl : jI} {n idx dc : Nat} {e : Int} {m1 : jM} (As rest : List jV) (hd : decode mi.2.1 pc = .ok (.invokestatic idx, 3)) (hl : Cond.methodLink mi.1.cls idx cl.1 ∈ j_all) (hc : j_CS cl n) (hn : As.length = n) (hst : st = As.reverse ++ rest) (hdc : dc < d) (hw : j_wt rest ≤ 8) (hrk : j_rk cl.2.2.2 = 1) (ev : Ev dc cl As M (fun z M' => z = e ∧ M' = m1)) (kk : J sc d mi (pc + 3) L ((0, e) :: rest) m1 X) : J sc d mi pc L st M X :=
  J_callSi As rest hd hl hc hn hst hdc hw hrk ev (fun z M' h => by rw [h.1, h.2]; exact kk)
end JQ
section JN
variable {sc : Option (Nat × (Nat → Int))} {d : Nat} {mi : jI} {pc : Nat} {L L' st : List jV} {M : jM} {X : jX}
theorem J_ifn_eq {b : Bool} {off : Int} {tgt : Nat} (hd : decode mi.2.1 pc = .ok (.ifCond .eq off, 3)) (ht : (pc : Int) + off = (tgt : Int)) (kt : b = true → J sc d mi tgt L st M X) (kf : b = false → J sc d mi (pc + 3) L st M X) : J sc d mi pc L ((0, (((!b).toNat : Nat) : Int)) :: st) M X := by
  cases b
  · exact J_ifb_eq (b := true) hd ht (fun h => absurd h (by decide)) (fun _ => kf rfl)
  · exact J_ifb_eq (b := false) hd ht (fun _ => kt rfl) (fun h => absurd h (by decide))
theorem J_ifn_ne {b : Bool} {off : Int} {tgt : Nat} (hd : decode mi.2.1 pc = .ok (.ifCond .ne off, 3)) (ht : (pc : Int) + off = (tgt : Int)) (kt : b = false → J sc d mi tgt L st M X) (kf : b = true → J sc d mi (pc + 3) L st M X) : J sc d mi pc L ((0, (((!b).toNat : Nat) : Int)) :: st) M X := by
  cases b
  · exact J_ifb_ne (b := true) hd ht (fun _ => kt rfl) (fun h => absurd h (by decide))
  · exact J_ifb_ne (b := false) hd ht (fun h => absurd h (by decide)) (fun _ => kf rfl)
end JN
theorem rf_un (b : Bool) : (((decide (¬ (if b = true then (0 : Int) else 1) = 0)).toNat : Nat) : Int) = (((!b).toNat : Nat) : Int) := by cases b <;> rfl
theorem rf_un2 (b c : Bool) : (((decide (¬ (if b = true then (if c = true then (0 : Int) else 2) else 1) = 0)).toNat : Nat) : Int) = (((!(b && c)).toNat : Nat) : Int) := by cases b <;> cases c <;> rfl
theorem ifR (b : Bool) {x y : Int} (hx : -2147483648 ≤ x ∧ x < 2147483648) (hy : -2147483648 ≤ y ∧ y < 2147483648) : -2147483648 ≤ (if b = true then x else y) ∧ (if b = true then x else y) < 2147483648 := by split <;> assumption
