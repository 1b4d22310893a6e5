theorem j_R {x : Nat} (h : x < 2147483648) : -2147483648 ≤ (x : Int) ∧ (x : Int) < 2147483648 := by omega
theorem popc_le (n : Nat) : popc n ≤ n := by
  induction n using Nat.strongRecOn with
  | _ n ih =>
    rw [popc_eq]
    by_cases h : n = 0
    · subst h; simp [popc_zero]
    · have := ih (n / 2) (by omega)
      omega
theorem popc_lt {x n : Nat} (h : x < n) : popc x < n := Nat.lt_of_le_of_lt (popc_le x) h
theorem bt {b : Bool} (h : b = true) : (1 : Int) = ((b.toNat : Nat) : Int) := by subst h; rfl
theorem bf {b : Bool} (h : b = false) : (0 : Int) = ((b.toNat : Nat) : Int) := by subst h; rfl
theorem bt' {b : Bool} (h : ((b.toNat : Nat) : Int) = 1) : b = true := by cases b <;> simp_all
theorem bf' {b : Bool} (h : ¬ ((b.toNat : Nat) : Int) = 1) : b = false := by cases b <;> simp_all
theorem dt {p : Prop} {i : Decidable p} (h : p) : (1 : Int) = (((decide p).toNat : Nat) : Int) := bt (decide_eq_true h)
theorem df {p : Prop} {i : Decidable p} (h : ¬ p) : (0 : Int) = (((decide p).toNat : Nat) : Int) := bf (decide_eq_false h)
