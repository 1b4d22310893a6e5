section JMORE
variable {sc : Option (Nat × (Nat → Int))} {d : Nat} {mi : jI} {pc : Nat} {L L' st : List jV} {M : jM} {X : jX}
/-- the top of the stack under another name -/
theorem J_top {t : Nat} {z v : Int} (h : z = v) (k : J sc d mi pc L ((t, v) :: st) M X) : J sc d mi pc L ((t, z) :: st) M X := by
  subst h; exact k
theorem J_unset (i : Nat) (hl : L.set i (9, 0) = L') (k : J sc d mi pc L' st M X) : J sc d mi pc L st M X := by
  subst hl
  refine J_forget (fun j v hv => ?_) k
  rw [List.getElem?_set] at hv
  split at hv
  · split at hv
    · left
      simp at hv
      rw [← hv]
    · simp at hv
  · exact Or.inr hv
theorem J_ifb_eq {b : Bool} {off : Int} {tgt : Nat} (hd : decode mi.2.1 pc = .ok (.ifCond .eq off, 3)) (ht : (pc : Int) + off = (tgt : Int)) (kt : b = false → J sc d mi tgt L st M X) (kf : b = true → J sc d mi (pc + 3) L st M X) : J sc d mi pc L ((0, ((b.toNat : Nat) : Int)) :: st) M X := by
  cases b
  · exact J_if_eq hd ht (by decide) (fun _ => kt rfl) (fun h => absurd rfl h)
  · exact J_if_eq hd ht (by decide) (fun h => absurd h (by decide)) (fun _ => kf rfl)
theorem J_ifb_ne {b : Bool} {off : Int} {tgt : Nat} (hd : decode mi.2.1 pc = .ok (.ifCond .ne off, 3)) (ht : (pc : Int) + off = (tgt : Int)) (kt : b = true → J sc d mi tgt L st M X) (kf : b = false → J sc d mi (pc + 3) L st M X) : J sc d mi pc L ((0, ((b.toNat : Nat) : Int)) :: st) M X := by
  cases b
  · exact J_if_ne hd ht (by decide) (fun h => absurd rfl h) (fun _ => kf rfl)
  · exact J_if_ne hd ht (by decide) (fun _ => kt rfl) (fun h => absurd h (by decide))
theorem b01 (b : Bool) : ((b.toNat : Nat) : Int) = 0 ∨ ((b.toNat : Nat) : Int) = 1 := by cases b <;> simp
theorem j_up_ne {M : jM} {k k' : Nat} {z v : Int} (h : k' ≠ k) : j_up M k z v k' = M k' := by unfold j_up; rw [if_neg h]
theorem j_up_eq {M : jM} {k : Nat} {z v : Int} : j_up M k z v k z = v := by unfold j_up; rw [if_pos rfl, if_pos rfl]
theorem j_up_nz {M : jM} {k : Nat} {z z' v : Int} (h : z' ≠ z) : j_up M k z v k z' = M k z' := by unfold j_up; rw [if_pos rfl, if_neg h]
theorem j_up_ap {M : jM} {k k' : Nat} {z z' v : Int} : j_up M k z v k' z' = if k' = k ∧ z' = z then v else M k' z' := by
  unfold j_up
  by_cases h1 : k' = k
  · subst h1
    by_cases h2 : z' = z <;> simp [h2]
  · simp [h1]
end JMORE
/-- how many bits are set -/
def popc (n : Nat) : Nat := if n = 0 then 0 else n % 2 + popc (n / 2)
theorem popc_zero : popc 0 = 0 := by unfold popc; rfl
theorem popc_eq (n : Nat) : popc n = n % 2 + popc (n / 2) := by
  by_cases h : n = 0
  · subst h; unfold popc; simp [popc_zero]
  · rw [popc, if_neg h]
theorem popc_pos {n : Nat} (h : n ≠ 0) : 0 < popc n := by
  induction n using Nat.strongRecOn with
  | _ n ih =>
    rw [popc_eq]
    by_cases h2 : n % 2 = 0
    · have := ih (n / 2) (by omega) (by omega)
      omega
    · omega
/-- the lowest bit goes -/
theorem and_pred_lt {n : Nat} (h : n ≠ 0) : n &&& (n - 1) < n := by
  have := Nat.and_le_right (n := n) (m := n - 1)
  omega
theorem popc_pred {n : Nat} (h : n ≠ 0) : popc (n &&& (n - 1)) + 1 = popc n := by
  induction n using Nat.strongRecOn with
  | _ n ih =>
    rw [popc_eq n, popc_eq (n &&& (n - 1)), Nat.and_div_two]
    have h0 : (n &&& (n - 1)) % 2 = 0 := by
      rcases Nat.mod_two_eq_zero_or_one (n &&& (n - 1)) with q | q
      · exact q
      · have := Nat.and_mod_two_eq_one.mp q
        omega
    rw [h0]
    rcases Nat.mod_two_eq_zero_or_one n with q | q
    · have h2 : (n - 1) / 2 = n / 2 - 1 := by omega
      have := ih (n / 2) (by omega) (by omega)
      rw [h2, q]
      omega
    · have h2 : (n - 1) / 2 = n / 2 := by omega
      rw [h2, q, Nat.and_self]
      omega
