theorem and63 (a : Int) : 0 ≤ j_and a 63 ∧ j_and a 63 < 64 := by
  have h : (Int32.ofInt a &&& Int32.ofInt 63).toBitVec = BitVec.ofNat 32 ((Int32.ofInt a).toBitVec.toNat &&& 63) := by
    rw [Int32.toBitVec_and]
    apply BitVec.eq_of_toNat_eq
    rw [BitVec.toNat_and, BitVec.toNat_ofNat]
    have h1 : (Int32.ofInt a).toBitVec.toNat &&& 63 ≤ 63 := Nat.and_le_right
    rw [Nat.mod_eq_of_lt (by omega)]
    rfl
  have h1 : (Int32.ofInt a).toBitVec.toNat &&& 63 ≤ 63 := Nat.and_le_right
  have h2 := j_toI h (by omega)
  unfold j_and
  rw [h2]
  omega
section LWC
variable {N : Nat} {xs : Nat → Int} {i : Nat} {M : jM}
def lwX (i : Nat) : jX := fun pc L st M => st = [] ∧ ((pc = 23 ∧ L = lwL (i + 6) ∧ SY M) ∨ (pc = 1554 ∧ L = lwL i ∧ SY M))
theorem lw_inc (hs : SY M) : J (some (N, xs)) 60 mL_law 1636 (lwL i) [] M (lwX i) := by
  refine J_iinc (L' := lwL (i + 6)) (v := ((i + 6 : Nat) : Int)) dL_law_1636 rfl (by omega) (by decide) rfl rfl ?_
  refine J_goto (tgt := 23) dL_law_1639 rfl ?_
  exact J_exit ⟨rfl, Or.inl ⟨rfl, rfl, hs⟩⟩
theorem lw_next {pc : Nat} (hi : i + 6 ≤ N) (h : J (some (N, xs)) 60 mL_law pc (lwL i) [] M (lwE i)) : J (some (N, xs)) 60 mL_law pc (lwL i) [] M (lwX i) := by
  refine J_seq h (fun pc' L' st' M' q => ?_)
  obtain ⟨rfl, rfl, rfl, hs⟩ := q
  exact lw_inc hs
abbrev lwO : Array Int := #[244, 317, 342, 355, 368, 393, 418, 443, 468, 493, 518, 531, 556, 581, 606, 631, 656, 693, 718, 743, 768, 781, 806, 831, 856, 897, 922, 947, 972, 985, 1010, 1023, 1048, 1085, 1098, 1111, 1136, 1149, 1174, 1187, 1212, 1237, 1274, 1299, 1312, 1325, 1338, 1351, 1364, 1389, 1414, 1427, 1464, 1477, 1514, 1570, 1583]
theorem lw_disp (hN : N ≤ 3072) (hx : ∀ j, -2147483648 ≤ xs j ∧ xs j < 2147483648) (hi : i + 6 ≤ N) (hs : SY M) (c : Nat) (hc : c < 57) : ∃ off : Int, lwO[c]? = some off ∧ ∃ tgt : Nat, (40 : Int) + off = (tgt : Int) ∧ J (some (N, xs)) 60 mL_law tgt (lwL i) [] M (lwX i) :=
  match c, hc with
  | 0, _ => ⟨244, rfl, 284, rfl, lw_next hi (lwc_feed hN hx hi hs)⟩
  | 1, _ => ⟨317, rfl, 357, rfl, lw_next hi (lwc_complex hN hx hi hs)⟩
  | 2, _ => ⟨342, rfl, 382, rfl, lw_next hi (lwc_fault hN hx hi hs)⟩
  | 3, _ => ⟨355, rfl, 395, rfl, lw_next hi (lwc_where hN hx hi hs)⟩
  | 4, _ => ⟨368, rfl, 408, rfl, lw_next hi (lwc_about hN hx hi hs)⟩
  | 5, _ => ⟨393, rfl, 433, rfl, lw_next hi (lwc_facet hN hx hi hs)⟩
  | 6, _ => ⟨418, rfl, 458, rfl, lw_next hi (lwc_within hN hx hi hs)⟩
  | 7, _ => ⟨443, rfl, 483, rfl, lw_next hi (lwc_missing hN hx hi hs)⟩
  | 8, _ => ⟨468, rfl, 508, rfl, lw_next hi (lwc_faces hN hx hi hs)⟩
  | 9, _ => ⟨493, rfl, 533, rfl, lw_next hi (lwc_h hN hx hi hs)⟩
  | 10, _ => ⟨518, rfl, 558, rfl, lw_next hi (lwc_euler hN hx hi hs)⟩
  | 11, _ => ⟨531, rfl, 571, rfl, lw_next hi (lwc_rank hN hx hi hs)⟩
  | 12, _ => ⟨556, rfl, 596, rfl, lw_next hi (lwc_round hN hx hi hs)⟩
  | 13, _ => ⟨581, rfl, 621, rfl, lw_next hi (lwc_dual hN hx hi hs)⟩
  | 14, _ => ⟨606, rfl, 646, rfl, lw_next hi (lwc_dualRound hN hx hi hs)⟩
  | 15, _ => ⟨631, rfl, 671, rfl, lw_next hi (lwc_near hN hx hi hs)⟩
  | 16, _ => ⟨656, rfl, 696, rfl, lw_next hi (lwc_apart hN hx hi hs)⟩
  | 17, _ => ⟨693, rfl, 733, rfl, lw_next hi (lwc_ordered hN hx hi hs)⟩
  | 18, _ => ⟨718, rfl, 758, rfl, lw_next hi (lwc_joins hN hx hi hs)⟩
  | 19, _ => ⟨743, rfl, 783, rfl, lw_next hi (lwc_restricted hN hx hi hs)⟩
  | 20, _ => ⟨768, rfl, 808, rfl, lw_next hi (lwc_good hN hx hi hs)⟩
  | 21, _ => ⟨781, rfl, 821, rfl, lw_next hi (lwc_sized hN hx hi hs)⟩
  | 22, _ => ⟨806, rfl, 846, rfl, lw_next hi (lwc_spanning hN hx hi hs)⟩
  | 23, _ => ⟨831, rfl, 871, rfl, lw_next hi (lwc_cycle hN hx hi hs)⟩
  | 24, _ => ⟨856, rfl, 896, rfl, lw_next hi (lwc_mean hN hx hi hs)⟩
  | 25, _ => ⟨897, rfl, 937, rfl, lw_next hi (lwc_cell hN hx hi hs)⟩
  | 26, _ => ⟨922, rfl, 962, rfl, lw_next hi (lwc_fresh hN hx hi hs)⟩
  | 27, _ => ⟨947, rfl, 987, rfl, lw_next hi (lwc_between hN hx hi hs)⟩
  | 28, _ => ⟨972, rfl, 1012, rfl, lw_next hi (lwc_unparted hN hx hi hs)⟩
  | 29, _ => ⟨985, rfl, 1025, rfl, lw_next hi (lwc_rebuilt hN hx hi hs)⟩
  | 30, _ => ⟨1010, rfl, 1050, rfl, lw_next hi (lwc_swaps hN hx hi hs)⟩
  | 31, _ => ⟨1023, rfl, 1063, rfl, lw_next hi (lwc_leaps hN hx hi hs)⟩
  | 32, _ => ⟨1048, rfl, 1088, rfl, lw_next hi (lwc_leap hN hx hi hs)⟩
  | 33, _ => ⟨1085, rfl, 1125, rfl, lw_next hi (lwc_linear hN hx hi hs)⟩
  | 34, _ => ⟨1098, rfl, 1138, rfl, lw_next hi (lwc_shellings hN hx hi hs)⟩
  | 35, _ => ⟨1111, rfl, 1151, rfl, lw_next hi (lwc_shelled hN hx hi hs)⟩
  | 36, _ => ⟨1136, rfl, 1176, rfl, lw_next hi (lwc_peelable hN hx hi hs)⟩
  | 37, _ => ⟨1149, rfl, 1189, rfl, lw_next hi (lwc_goesOn hN hx hi hs)⟩
  | 38, _ => ⟨1174, rfl, 1214, rfl, lw_next hi (lwc_stuck hN hx hi hs)⟩
  | 39, _ => ⟨1187, rfl, 1227, rfl, lw_next hi (lwc_peeled hN hx hi hs)⟩
  | 40, _ => ⟨1212, rfl, 1252, rfl, lw_next hi (lwc_link hN hx hi hs)⟩
  | 41, _ => ⟨1237, rfl, 1277, rfl, lw_next hi (lwc_linkRound hN hx hi hs)⟩
  | 42, _ => ⟨1274, rfl, 1314, rfl, lw_next hi (lwc_linkShellings hN hx hi hs)⟩
  | 43, _ => ⟨1299, rfl, 1339, rfl, lw_next hi (lwc_even hN hx hi hs)⟩
  | 44, _ => ⟨1312, rfl, 1352, rfl, lw_next hi (lwc_obstruction hN hx hi hs)⟩
  | 45, _ => ⟨1325, rfl, 1365, rfl, lw_next hi (lwc_fallsApart hN hx hi hs)⟩
  | 46, _ => ⟨1338, rfl, 1378, rfl, lw_next hi (lwc_shed hN hx hi hs)⟩
  | 47, _ => ⟨1351, rfl, 1391, rfl, lw_next hi (lwc_first hN hx hi hs)⟩
  | 48, _ => ⟨1364, rfl, 1404, rfl, lw_next hi (lwc_add hN hx hi hs)⟩
  | 49, _ => ⟨1389, rfl, 1429, rfl, lw_next hi (lwc_drop hN hx hi hs)⟩
  | 50, _ => ⟨1414, rfl, 1454, rfl, lw_next hi (lwc_peel hN hx hi hs)⟩
  | 51, _ => ⟨1427, rfl, 1467, rfl, lw_next hi (lwc_move hN hx hi hs)⟩
  | 52, _ => ⟨1464, rfl, 1504, rfl, lw_next hi (lwc_lay hN hx hi hs)⟩
  | 53, _ => ⟨1477, rfl, 1517, rfl, lw_next hi (lwc_turn hN hx hi hs)⟩
  | 54, _ => ⟨1514, rfl, 1554, rfl, J_exit ⟨rfl, Or.inr ⟨rfl, rfl, hs⟩⟩⟩
  | 55, _ => ⟨1570, rfl, 1610, rfl, lw_next hi (lwc_size hN hx hi hs)⟩
  | 56, _ => ⟨1583, rfl, 1623, rfl, lw_next hi (lwc_trouble hN hx hi hs)⟩
  | c + 57, h => absurd h (by omega)
theorem lw_step (hN : N ≤ 3072) (hx : ∀ j, -2147483648 ≤ xs j ∧ xs j < 2147483648) (hi : i + 6 ≤ N) (hs : SY M) : J (some (N, xs)) 60 mL_law 23 (lwL i) [] M (lwX i) := by
  refine J_iload dL_law_23 rfl ?_
  refine J_aload_nS dL_law_25 rfl ?_
  refine J_slen (nz := (N : Int)) dL_law_26 rfl rfl ?_
  refine J_bipush dL_law_27 (by decide) ?_
  refine J_isub dL_law_29 ?_
  refine J_icmp_gt (tgt := 1642) dL_law_30 rfl ⟨by omega, by omega⟩ ⟨by omega, by omega⟩ (fun h => absurd h (by omega)) (fun _ => ?_)
  refine J_aload_nS dL_law_33 rfl ?_
  refine J_iload dL_law_34 rfl ?_
  refine J_sld dL_law_36 rfl (by omega) ⟨by omega, by omega⟩ ?_
  refine J_bipush dL_law_37 (by decide) ?_
  refine J_iand dL_law_39 ?_
  have h63 := and63 (xs ((i : Int).toNat))
  obtain ⟨c, hc⟩ : ∃ c : Nat, j_and (xs ((i : Int).toNat)) 63 = (c : Int) := ⟨_, (Int.toNat_of_nonneg h63.1).symm⟩
  rw [hc]
  rw [hc] at h63
  by_cases h56 : c < 57
  · obtain ⟨off, h1, tgt, h2, h3⟩ := lw_disp hN hx hi hs c h56
    exact J_tableIn dL_law_40 ⟨by omega, by omega⟩ (by omega) (by omega) (by rw [Int.sub_zero, Int.toNat_natCast]; exact h1) h2 h3
  · exact J_tableOut (tgt := 1636) dL_law_40 ⟨by omega, by omega⟩ (Or.inr (by omega)) rfl (lw_inc hs)
end LWC
