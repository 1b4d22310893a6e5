abbrev mJ0_length_8abf5 : jI := (yJ0_length_8abf5, cJ0_length_8abf5, 1, (some .int))
theorem cvJ0_length_8abf5 : j_CV mJ0_length_8abf5 0 := ⟨⟨j_mem 387 (by decide +kernel) (by decide +kernel), j_mem 108 (by decide +kernel) (by decide +kernel), (by decide +kernel), by decide⟩, j_mem 385 (by decide +kernel) (by decide +kernel), j_mem 386 (by decide +kernel) (by decide +kernel)⟩
abbrev mJ0_charAt_5068e : jI := (yJ0_charAt_5068e, cJ0_charAt_5068e, 2, (some .char))
theorem cvJ0_charAt_5068e : j_CV mJ0_charAt_5068e 1 := ⟨⟨j_mem 397 (by decide +kernel) (by decide +kernel), j_mem 108 (by decide +kernel) (by decide +kernel), (by decide +kernel), by decide⟩, j_mem 395 (by decide +kernel) (by decide +kernel), j_mem 396 (by decide +kernel) (by decide +kernel)⟩
abbrev mJ0_coder_7d493 : jI := (yJ0_coder_7d493, cJ0_coder_7d493, 1, (some .byte))
theorem cvJ0_coder_7d493 : j_CV mJ0_coder_7d493 0 := ⟨⟨j_mem 391 (by decide +kernel) (by decide +kernel), j_mem 108 (by decide +kernel) (by decide +kernel), (by decide +kernel), by decide⟩, j_mem 389 (by decide +kernel) (by decide +kernel), j_mem 390 (by decide +kernel) (by decide +kernel)⟩
abbrev mJ0_isLatin1_aae02 : jI := (yJ0_isLatin1_aae02, cJ0_isLatin1_aae02, 1, (some .boolean))
theorem cvJ0_isLatin1_aae02 : j_CV mJ0_isLatin1_aae02 0 := ⟨⟨j_mem 401 (by decide +kernel) (by decide +kernel), j_mem 108 (by decide +kernel) (by decide +kernel), (by decide +kernel), by decide⟩, j_mem 399 (by decide +kernel) (by decide +kernel), j_mem 400 (by decide +kernel) (by decide +kernel)⟩
abbrev mJ0_checkIndex_df160 : jI := (yJ0_checkIndex_df160, cJ0_checkIndex_df160, 2, none)
theorem csJ0_checkIndex_df160 : j_CS mJ0_checkIndex_df160 2 := ⟨⟨j_mem 407 (by decide +kernel) (by decide +kernel), j_mem 108 (by decide +kernel) (by decide +kernel), (by decide +kernel), by decide⟩, j_mem 406 (by decide +kernel) (by decide +kernel)⟩
abbrev mJ1_charAt_3b067 : jI := (yJ1_charAt_3b067, cJ1_charAt_3b067, 2, (some .char))
theorem csJ1_charAt_3b067 : j_CS mJ1_charAt_3b067 2 := ⟨⟨j_mem 404 (by decide +kernel) (by decide +kernel), j_mem 109 (by decide +kernel) (by decide +kernel), (by decide +kernel), by decide⟩, j_mem 403 (by decide +kernel) (by decide +kernel)⟩
abbrev mJ3_checkIndex_8e157 : jI := (yJ3_checkIndex_8e157, cJ3_checkIndex_8e157, 3, (some .int))
theorem csJ3_checkIndex_8e157 : j_CS mJ3_checkIndex_8e157 3 := ⟨⟨j_mem 412 (by decide +kernel) (by decide +kernel), j_mem 110 (by decide +kernel) (by decide +kernel), (by decide +kernel), by decide⟩, j_mem 411 (by decide +kernel) (by decide +kernel)⟩
abbrev mJ6_bitCount_0f7a4 : jI := (yJ6_bitCount_0f7a4, cJ6_bitCount_0f7a4, 1, (some .int))
theorem csJ6_bitCount_0f7a4 : j_CS mJ6_bitCount_0f7a4 1 := ⟨⟨j_mem 241 (by decide +kernel) (by decide +kernel), j_mem 103 (by decide +kernel) (by decide +kernel), (by decide +kernel), by decide⟩, j_mem 240 (by decide +kernel) (by decide +kernel)⟩
theorem mlJ0_335 : Cond.methodLink RJ0 335 yJ0_coder_7d493 ∈ j_all := j_mem 388 (by decide +kernel) (by decide +kernel)
theorem mlJ0_492 : Cond.methodLink RJ0 492 yJ0_isLatin1_aae02 ∈ j_all := j_mem 398 (by decide +kernel) (by decide +kernel)
theorem mlJ0_495 : Cond.methodLink RJ0 495 yJ1_charAt_3b067 ∈ j_all := j_mem 402 (by decide +kernel) (by decide +kernel)
theorem mlJ1_9 : Cond.methodLink RJ1 9 yJ0_checkIndex_df160 ∈ j_all := j_mem 405 (by decide +kernel) (by decide +kernel)
theorem mlJ0_1059 : Cond.methodLink RJ0 1059 yJ3_checkIndex_8e157 ∈ j_all := j_mem 410 (by decide +kernel) (by decide +kernel)
theorem flJ0_38 : Cond.fieldLink RJ0 38 "java/lang/String" "COMPACT_STRINGS" "Z" ∈ j_all := j_mem 392 (by decide +kernel) (by decide +kernel)
theorem flJ0_1053 : Cond.fieldLink RJ0 1053 "jdk/internal/util/Preconditions" "SIOOBE_FORMATTER" "Ljava/util/function/BiFunction;" ∈ j_all := j_mem 408 (by decide +kernel) (by decide +kernel)
theorem flJ0_9 : Cond.fieldLink RJ0 9 "java/lang/String" "value" "[B" ∈ j_all := j_mem 1744 (by decide +kernel) (by decide +kernel)
theorem flJ0_15 : Cond.fieldLink RJ0 15 "java/lang/String" "coder" "B" ∈ j_all := j_mem 1745 (by decide +kernel) (by decide +kernel)
section JTXT
variable {sc : Option (Nat × (Nat → Int))} {d : Nat} {mi : jI} {pc : Nat} {L L' st : List jV} {M : jM} {X : jX}
theorem J_getCS {idx : Nat} (hd : decode mi.2.1 pc = .ok (.getstatic idx, 3)) (hl : Cond.fieldLink mi.1.cls idx "java/lang/String" "COMPACT_STRINGS" "Z" ∈ j_all) (kk : J sc d mi (pc + 3) L ((0, 1) :: st) M X) : J sc d mi pc L st M X := by
  intro p l e R s m args below meth c cells slots Q E A F hsc hX H locs ls hH hL
  exact va_gets F.1 F.2.1 F.2.2.2.2.2.2.2.2.2.2.2.2.2.2.2.1 hH.2.2 F.2.2.2.1 (F.2.2.2.2.1 _ hl) (fun _ h => h) hd (kk p l e R s m args below meth c cells slots Q E A F hsc hX H locs ls hH hL)
theorem J_getFM {idx : Nat} (hd : decode mi.2.1 pc = .ok (.getstatic idx, 3)) (hl : Cond.fieldLink mi.1.cls idx "jdk/internal/util/Preconditions" "SIOOBE_FORMATTER" "Ljava/util/function/BiFunction;" ∈ j_all) (kk : J sc d mi (pc + 3) L ((7, 0) :: st) M X) : J sc d mi pc L st M X := by
  intro p l e R s m args below meth c cells slots Q E A F hsc hX H locs ls hH hL
  exact va_gets F.1 F.2.1 F.2.2.2.2.2.2.2.2.2.2.2.2.2.2.2.2.1 hH.2.2 F.2.2.2.1 (F.2.2.2.2.1 _ hl) (fun _ h => h) hd (kk p l e R s m args below meth c cells slots Q E A F hsc hX H locs ls hH hL)
theorem J_getSC {idx : Nat} {z : Int} (hd : decode mi.2.1 pc = .ok (.getfield idx, 3)) (hl : Cond.fieldLink mi.1.cls idx "java/lang/String" "coder" "B" ∈ j_all) (hz : z.toNat < 4) (kk : J sc d mi (pc + 3) L ((0, 0) :: st) M X) : J sc d mi pc L ((4, z) :: st) M X := by
  intro p l e R s m args below meth c cells slots Q E A F hsc hX H locs ls hH hL
  exact vk_getf F.1 F.2.1 (F.2.2.2.2.2.2.2.2.2.2.2.2.2.1.1 z.toNat hz).2.1 hH.2.2 F.2.2.2.1 (F.2.2.2.2.1 _ hl) (fun _ h => h) hd (kk p l e R s m args below meth c cells slots Q E A F hsc hX H locs ls hH hL)
theorem J_getSV {idx : Nat} {z w : Int} (hd : decode mi.2.1 pc = .ok (.getfield idx, 3)) (hl : Cond.fieldLink mi.1.cls idx "java/lang/String" "value" "[B" ∈ j_all) (hz : z.toNat < 4) (hw : w.toNat = 10 + z.toNat) (kk : J sc d mi (pc + 3) L ((4, w) :: st) M X) : J sc d mi pc L ((4, z) :: st) M X := by
  intro p l e R s m args below meth c cells slots Q E A F hsc hX H locs ls hH hL
  have hk := kk p l e R s m args below meth c cells slots Q E A F hsc hX H locs ls hH hL
  have e9 : j_cv E (4, w) = .ref (E.2.2.2.1 (10 + z.toNat)) := by rw [← hw]; rfl
  rw [List.map_cons, e9] at hk
  exact vk_getf F.1 F.2.1 (F.2.2.2.2.2.2.2.2.2.2.2.2.2.1.1 z.toNat hz).2.2.1 hH.2.2 F.2.2.2.1 (F.2.2.2.2.1 _ hl) (fun _ h => h) hd hk
theorem J_tlen {w v : Int} {i : Nat} (hd : decode mi.2.1 pc = .ok (.arraylength, 1)) (hi : i < 4) (hw : w.toNat = 10 + i) (hv : ((j_len.getD i 0 : Nat) : Int) = v) (kk : J sc d mi (pc + 1) L ((0, v) :: st) M X) : J sc d mi pc L ((4, w) :: st) M X := by
  intro p l e R s m args below meth c cells slots Q E A F hsc hX H locs ls hH hL
  have e9 : j_cv E (4, w) = .ref (E.2.2.2.1 (10 + i)) := by rw [← hw]; rfl
  rw [List.map_cons, e9]
  exact va_tlen F.1 F.2.1 (F.2.2.2.2.2.2.2.2.2.2.2.2.2.1.1 i hi).2.2.2 hH.2.2 (v := Int32.ofInt v) (by rw [← hv]; rfl) hd (kk p l e R s m args below meth c cells slots Q E A F hsc hX H locs ls hH hL)
theorem J_tbald {w k v : Int} {i : Nat} (hd : decode mi.2.1 pc = .ok (.baload, 1)) (hi : i < 4) (hw : w.toNat = 10 + i) (hk : 0 ≤ k ∧ k < ((j_len.getD i 0 : Nat) : Int)) (hl : j_len.getD i 0 < 100) (hv : (j_byt.getD i []).getD k.toNat 0 = Int32.ofInt v) (kk : J sc d mi (pc + 1) L ((0, v) :: st) M X) : J sc d mi pc L ((0, k) :: (4, w) :: st) M X := by
  intro p l e R s m args below meth c cells slots Q E A F hsc hX H locs ls hH hL
  have e9 : j_cv E (4, w) = .ref (E.2.2.2.1 (10 + i)) := by rw [← hw]; rfl
  rw [List.map_cons, List.map_cons, e9]
  exact va_tb (i := Int32.ofInt k) F.1 F.2.1 (F.2.2.2.2.2.2.2.2.2.2.2.2.2.1.1 i hi).2.2.2 hH.2.2 (j_in (by omega) hk) (by rw [j_tn (by omega) hk, hv]; rfl) hd (kk p l e R s m args below meth c cells slots Q E A F hsc hX H locs ls hH hL)
theorem J_i2c {a : Int} (hd : decode mi.2.1 pc = .ok (.i2c, 1)) (ha : ((Int32.ofInt a).toUInt32 % 65536).toInt32 = Int32.ofInt a) (kk : J sc d mi (pc + 1) L ((0, a) :: st) M X) : J sc d mi pc L ((0, a) :: st) M X := by
  intro p l e R s m args below meth c cells slots Q E A F hsc hX H locs ls hH hL
  exact lv_i2c F.1 F.2.1 hd ha (kk p l e R s m args below meth c cells slots Q E A F hsc hX H locs ls hH hL)
theorem J_callTiQ {cl : jI} {n idx dc : Nat} {z e1 : Int} {m1 : jM} (As rest : List jV) (hd : decode mi.2.1 pc = .ok (.invokevirtual idx, 3)) (hl : Cond.methodLink mi.1.cls idx cl.1 ∈ j_all) (hc : j_CV cl n) (hn : As.length = n) (hst : st = As.reverse ++ (4, z) :: rest) (hz : z.toNat < 4) (hcl : cl.1.cls = "java/lang/String") (hdc : dc < d) (hw : j_wt rest ≤ 8) (hrk : j_rk cl.2.2.2 = 1) (ev : Ev dc cl ((4, z) :: As) M (fun z M' => z = e1 ∧ M' = m1)) (kk : J sc d mi (pc + 3) L ((0, e1) :: rest) m1 X) : J sc d mi pc L st M X := by
  intro p l e R s m args below meth c cells slots Q E A F hsc hX H locs ls hH hL
  have hM := ev l E H.size
  have e0 : j_Qc cl.2.2.2 E (fun z M' => z = e1 ∧ M' = m1) (va_A (j_w E M) H.size) = va_Qi (fun r M => ∃ z, r = Int32.ofInt z ∧ (fun z M' => z = e1 ∧ M' = m1) z M) (j_B E (va_A (j_w E M) H.size)) (va_A (j_w E M) H.size) := by
    unfold j_Qc
    simp only [hrk]
  rw [e0] at hM
  have hFc := j_free F.2.2.2.2.2.2.1 hH
  refine va_calli (va_runV (As := As.map (j_cv E)) (rest := rest.map (j_cv E)) (b := E.2.2.2.1 z.toNat) ⟨F.1, F.2.1, F.2.2.1, F.2.2.2.1, F.2.2.2.2.1⟩ hM ⟨j_callB F hl hc.1 hdc, F.2.2.2.2.1 _ hc.2.1, F.2.2.2.2.1 _ hc.2.2⟩ ⟨j_blind, by rw [hcl]; exact vk_recv F.2.2.2.2.2.2.2.2.2.2.2.2.2.1 hz hH.2.2, fun U hU hW => ⟨rfl, j_pre_of F.2.2.2.2.2.1 F.2.2.2.2.2.2.2.2.2.2.2 F.2.2.2.2.2.2.1 hH U hU hW⟩⟩ rfl (by rw [List.length_map]; exact hn) hL.1 (by show List.map (j_cv E) st = _; rw [hst, List.map_append, List.map_reverse]; rfl) (lv_room (by rw [j_wt_eq]; exact hw)) hd ⟨by have := F.2.2.2.2.2.2.2.2.2.1; omega, by have := F.2.2.2.2.2.2.2.2.2.2.1; omega⟩) hH.2.2 (fun q _ h => hFc q h) hFc (fun r u t H1 locs1 ht hvm hpost hB hz1 hk1 hS1 => ?_)
  obtain ⟨hP1, hK1, hD1⟩ := hB
  rw [ht] at hP1
  have hD1 := hD1.weaken (fun _ q _ h => hFc q.1 h)
  obtain ⟨z1, hz1, hq1, hq2⟩ := hpost
  subst hz1; subst hq1; subst hq2
  exact kk p l e R s m args below meth c cells slots Q E A F hsc hX H1 locs1 ls ⟨hP1, hD1, hS1⟩ hL
end JTXT
/-- the texts' letters -/
def j_ltr (i k : Nat) : Nat := (([[99, 111, 109, 112, 108, 101, 120], [102, 97, 99, 101, 116], [112, 111, 105, 110, 116, 115], [115, 105, 122, 101]] : List (List Nat)).getD i []).getD k 0
theorem j_ltr_ok : ∀ i, i < 4 → ∀ k, k < 8 → (j_byt.getD i []).getD k 0 = Int32.ofInt ((j_ltr i k : Nat) : Int) ∧ j_ltr i k < 128 := by decide +kernel
theorem j_len_ok : ∀ i, i < 4 → j_len.getD i 0 < 8 := by decide
theorem and255 : ∀ b, b < 128 → b &&& 255 = b := by decide +kernel
theorem i2c_ok : ∀ b, b < 128 → ((Int32.ofInt ((b : Nat) : Int)).toUInt32 % 65536).toInt32 = Int32.ofInt ((b : Nat) : Int) := by decide +kernel
theorem nar_char : ∀ b, b < 128 → narrow .char (.int (Int32.ofInt ((b : Nat) : Int))) = .int (Int32.ofInt ((b : Nat) : Int)) := by decide +kernel
theorem ev_coder (i : Nat) (hi : i < 4) (M : jM) : Ev 0 mJ0_coder_7d493 [(4, (i : Int))] M (fun z M' => z = 0 ∧ M' = M) := by
  refine Ev_of (by decide +kernel) (Nat.le_of_ble_eq_true rfl) (L := [(4, (i : Int))]) rfl ?_
  refine J_getCS dJ0_coder_7d493_0 flJ0_38 ?_
  refine J_if_eq (tgt := 13) dJ0_coder_7d493_3 rfl (by decide) (fun h => absurd h (by decide)) (fun _ => ?_)
  refine J_aload_nT dJ0_coder_7d493_6 rfl ?_
  refine J_getSC dJ0_coder_7d493_7 flJ0_15 (by omega) ?_
  refine J_goto (tgt := 14) dJ0_coder_7d493_10 rfl ?_
  exact J_creturn dJ0_coder_7d493_14 rfl rfl (by decide +kernel) ⟨rfl, rfl⟩
theorem ev_isLatin1 (i : Nat) (hi : i < 4) (M : jM) : Ev 0 mJ0_isLatin1_aae02 [(4, (i : Int))] M (fun z M' => z = 1 ∧ M' = M) := by
  refine Ev_of (by decide +kernel) (Nat.le_of_ble_eq_true rfl) (L := [(4, (i : Int))]) rfl ?_
  refine J_getCS dJ0_isLatin1_aae02_0 flJ0_38 ?_
  refine J_if_eq (tgt := 17) dJ0_isLatin1_aae02_3 rfl (by decide) (fun h => absurd h (by decide)) (fun _ => ?_)
  refine J_aload_nT dJ0_isLatin1_aae02_6 rfl ?_
  refine J_getSC dJ0_isLatin1_aae02_7 flJ0_15 (by omega) ?_
  refine J_if_ne (tgt := 17) dJ0_isLatin1_aae02_10 rfl (by decide) (fun h => absurd rfl h) (fun _ => ?_)
  refine J_iconst dJ0_isLatin1_aae02_13 ?_
  refine J_goto (tgt := 18) dJ0_isLatin1_aae02_14 rfl ?_
  exact J_zreturn dJ0_isLatin1_aae02_18 rfl (Or.inr rfl) ⟨rfl, rfl⟩
theorem ev_length (i : Nat) (hi : i < 4) (M : jM) : Ev 1 mJ0_length_8abf5 [(4, (i : Int))] M (fun z M' => z = ((j_len.getD i 0 : Nat) : Int) ∧ M' = M) := by
  have h8 := j_len_ok i hi
  refine Ev_of (by decide +kernel) (Nat.le_of_ble_eq_true rfl) (L := [(4, (i : Int))]) rfl ?_
  refine J_aload_nT dJ0_length_8abf5_0 rfl ?_
  refine J_getSV (w := ((10 + i : Nat) : Int)) dJ0_length_8abf5_1 flJ0_9 (by omega) (by omega) ?_
  refine J_tlen (i := i) dJ0_length_8abf5_4 hi (by omega) rfl ?_
  refine J_aload_nT dJ0_length_8abf5_5 rfl ?_
  refine J_callTiQ (cl := mJ0_coder_7d493) [] [(0, ((j_len.getD i 0 : Nat) : Int))] dJ0_length_8abf5_6 mlJ0_335 cvJ0_coder_7d493 rfl rfl (by omega) rfl (by decide) (Nat.le_of_ble_eq_true rfl) rfl (ev_coder i hi M) ?_
  refine J_ishr dJ0_length_8abf5_9 (J_top (v := ((j_len.getD i 0 : Nat) : Int)) ((j_shrN (x := j_len.getD i 0) (p := 0) rfl rfl (by omega) (by decide)).trans (by rw [Nat.shiftRight_zero])) ?_)
  exact J_ireturn dJ0_length_8abf5_10 rfl ⟨rfl, rfl⟩
theorem ev_chkP (a b : Int) (h : 0 ≤ a ∧ a < b ∧ b < 2147483648) (M : jM) : Ev 0 mJ3_checkIndex_8e157 [(0, a), (0, b), (7, 0)] M (fun z M' => z = a ∧ M' = M) := by
  refine Ev_of (by decide +kernel) (Nat.le_of_ble_eq_true rfl) (L := [(0, a), (0, b), (7, 0)]) rfl ?_
  refine J_iload_n dJ3_checkIndex_8e157_0 rfl ?_
  refine J_if_lt (tgt := 9) dJ3_checkIndex_8e157_1 rfl (by omega) (fun q => by omega) (fun _ => ?_)
  refine J_iload_n dJ3_checkIndex_8e157_4 rfl ?_
  refine J_iload_n dJ3_checkIndex_8e157_5 rfl ?_
  refine J_icmp_lt (tgt := 16) dJ3_checkIndex_8e157_6 rfl (by omega) (by omega) (fun _ => ?_) (fun q => by omega)
  refine J_iload_n dJ3_checkIndex_8e157_16 rfl ?_
  exact J_ireturn dJ3_checkIndex_8e157_17 rfl ⟨rfl, rfl⟩
theorem ev_chk (a b : Int) (h : 0 ≤ a ∧ a < b ∧ b < 2147483648) (M : jM) : Ev 1 mJ0_checkIndex_df160 [(0, a), (0, b)] M (fun _ M' => M' = M) := by
  refine Ev_of (by decide +kernel) (Nat.le_of_ble_eq_true rfl) (L := [(0, a), (0, b)]) rfl ?_
  refine J_iload_n dJ0_checkIndex_df160_0 rfl ?_
  refine J_iload_n dJ0_checkIndex_df160_1 rfl ?_
  refine J_getFM dJ0_checkIndex_df160_2 flJ0_1053 ?_
  refine J_callSiQ (cl := mJ3_checkIndex_8e157) [(0, a), (0, b), (7, 0)] [] dJ0_checkIndex_df160_5 mlJ0_1059 csJ3_checkIndex_8e157 rfl rfl (by decide) (Nat.le_of_ble_eq_true rfl) rfl (ev_chkP a b h M) ?_
  refine J_pop dJ0_checkIndex_df160_8 rfl ?_
  exact J_return dJ0_checkIndex_df160_9 rfl rfl
theorem ev_charL (i k : Nat) (hi : i < 4) (hk : k < j_len.getD i 0) (M : jM) : Ev 2 mJ1_charAt_3b067 [(4, ((10 + i : Nat) : Int)), (0, (k : Int))] M (fun z M' => z = ((j_ltr i k : Nat) : Int) ∧ M' = M) := by
  have h8 := j_len_ok i hi
  obtain ⟨hb, hb2⟩ := j_ltr_ok i hi k (by omega)
  refine Ev_of (by decide +kernel) (Nat.le_of_ble_eq_true rfl) (L := [(4, ((10 + i : Nat) : Int)), (0, (k : Int))]) rfl ?_
  refine J_iload_n dJ1_charAt_3b067_0 rfl ?_
  refine J_aload_nT dJ1_charAt_3b067_1 rfl ?_
  refine J_tlen (i := i) dJ1_charAt_3b067_2 hi (by omega) rfl ?_
  refine J_callSv (cl := mJ0_checkIndex_df160) (Qc := fun _ M' => M' = M) [(0, (k : Int)), (0, ((j_len.getD i 0 : Nat) : Int))] [] dJ1_charAt_3b067_3 mlJ1_9 csJ0_checkIndex_df160 rfl rfl (by decide) (Nat.le_of_ble_eq_true rfl) rfl (ev_chk _ _ (by omega) M) (fun M' hM' => ?_)
  rw [hM']
  refine J_aload_nT dJ1_charAt_3b067_6 rfl ?_
  refine J_iload_n dJ1_charAt_3b067_7 rfl ?_
  refine J_tbald (i := i) (v := ((j_ltr i k : Nat) : Int)) dJ1_charAt_3b067_8 hi (by omega) (by omega) (by omega) (by rw [Int.toNat_natCast]; exact hb) ?_
  refine J_sipush dJ1_charAt_3b067_9 (by decide) ?_
  refine J_iand dJ1_charAt_3b067_12 (J_top (v := ((j_ltr i k : Nat) : Int)) (by have h9 := j_andN (a := ((j_ltr i k : Nat) : Int)) (b := 255) (y := 255) rfl rfl (by omega) (by decide); rw [and255 _ hb2] at h9; exact h9) ?_)
  refine J_i2c dJ1_charAt_3b067_13 (i2c_ok _ hb2) ?_
  exact J_creturn dJ1_charAt_3b067_14 rfl rfl (nar_char _ hb2) ⟨rfl, rfl⟩
theorem ev_charAt (i k : Nat) (hi : i < 4) (hk : k < j_len.getD i 0) (M : jM) : Ev 3 mJ0_charAt_5068e [(4, (i : Int)), (0, (k : Int))] M (fun z M' => z = ((j_ltr i k : Nat) : Int) ∧ M' = M) := by
  have h8 := j_len_ok i hi
  obtain ⟨hb, hb2⟩ := j_ltr_ok i hi k (by omega)
  refine Ev_of (by decide +kernel) (Nat.le_of_ble_eq_true rfl) (L := [(4, (i : Int)), (0, (k : Int))]) rfl ?_
  refine J_aload_nT dJ0_charAt_5068e_0 rfl ?_
  refine J_callTiQ (cl := mJ0_isLatin1_aae02) [] [] dJ0_charAt_5068e_1 mlJ0_492 cvJ0_isLatin1_aae02 rfl rfl (by omega) rfl (by decide) (Nat.le_of_ble_eq_true rfl) rfl (ev_isLatin1 i hi M) ?_
  refine J_if_eq (tgt := 16) dJ0_charAt_5068e_4 rfl (by decide) (fun h => absurd h (by decide)) (fun _ => ?_)
  refine J_aload_nT dJ0_charAt_5068e_7 rfl ?_
  refine J_getSV (w := ((10 + i : Nat) : Int)) dJ0_charAt_5068e_8 flJ0_9 (by omega) (by omega) ?_
  refine J_iload_n dJ0_charAt_5068e_11 rfl ?_
  refine J_callSiQ (cl := mJ1_charAt_3b067) [(4, ((10 + i : Nat) : Int)), (0, (k : Int))] [] dJ0_charAt_5068e_12 mlJ0_495 csJ1_charAt_3b067 rfl rfl (by decide) (Nat.le_of_ble_eq_true rfl) rfl (ev_charL i k hi hk M) ?_
  exact J_creturn dJ0_charAt_5068e_15 rfl rfl (nar_char _ hb2) ⟨rfl, rfl⟩

def bcA (x : Nat) : Nat := x - ((x >>> 1) &&& 1431655765)
def bcB (x : Nat) : Nat := (bcA x &&& 858993459) + ((bcA x >>> 2) &&& 858993459)
def bcC (x : Nat) : Nat := (bcB x + bcB x >>> 4) &&& 252645135
def bcD (x : Nat) : Nat := bcC x + bcC x >>> 8
def bcE (x : Nat) : Nat := bcD x + bcD x >>> 16
theorem bc_ok0 : ∀ a, a < 64 → ∀ b, b < 64 → bcE (64 * a + b) &&& 63 = cntN 12 (fun i => (64 * a + b).testBit i) := by decide +kernel
theorem bc_ok (x : Nat) (h : x < 4096) : bcE x &&& 63 = cntN 12 (fun i => x.testBit i) := by
  have := bc_ok0 (x / 64) (by omega) (x % 64) (by omega)
  rw [show 64 * (x / 64) + x % 64 = x by omega] at this
  exact this
theorem j_ushrN {a b : Int} {x p : Nat} (ha : a = (x : Int)) (hb : b = (p : Int)) (hx : x < 2147483648) (hp : p < 31) : j_ushr a b = ((x >>> p : Nat) : Int) := by
  subst ha; subst hb
  unfold j_ushr
  have h1 : (Int32.ofInt (x : Int)).toUInt32 = UInt32.ofNat x := by
    apply UInt32.toBitVec_inj.mp
    show (Int32.ofInt (x : Int)).toBitVec = (UInt32.ofNat x).toBitVec
    rw [j_bv]
    rfl
  have h2 : (Int32.ofInt (p : Int)).toUInt32 = UInt32.ofNat p := by
    apply UInt32.toBitVec_inj.mp
    show (Int32.ofInt (p : Int)).toBitVec = (UInt32.ofNat p).toBitVec
    rw [j_bv]
    rfl
  rw [h1, h2]
  apply j_toI _ (nb_shr hx)
  show (UInt32.ofNat x >>> (UInt32.ofNat p &&& Int32.toUInt32 31)).toBitVec = _
  apply BitVec.eq_of_toNat_eq
  show (UInt32.ofNat x >>> (UInt32.ofNat p &&& Int32.toUInt32 31)).toNat = _
  rw [UInt32.toNat_shiftRight, UInt32.toNat_and, show (Int32.toUInt32 31).toNat = 2 ^ 5 - 1 by decide, Nat.and_two_pow_sub_one_eq_mod, UInt32.toNat_ofNat', UInt32.toNat_ofNat', BitVec.toNat_ofNat]
  have h3 := nb_shr (k := p) hx
  rw [show p % 2 ^ 32 % 2 ^ 5 % 32 = p by omega, Nat.mod_eq_of_lt (by omega), Nat.mod_eq_of_lt (by omega)]
theorem J_ldcw {sc : Option (Nat × (Nat → Int))} {d : Nat} {mi : jI} {pc : Nat} {L st : List jV} {M : jM} {X : jX} {n : Int} {idx : Nat} (hd : decode mi.2.1 pc = .ok (.ldc_w idx, 3)) (hc : Cond.constant mi.1.cls idx (Int32.ofInt n) ∈ j_all) (k : J sc d mi (pc + 3) L ((0, n) :: st) M X) : J sc d mi pc L st M X := by
  intro p l e R s m args below meth c cells slots Q E A F hsc hX H locs ls hH hL
  exact lv_ldcw F.1 F.2.1 F.2.2.2.1 (F.2.2.2.2.1 _ hc) hd (k p l e R s m args below meth c cells slots Q E A F hsc hX H locs ls hH hL)
theorem ev_bitCount (x : Nat) (hx : x < 4096) (M : jM) : Ev 0 mJ6_bitCount_0f7a4 [(0, (x : Int))] M (fun z M' => z = ((popc x : Nat) : Int) ∧ M' = M) := by
  have a1 : bcA x < 2147483648 := by have : bcA x ≤ x := Nat.sub_le _ _; omega
  have b1 : bcB x < 2147483648 := by
    have h1 : bcA x &&& 858993459 ≤ 858993459 := Nat.and_le_right
    have h2 : (bcA x >>> 2) &&& 858993459 ≤ 858993459 := Nat.and_le_right
    unfold bcB; omega
  have b2 : bcB x + bcB x >>> 4 < 2147483648 := by
    have h1 : bcA x &&& 858993459 ≤ bcA x := Nat.and_le_left
    have h2 : (bcA x >>> 2) &&& 858993459 ≤ bcA x >>> 2 := Nat.and_le_left
    have h3 : bcA x ≤ x := Nat.sub_le _ _
    have h4 : bcA x >>> 2 ≤ bcA x := by rw [Nat.shiftRight_eq_div_pow]; exact Nat.div_le_self _ _
    have h5 : bcB x >>> 4 ≤ bcB x := by rw [Nat.shiftRight_eq_div_pow]; exact Nat.div_le_self _ _
    have h6 : bcB x ≤ 8192 := by unfold bcB; omega
    omega
  have c1 : bcC x ≤ 252645135 := Nat.and_le_right
  have c2 : bcC x >>> 8 ≤ bcC x := by rw [Nat.shiftRight_eq_div_pow]; exact Nat.div_le_self _ _
  have d0 : bcD x = bcC x + bcC x >>> 8 := rfl
  have d1 : bcD x ≤ 505290270 := by omega
  have d2 : bcD x >>> 16 ≤ bcD x := by rw [Nat.shiftRight_eq_div_pow]; exact Nat.div_le_self _ _
  have e0 : bcE x = bcD x + bcD x >>> 16 := rfl
  have s1 : (x >>> 1) &&& 1431655765 ≤ x := Nat.le_trans Nat.and_le_left (by rw [Nat.shiftRight_eq_div_pow]; exact Nat.div_le_self _ _)
  refine Ev_of (by decide +kernel) (Nat.le_of_ble_eq_true rfl) (L := [(0, (x : Int))]) rfl ?_
  refine J_iload_n dJ6_bitCount_0f7a4_0 rfl ?_
  refine J_iload_n dJ6_bitCount_0f7a4_1 rfl ?_
  refine J_iconst dJ6_bitCount_0f7a4_2 ?_
  refine J_iushr dJ6_bitCount_0f7a4_3 (J_top (v := ((x >>> 1 : Nat) : Int)) (j_ushrN (p := 1) rfl rfl (by omega) (by decide)) ?_)
  refine J_ldcw (n := 1431655765) dJ6_bitCount_0f7a4_4 kcJ6_265 ?_
  refine J_iand dJ6_bitCount_0f7a4_7 (J_top (v := (((x >>> 1) &&& 1431655765 : Nat) : Int)) (j_andN rfl rfl (nb_shr (by omega)) (by decide)) ?_)
  refine J_isub dJ6_bitCount_0f7a4_8 (J_top (v := ((bcA x : Nat) : Int)) (by unfold bcA; omega) ?_)
  refine J_istore_n (L' := [(0, ((bcA x : Nat) : Int))]) dJ6_bitCount_0f7a4_9 (by decide) rfl rfl ?_
  refine J_iload_n dJ6_bitCount_0f7a4_10 rfl ?_
  refine J_ldcw (n := 858993459) dJ6_bitCount_0f7a4_11 kcJ6_266 ?_
  refine J_iand dJ6_bitCount_0f7a4_14 (J_top (v := ((bcA x &&& 858993459 : Nat) : Int)) (j_andN rfl rfl a1 (by decide)) ?_)
  refine J_iload_n dJ6_bitCount_0f7a4_15 rfl ?_
  refine J_iconst dJ6_bitCount_0f7a4_16 ?_
  refine J_iushr dJ6_bitCount_0f7a4_17 (J_top (v := ((bcA x >>> 2 : Nat) : Int)) (j_ushrN (p := 2) rfl rfl a1 (by decide)) ?_)
  refine J_ldcw (n := 858993459) dJ6_bitCount_0f7a4_18 kcJ6_266 ?_
  refine J_iand dJ6_bitCount_0f7a4_21 (J_top (v := (((bcA x >>> 2) &&& 858993459 : Nat) : Int)) (j_andN rfl rfl (nb_shr a1) (by decide)) ?_)
  refine J_iadd dJ6_bitCount_0f7a4_22 (J_top (v := ((bcB x : Nat) : Int)) (by unfold bcB; omega) ?_)
  refine J_istore_n (L' := [(0, ((bcB x : Nat) : Int))]) dJ6_bitCount_0f7a4_23 (by decide) rfl rfl ?_
  refine J_iload_n dJ6_bitCount_0f7a4_24 rfl ?_
  refine J_iload_n dJ6_bitCount_0f7a4_25 rfl ?_
  refine J_iconst dJ6_bitCount_0f7a4_26 ?_
  refine J_iushr dJ6_bitCount_0f7a4_27 (J_top (v := ((bcB x >>> 4 : Nat) : Int)) (j_ushrN (p := 4) rfl rfl b1 (by decide)) ?_)
  refine J_iadd dJ6_bitCount_0f7a4_28 (J_top (v := ((bcB x + bcB x >>> 4 : Nat) : Int)) (by omega) ?_)
  refine J_ldcw (n := 252645135) dJ6_bitCount_0f7a4_29 kcJ6_267 ?_
  refine J_iand dJ6_bitCount_0f7a4_32 (J_top (v := ((bcC x : Nat) : Int)) (j_andN rfl rfl b2 (by decide)) ?_)
  refine J_istore_n (L' := [(0, ((bcC x : Nat) : Int))]) dJ6_bitCount_0f7a4_33 (by decide) rfl rfl ?_
  refine J_iload_n dJ6_bitCount_0f7a4_34 rfl ?_
  refine J_iload_n dJ6_bitCount_0f7a4_35 rfl ?_
  refine J_bipush dJ6_bitCount_0f7a4_36 (by decide) ?_
  refine J_iushr dJ6_bitCount_0f7a4_38 (J_top (v := ((bcC x >>> 8 : Nat) : Int)) (j_ushrN (p := 8) rfl rfl (by omega) (by decide)) ?_)
  refine J_iadd dJ6_bitCount_0f7a4_39 (J_top (v := ((bcD x : Nat) : Int)) (by omega) ?_)
  refine J_istore_n (L' := [(0, ((bcD x : Nat) : Int))]) dJ6_bitCount_0f7a4_40 (by decide) rfl rfl ?_
  refine J_iload_n dJ6_bitCount_0f7a4_41 rfl ?_
  refine J_iload_n dJ6_bitCount_0f7a4_42 rfl ?_
  refine J_bipush dJ6_bitCount_0f7a4_43 (by decide) ?_
  refine J_iushr dJ6_bitCount_0f7a4_45 (J_top (v := ((bcD x >>> 16 : Nat) : Int)) (j_ushrN (p := 16) rfl rfl (by omega) (by decide)) ?_)
  refine J_iadd dJ6_bitCount_0f7a4_46 (J_top (v := ((bcE x : Nat) : Int)) (by omega) ?_)
  refine J_istore_n (L' := [(0, ((bcE x : Nat) : Int))]) dJ6_bitCount_0f7a4_47 (by decide) rfl rfl ?_
  refine J_iload_n dJ6_bitCount_0f7a4_48 rfl ?_
  refine J_bipush dJ6_bitCount_0f7a4_49 (by decide) ?_
  refine J_iand dJ6_bitCount_0f7a4_51 (J_top (v := ((bcE x &&& 63 : Nat) : Int)) (j_andN (y := 63) rfl rfl (by omega) (by decide)) ?_)
  refine J_ireturn dJ6_bitCount_0f7a4_52 rfl ⟨?_, rfl⟩
  rw [bc_ok x hx, popc_cnt 12 x hx]
