section LWC
variable {N : Nat} {xs : Nat → Int} {i : Nat} {M : jM}
set_option maxRecDepth 100000 in
set_option maxHeartbeats 4000000 in
theorem lwc_unparted (hN : N ≤ 3072) (hx : ∀ j, -2147483648 ≤ xs j ∧ xs j < 2147483648) (hi : i + 6 ≤ N) (hs : SY M) : J (some (N, xs)) 60 mL_law 1012 (lwL i) [] M (lwE i) := by
  obtain ⟨P, D, n, F, O, tl, tb, fa, tr, wh, hm, hk, hr⟩ := hs
  refine J_aload_n dL_law_1012 rfl ?_
  refine J_callVi (cl := mX6_unparted) [] [] dL_law_1013 mlL_135 cvX6_unparted rfl rfl rfl rfl rfl (by decide) (Nat.le_of_ble_eq_true rfl) rfl (ev_X6_unparted P D n F O tl tb fa tr wh M hk) (fun za Ma qMa => ?_)
  obtain ⟨rfl, k2, k1⟩ := qMa
  have hm1 := ms_km k1 hm
  refine J_aload_n dL_law_1016 rfl ?_
  refine J_callVi (cl := mX7_unparted) [] [(0, _)] dL_law_1017 mlL_138 cvX7_unparted rfl rfl rfl rfl rfl (by decide) (Nat.le_of_ble_eq_true rfl) rfl (ev_X7_unparted P D n F O tl tb fa tr wh Ma hm1) (fun zb Mb qMb => ?_)
  obtain ⟨rfl, m2, m1⟩ := qMb
  refine J_icmp_eqT (tgt := 1636) dL_law_1020 rfl rfl ?_
  exact J_exit ⟨rfl, rfl, rfl, _, _, _, _, _, _, _, _, _, _, m2, ks_cm m1 k2, tr_u1 _⟩
set_option maxRecDepth 100000 in
set_option maxHeartbeats 4000000 in
theorem lwc_rebuilt (hN : N ≤ 3072) (hx : ∀ j, -2147483648 ≤ xs j ∧ xs j < 2147483648) (hi : i + 6 ≤ N) (hs : SY M) : J (some (N, xs)) 60 mL_law 1025 (lwL i) [] M (lwE i) := by
  obtain ⟨P, D, n, F, O, tl, tb, fa, tr, wh, hm, hk, hr⟩ := hs
  refine J_aload_n dL_law_1025 rfl ?_
  refine J_aload_nS dL_law_1026 rfl ?_
  refine J_iload dL_law_1027 rfl ?_
  refine J_iconst dL_law_1029 ?_
  refine J_iadd dL_law_1030 ?_
  refine J_sld dL_law_1031 rfl (by omega) ⟨by omega, by omega⟩ ?_
  refine J_callVi (cl := mX6_rebuilt) [(0, xs (((i : Int) + 1).toNat))] [] dL_law_1032 mlL_139 cvX6_rebuilt rfl rfl rfl rfl rfl (by decide) (Nat.le_of_ble_eq_true rfl) rfl (ev_X6_rebuilt P D n F O tl tb fa tr wh M hk (xs (((i : Int) + 1).toNat)) (hx _)) (fun za Ma qMa => ?_)
  obtain ⟨rfl, k2, k1⟩ := qMa
  have hm1 := ms_km k1 hm
  refine J_aload_n dL_law_1035 rfl ?_
  refine J_aload_nS dL_law_1036 rfl ?_
  refine J_iload dL_law_1037 rfl ?_
  refine J_iconst dL_law_1039 ?_
  refine J_iadd dL_law_1040 ?_
  refine J_sld dL_law_1041 rfl (by omega) ⟨by omega, by omega⟩ ?_
  refine J_callVi (cl := mX7_rebuilt) [(0, xs (((i : Int) + 1).toNat))] [(0, _)] dL_law_1042 mlL_142 cvX7_rebuilt rfl rfl rfl rfl rfl (by decide) (Nat.le_of_ble_eq_true rfl) rfl (ev_X7_rebuilt P D n F O tl tb fa tr wh Ma hm1 (xs (((i : Int) + 1).toNat)) (hx _)) (fun zb Mb qMb => ?_)
  obtain ⟨rfl, m2, m1⟩ := qMb
  refine J_icmp_eqT (tgt := 1636) dL_law_1045 rfl rfl ?_
  exact J_exit ⟨rfl, rfl, rfl, _, _, _, _, _, _, _, _, _, _, m2, ks_cm m1 k2, tr_u2 _ _⟩
set_option maxRecDepth 100000 in
set_option maxHeartbeats 4000000 in
theorem lwc_swaps (hN : N ≤ 3072) (hx : ∀ j, -2147483648 ≤ xs j ∧ xs j < 2147483648) (hi : i + 6 ≤ N) (hs : SY M) : J (some (N, xs)) 60 mL_law 1050 (lwL i) [] M (lwE i) := by
  obtain ⟨P, D, n, F, O, tl, tb, fa, tr, wh, hm, hk, hr⟩ := hs
  refine J_aload_n dL_law_1050 rfl ?_
  refine J_callVi (cl := mX6_swaps) [] [] dL_law_1051 mlL_143 cvX6_swaps rfl rfl rfl rfl rfl (by decide) (Nat.le_of_ble_eq_true rfl) rfl (ev_X6_swaps P D n F O tl tb fa tr wh M hk) (fun za Ma qMa => ?_)
  obtain ⟨rfl, k2, k1⟩ := qMa
  have hm1 := ms_km k1 hm
  refine J_aload_n dL_law_1054 rfl ?_
  refine J_callVi (cl := mX7_swaps) [] [(0, _)] dL_law_1055 mlL_146 cvX7_swaps rfl rfl rfl rfl rfl (by decide) (Nat.le_of_ble_eq_true rfl) rfl (ev_X7_swaps P D n F O tl tb fa tr wh Ma hm1) (fun zb Mb qMb => ?_)
  obtain ⟨rfl, m2, m1⟩ := qMb
  refine J_icmp_eqT (tgt := 1636) dL_law_1058 rfl rfl ?_
  exact J_exit ⟨rfl, rfl, rfl, _, _, _, _, _, _, _, _, _, _, m2, ks_cm m1 k2, tr_u1 _⟩
set_option maxRecDepth 100000 in
set_option maxHeartbeats 4000000 in
theorem lwc_leaps (hN : N ≤ 3072) (hx : ∀ j, -2147483648 ≤ xs j ∧ xs j < 2147483648) (hi : i + 6 ≤ N) (hs : SY M) : J (some (N, xs)) 60 mL_law 1063 (lwL i) [] M (lwE i) := by
  obtain ⟨P, D, n, F, O, tl, tb, fa, tr, wh, hm, hk, hr⟩ := hs
  refine J_aload_n dL_law_1063 rfl ?_
  refine J_aload_nS dL_law_1064 rfl ?_
  refine J_iload dL_law_1065 rfl ?_
  refine J_iconst dL_law_1067 ?_
  refine J_iadd dL_law_1068 ?_
  refine J_sld dL_law_1069 rfl (by omega) ⟨by omega, by omega⟩ ?_
  refine J_callVi (cl := mX6_leaps) [(0, xs (((i : Int) + 1).toNat))] [] dL_law_1070 mlL_147 cvX6_leaps rfl rfl rfl rfl rfl (by decide) (Nat.le_of_ble_eq_true rfl) rfl (ev_X6_leaps P D n F O tl tb fa tr wh M hk (xs (((i : Int) + 1).toNat)) (hx _)) (fun za Ma qMa => ?_)
  obtain ⟨rfl, k2, k1⟩ := qMa
  have hm1 := ms_km k1 hm
  refine J_aload_n dL_law_1073 rfl ?_
  refine J_aload_nS dL_law_1074 rfl ?_
  refine J_iload dL_law_1075 rfl ?_
  refine J_iconst dL_law_1077 ?_
  refine J_iadd dL_law_1078 ?_
  refine J_sld dL_law_1079 rfl (by omega) ⟨by omega, by omega⟩ ?_
  refine J_callVi (cl := mX7_leaps) [(0, xs (((i : Int) + 1).toNat))] [(0, _)] dL_law_1080 mlL_150 cvX7_leaps rfl rfl rfl rfl rfl (by decide) (Nat.le_of_ble_eq_true rfl) rfl (ev_X7_leaps P D n F O tl tb fa tr wh Ma hm1 (xs (((i : Int) + 1).toNat)) (hx _)) (fun zb Mb qMb => ?_)
  obtain ⟨rfl, m2, m1⟩ := qMb
  refine J_icmp_eqT (tgt := 1636) dL_law_1083 rfl rfl ?_
  exact J_exit ⟨rfl, rfl, rfl, _, _, _, _, _, _, _, _, _, _, m2, ks_cm m1 k2, tr_u1 _⟩
set_option maxRecDepth 100000 in
set_option maxHeartbeats 4000000 in
theorem lwc_leap (hN : N ≤ 3072) (hx : ∀ j, -2147483648 ≤ xs j ∧ xs j < 2147483648) (hi : i + 6 ≤ N) (hs : SY M) : J (some (N, xs)) 60 mL_law 1088 (lwL i) [] M (lwE i) := by
  obtain ⟨P, D, n, F, O, tl, tb, fa, tr, wh, hm, hk, hr⟩ := hs
  refine J_aload_n dL_law_1088 rfl ?_
  refine J_aload_nS dL_law_1089 rfl ?_
  refine J_iload dL_law_1090 rfl ?_
  refine J_iconst dL_law_1092 ?_
  refine J_iadd dL_law_1093 ?_
  refine J_sld dL_law_1094 rfl (by omega) ⟨by omega, by omega⟩ ?_
  refine J_aload_nS dL_law_1095 rfl ?_
  refine J_iload dL_law_1096 rfl ?_
  refine J_iconst dL_law_1098 ?_
  refine J_iadd dL_law_1099 ?_
  refine J_sld dL_law_1100 rfl (by omega) ⟨by omega, by omega⟩ ?_
  refine J_callVi (cl := mX6_leap) [(0, xs (((i : Int) + 1).toNat)), (0, xs (((i : Int) + 2).toNat))] [] dL_law_1101 mlL_151 cvX6_leap rfl rfl rfl rfl rfl (by decide) (Nat.le_of_ble_eq_true rfl) rfl (ev_X6_leap P D n F O tl tb fa tr wh M hk (xs (((i : Int) + 1).toNat)) (hx _) (xs (((i : Int) + 2).toNat)) (hx _)) (fun za Ma qMa => ?_)
  obtain ⟨rfl, k2, k1⟩ := qMa
  have hm1 := ms_km k1 hm
  refine J_aload_n dL_law_1104 rfl ?_
  refine J_aload_nS dL_law_1105 rfl ?_
  refine J_iload dL_law_1106 rfl ?_
  refine J_iconst dL_law_1108 ?_
  refine J_iadd dL_law_1109 ?_
  refine J_sld dL_law_1110 rfl (by omega) ⟨by omega, by omega⟩ ?_
  refine J_aload_nS dL_law_1111 rfl ?_
  refine J_iload dL_law_1112 rfl ?_
  refine J_iconst dL_law_1114 ?_
  refine J_iadd dL_law_1115 ?_
  refine J_sld dL_law_1116 rfl (by omega) ⟨by omega, by omega⟩ ?_
  refine J_callVi (cl := mX7_leap) [(0, xs (((i : Int) + 1).toNat)), (0, xs (((i : Int) + 2).toNat))] [(0, _)] dL_law_1117 mlL_154 cvX7_leap rfl rfl rfl rfl rfl (by decide) (Nat.le_of_ble_eq_true rfl) rfl (ev_X7_leap P D n F O tl tb fa tr wh Ma hm1 (xs (((i : Int) + 1).toNat)) (hx _) (xs (((i : Int) + 2).toNat)) (hx _)) (fun zb Mb qMb => ?_)
  obtain ⟨rfl, m2, m1⟩ := qMb
  refine J_icmp_eqT (tgt := 1636) dL_law_1120 rfl rfl ?_
  exact J_exit ⟨rfl, rfl, rfl, _, _, _, _, _, _, _, _, _, _, m2, ks_cm m1 k2, tr_u1 _⟩
set_option maxRecDepth 100000 in
set_option maxHeartbeats 4000000 in
theorem lwc_linear (hN : N ≤ 3072) (hx : ∀ j, -2147483648 ≤ xs j ∧ xs j < 2147483648) (hi : i + 6 ≤ N) (hs : SY M) : J (some (N, xs)) 60 mL_law 1125 (lwL i) [] M (lwE i) := by
  obtain ⟨P, D, n, F, O, tl, tb, fa, tr, wh, hm, hk, hr⟩ := hs
  refine J_aload_n dL_law_1125 rfl ?_
  refine J_callVi (cl := mX6_linear) [] [] dL_law_1126 mlL_155 cvX6_linear rfl rfl rfl rfl rfl (by decide) (Nat.le_of_ble_eq_true rfl) rfl (ev_X6_linear P D n F O tl tb fa tr wh M hk) (fun za Ma qMa => ?_)
  obtain ⟨rfl, k2, k1⟩ := qMa
  have hm1 := ms_km k1 hm
  refine J_aload_n dL_law_1129 rfl ?_
  refine J_callVi (cl := mX7_linear) [] [(0, _)] dL_law_1130 mlL_158 cvX7_linear rfl rfl rfl rfl rfl (by decide) (Nat.le_of_ble_eq_true rfl) rfl (ev_X7_linear P D n F O tl tb fa tr wh Ma hm1) (fun zb Mb qMb => ?_)
  obtain ⟨rfl, m2, m1⟩ := qMb
  refine J_icmp_eqT (tgt := 1636) dL_law_1133 rfl rfl ?_
  exact J_exit ⟨rfl, rfl, rfl, _, _, _, _, _, _, _, _, _, _, m2, ks_cm m1 k2, tr_u1 _⟩
set_option maxRecDepth 100000 in
set_option maxHeartbeats 4000000 in
theorem lwc_shellings (hN : N ≤ 3072) (hx : ∀ j, -2147483648 ≤ xs j ∧ xs j < 2147483648) (hi : i + 6 ≤ N) (hs : SY M) : J (some (N, xs)) 60 mL_law 1138 (lwL i) [] M (lwE i) := by
  obtain ⟨P, D, n, F, O, tl, tb, fa, tr, wh, hm, hk, hr⟩ := hs
  refine J_aload_n dL_law_1138 rfl ?_
  refine J_callVi (cl := mX6_shellings) [] [] dL_law_1139 mlL_159 cvX6_shellings rfl rfl rfl rfl rfl (by decide) (Nat.le_of_ble_eq_true rfl) rfl (ev_X6_shellings P D n F O tl tb fa tr wh M hk) (fun za Ma qMa => ?_)
  obtain ⟨rfl, k2, k1⟩ := qMa
  have hm1 := ms_km k1 hm
  refine J_aload_n dL_law_1142 rfl ?_
  refine J_callVi (cl := mX7_shellings) [] [(0, _)] dL_law_1143 mlL_162 cvX7_shellings rfl rfl rfl rfl rfl (by decide) (Nat.le_of_ble_eq_true rfl) rfl (ev_X7_shellings P D n F O tl tb fa tr wh Ma hm1) (fun zb Mb qMb => ?_)
  obtain ⟨rfl, m2, m1⟩ := qMb
  refine J_icmp_eqT (tgt := 1636) dL_law_1146 rfl rfl ?_
  exact J_exit ⟨rfl, rfl, rfl, _, _, _, _, _, _, _, _, _, _, m2, ks_cm m1 k2, tr_u1 _⟩
set_option maxRecDepth 100000 in
set_option maxHeartbeats 4000000 in
theorem lwc_shelled (hN : N ≤ 3072) (hx : ∀ j, -2147483648 ≤ xs j ∧ xs j < 2147483648) (hi : i + 6 ≤ N) (hs : SY M) : J (some (N, xs)) 60 mL_law 1151 (lwL i) [] M (lwE i) := by
  obtain ⟨P, D, n, F, O, tl, tb, fa, tr, wh, hm, hk, hr⟩ := hs
  refine J_aload_n dL_law_1151 rfl ?_
  refine J_aload_nS dL_law_1152 rfl ?_
  refine J_iload dL_law_1153 rfl ?_
  refine J_iconst dL_law_1155 ?_
  refine J_iadd dL_law_1156 ?_
  refine J_sld dL_law_1157 rfl (by omega) ⟨by omega, by omega⟩ ?_
  refine J_callVi (cl := mX6_shelled) [(0, xs (((i : Int) + 1).toNat))] [] dL_law_1158 mlL_163 cvX6_shelled rfl rfl rfl rfl rfl (by decide) (Nat.le_of_ble_eq_true rfl) rfl (ev_X6_shelled P D n F O tl tb fa tr wh M hk (xs (((i : Int) + 1).toNat)) (hx _)) (fun za Ma qMa => ?_)
  obtain ⟨rfl, k2, k1⟩ := qMa
  have hm1 := ms_km k1 hm
  refine J_aload_n dL_law_1161 rfl ?_
  refine J_aload_nS dL_law_1162 rfl ?_
  refine J_iload dL_law_1163 rfl ?_
  refine J_iconst dL_law_1165 ?_
  refine J_iadd dL_law_1166 ?_
  refine J_sld dL_law_1167 rfl (by omega) ⟨by omega, by omega⟩ ?_
  refine J_callVi (cl := mX7_shelled) [(0, xs (((i : Int) + 1).toNat))] [(0, _)] dL_law_1168 mlL_166 cvX7_shelled rfl rfl rfl rfl rfl (by decide) (Nat.le_of_ble_eq_true rfl) rfl (ev_X7_shelled P D n F O tl tb fa tr wh Ma hm1 (xs (((i : Int) + 1).toNat)) (hx _)) (fun zb Mb qMb => ?_)
  obtain ⟨rfl, m2, m1⟩ := qMb
  refine J_icmp_eqT (tgt := 1636) dL_law_1171 rfl rfl ?_
  exact J_exit ⟨rfl, rfl, rfl, _, _, _, _, _, _, _, _, _, _, m2, ks_cm m1 k2, tr_u1 _⟩
set_option maxRecDepth 100000 in
set_option maxHeartbeats 4000000 in
theorem lwc_peelable (hN : N ≤ 3072) (hx : ∀ j, -2147483648 ≤ xs j ∧ xs j < 2147483648) (hi : i + 6 ≤ N) (hs : SY M) : J (some (N, xs)) 60 mL_law 1176 (lwL i) [] M (lwE i) := by
  obtain ⟨P, D, n, F, O, tl, tb, fa, tr, wh, hm, hk, hr⟩ := hs
  refine J_aload_n dL_law_1176 rfl ?_
  refine J_callVi (cl := mX6_peelable) [] [] dL_law_1177 mlL_167 cvX6_peelable rfl rfl rfl rfl rfl (by decide) (Nat.le_of_ble_eq_true rfl) rfl (ev_X6_peelable P D n F O tl tb fa tr wh M hk) (fun za Ma qMa => ?_)
  obtain ⟨rfl, k2, k1⟩ := qMa
  have hm1 := ms_km k1 hm
  refine J_aload_n dL_law_1180 rfl ?_
  refine J_callVi (cl := mX7_peelable) [] [(0, _)] dL_law_1181 mlL_170 cvX7_peelable rfl rfl rfl rfl rfl (by decide) (Nat.le_of_ble_eq_true rfl) rfl (ev_X7_peelable P D n F O tl tb fa tr wh Ma hm1) (fun zb Mb qMb => ?_)
  obtain ⟨rfl, m2, m1⟩ := qMb
  refine J_icmp_eqT (tgt := 1636) dL_law_1184 rfl rfl ?_
  exact J_exit ⟨rfl, rfl, rfl, _, _, _, _, _, _, _, _, _, _, m2, ks_cm m1 k2, tr_u1 _⟩
set_option maxRecDepth 100000 in
set_option maxHeartbeats 4000000 in
theorem lwc_goesOn (hN : N ≤ 3072) (hx : ∀ j, -2147483648 ≤ xs j ∧ xs j < 2147483648) (hi : i + 6 ≤ N) (hs : SY M) : J (some (N, xs)) 60 mL_law 1189 (lwL i) [] M (lwE i) := by
  obtain ⟨P, D, n, F, O, tl, tb, fa, tr, wh, hm, hk, hr⟩ := hs
  refine J_aload_n dL_law_1189 rfl ?_
  refine J_aload_nS dL_law_1190 rfl ?_
  refine J_iload dL_law_1191 rfl ?_
  refine J_iconst dL_law_1193 ?_
  refine J_iadd dL_law_1194 ?_
  refine J_sld dL_law_1195 rfl (by omega) ⟨by omega, by omega⟩ ?_
  refine J_callVi (cl := mX6_goesOn) [(0, xs (((i : Int) + 1).toNat))] [] dL_law_1196 mlL_171 cvX6_goesOn rfl rfl rfl rfl rfl (by decide) (Nat.le_of_ble_eq_true rfl) rfl (ev_X6_goesOn P D n F O tl tb fa tr wh M hk (xs (((i : Int) + 1).toNat)) (hx _)) (fun za Ma qMa => ?_)
  obtain ⟨rfl, k2, k1⟩ := qMa
  have hm1 := ms_km k1 hm
  refine J_aload_n dL_law_1199 rfl ?_
  refine J_aload_nS dL_law_1200 rfl ?_
  refine J_iload dL_law_1201 rfl ?_
  refine J_iconst dL_law_1203 ?_
  refine J_iadd dL_law_1204 ?_
  refine J_sld dL_law_1205 rfl (by omega) ⟨by omega, by omega⟩ ?_
  refine J_callVi (cl := mX7_goesOn_) [(0, xs (((i : Int) + 1).toNat))] [(0, _)] dL_law_1206 mlL_174 cvX7_goesOn_ rfl rfl rfl rfl rfl (by decide) (Nat.le_of_ble_eq_true rfl) rfl (ev_X7_goesOn_ P D n F O tl tb fa tr wh Ma hm1 (xs (((i : Int) + 1).toNat)) (hx _)) (fun zb Mb qMb => ?_)
  obtain ⟨rfl, m2, m1⟩ := qMb
  refine J_icmp_eqT (tgt := 1636) dL_law_1209 rfl rfl ?_
  exact J_exit ⟨rfl, rfl, rfl, _, _, _, _, _, _, _, _, _, _, m2, ks_cm m1 k2, tr_u2 _ _⟩
set_option maxRecDepth 100000 in
set_option maxHeartbeats 4000000 in
theorem lwc_stuck (hN : N ≤ 3072) (hx : ∀ j, -2147483648 ≤ xs j ∧ xs j < 2147483648) (hi : i + 6 ≤ N) (hs : SY M) : J (some (N, xs)) 60 mL_law 1214 (lwL i) [] M (lwE i) := by
  obtain ⟨P, D, n, F, O, tl, tb, fa, tr, wh, hm, hk, hr⟩ := hs
  refine J_aload_n dL_law_1214 rfl ?_
  refine J_callVi (cl := mX6_stuck) [] [] dL_law_1215 mlL_175 cvX6_stuck rfl rfl rfl rfl rfl (by decide) (Nat.le_of_ble_eq_true rfl) rfl (ev_X6_stuck P D n F O tl tb fa tr wh M hk) (fun za Ma qMa => ?_)
  obtain ⟨rfl, k2, k1⟩ := qMa
  have hm1 := ms_km k1 hm
  refine J_aload_n dL_law_1218 rfl ?_
  refine J_callVi (cl := mX7_stuck) [] [(0, _)] dL_law_1219 mlL_178 cvX7_stuck rfl rfl rfl rfl rfl (by decide) (Nat.le_of_ble_eq_true rfl) rfl (ev_X7_stuck P D n F O tl tb fa tr wh Ma hm1) (fun zb Mb qMb => ?_)
  obtain ⟨rfl, m2, m1⟩ := qMb
  refine J_icmp_eqT (tgt := 1636) dL_law_1222 rfl rfl ?_
  exact J_exit ⟨rfl, rfl, rfl, _, _, _, _, _, _, _, _, _, _, m2, ks_cm m1 k2, tr_u1 _⟩
set_option maxRecDepth 100000 in
set_option maxHeartbeats 4000000 in
theorem lwc_peeled (hN : N ≤ 3072) (hx : ∀ j, -2147483648 ≤ xs j ∧ xs j < 2147483648) (hi : i + 6 ≤ N) (hs : SY M) : J (some (N, xs)) 60 mL_law 1227 (lwL i) [] M (lwE i) := by
  obtain ⟨P, D, n, F, O, tl, tb, fa, tr, wh, hm, hk, hr⟩ := hs
  refine J_aload_n dL_law_1227 rfl ?_
  refine J_aload_nS dL_law_1228 rfl ?_
  refine J_iload dL_law_1229 rfl ?_
  refine J_iconst dL_law_1231 ?_
  refine J_iadd dL_law_1232 ?_
  refine J_sld dL_law_1233 rfl (by omega) ⟨by omega, by omega⟩ ?_
  refine J_callVi (cl := mX6_peeled) [(0, xs (((i : Int) + 1).toNat))] [] dL_law_1234 mlL_179 cvX6_peeled rfl rfl rfl rfl rfl (by decide) (Nat.le_of_ble_eq_true rfl) rfl (ev_X6_peeled P D n F O tl tb fa tr wh M hk (xs (((i : Int) + 1).toNat)) (hx _)) (fun za Ma qMa => ?_)
  obtain ⟨rfl, k2, k1⟩ := qMa
  have hm1 := ms_km k1 hm
  refine J_aload_n dL_law_1237 rfl ?_
  refine J_aload_nS dL_law_1238 rfl ?_
  refine J_iload dL_law_1239 rfl ?_
  refine J_iconst dL_law_1241 ?_
  refine J_iadd dL_law_1242 ?_
  refine J_sld dL_law_1243 rfl (by omega) ⟨by omega, by omega⟩ ?_
  refine J_callVi (cl := mX7_peeled) [(0, xs (((i : Int) + 1).toNat))] [(0, _)] dL_law_1244 mlL_182 cvX7_peeled rfl rfl rfl rfl rfl (by decide) (Nat.le_of_ble_eq_true rfl) rfl (ev_X7_peeled P D n F O tl tb fa tr wh Ma hm1 (xs (((i : Int) + 1).toNat)) (hx _)) (fun zb Mb qMb => ?_)
  obtain ⟨rfl, m2, m1⟩ := qMb
  refine J_icmp_eqT (tgt := 1636) dL_law_1247 rfl rfl ?_
  exact J_exit ⟨rfl, rfl, rfl, _, _, _, _, _, _, _, _, _, _, m2, ks_cm m1 k2, tr_u2 _ _⟩
set_option maxRecDepth 100000 in
set_option maxHeartbeats 4000000 in
theorem lwc_link (hN : N ≤ 3072) (hx : ∀ j, -2147483648 ≤ xs j ∧ xs j < 2147483648) (hi : i + 6 ≤ N) (hs : SY M) : J (some (N, xs)) 60 mL_law 1252 (lwL i) [] M (lwE i) := by
  obtain ⟨P, D, n, F, O, tl, tb, fa, tr, wh, hm, hk, hr⟩ := hs
  refine J_aload_n dL_law_1252 rfl ?_
  refine J_aload_nS dL_law_1253 rfl ?_
  refine J_iload dL_law_1254 rfl ?_
  refine J_iconst dL_law_1256 ?_
  refine J_iadd dL_law_1257 ?_
  refine J_sld dL_law_1258 rfl (by omega) ⟨by omega, by omega⟩ ?_
  refine J_callVi (cl := mX6_link) [(0, xs (((i : Int) + 1).toNat))] [] dL_law_1259 mlL_183 cvX6_link rfl rfl rfl rfl rfl (by decide) (Nat.le_of_ble_eq_true rfl) rfl (ev_X6_link P D n F O tl tb fa tr wh M hk (xs (((i : Int) + 1).toNat)) (hx _)) (fun za Ma qMa => ?_)
  obtain ⟨rfl, k2, k1⟩ := qMa
  have hm1 := ms_km k1 hm
  refine J_aload_n dL_law_1262 rfl ?_
  refine J_aload_nS dL_law_1263 rfl ?_
  refine J_iload dL_law_1264 rfl ?_
  refine J_iconst dL_law_1266 ?_
  refine J_iadd dL_law_1267 ?_
  refine J_sld dL_law_1268 rfl (by omega) ⟨by omega, by omega⟩ ?_
  refine J_callVi (cl := mX7_link) [(0, xs (((i : Int) + 1).toNat))] [(0, _)] dL_law_1269 mlL_186 cvX7_link rfl rfl rfl rfl rfl (by decide) (Nat.le_of_ble_eq_true rfl) rfl (ev_X7_link P D n F O tl tb fa tr wh Ma hm1 (xs (((i : Int) + 1).toNat)) (hx _)) (fun zb Mb qMb => ?_)
  obtain ⟨rfl, m2, m1⟩ := qMb
  refine J_icmp_eqT (tgt := 1636) dL_law_1272 rfl rfl ?_
  exact J_exit ⟨rfl, rfl, rfl, _, _, _, _, _, _, _, _, _, _, m2, ks_cm m1 k2, tr_lkW _ _ _ _⟩
set_option maxRecDepth 100000 in
set_option maxHeartbeats 4000000 in
theorem lwc_linkRound (hN : N ≤ 3072) (hx : ∀ j, -2147483648 ≤ xs j ∧ xs j < 2147483648) (hi : i + 6 ≤ N) (hs : SY M) : J (some (N, xs)) 60 mL_law 1277 (lwL i) [] M (lwE i) := by
  obtain ⟨P, D, n, F, O, tl, tb, fa, tr, wh, hm, hk, hr⟩ := hs
  refine J_aload_n dL_law_1277 rfl ?_
  refine J_aload_nS dL_law_1278 rfl ?_
  refine J_iload dL_law_1279 rfl ?_
  refine J_iconst dL_law_1281 ?_
  refine J_iadd dL_law_1282 ?_
  refine J_sld dL_law_1283 rfl (by omega) ⟨by omega, by omega⟩ ?_
  refine J_aload_nS dL_law_1284 rfl ?_
  refine J_iload dL_law_1285 rfl ?_
  refine J_iconst dL_law_1287 ?_
  refine J_iadd dL_law_1288 ?_
  refine J_sld dL_law_1289 rfl (by omega) ⟨by omega, by omega⟩ ?_
  refine J_callVi (cl := mX6_linkRound) [(0, xs (((i : Int) + 1).toNat)), (0, xs (((i : Int) + 2).toNat))] [] dL_law_1290 mlL_187 cvX6_linkRound rfl rfl rfl rfl rfl (by decide) (Nat.le_of_ble_eq_true rfl) rfl (ev_X6_linkRound P D n F O tl tb fa tr wh M hk (xs (((i : Int) + 1).toNat)) (hx _) (xs (((i : Int) + 2).toNat)) (hx _)) (fun za Ma qMa => ?_)
  obtain ⟨rfl, k2, k1⟩ := qMa
  have hm1 := ms_km k1 hm
  refine J_aload_n dL_law_1293 rfl ?_
  refine J_aload_nS dL_law_1294 rfl ?_
  refine J_iload dL_law_1295 rfl ?_
  refine J_iconst dL_law_1297 ?_
  refine J_iadd dL_law_1298 ?_
  refine J_sld dL_law_1299 rfl (by omega) ⟨by omega, by omega⟩ ?_
  refine J_aload_nS dL_law_1300 rfl ?_
  refine J_iload dL_law_1301 rfl ?_
  refine J_iconst dL_law_1303 ?_
  refine J_iadd dL_law_1304 ?_
  refine J_sld dL_law_1305 rfl (by omega) ⟨by omega, by omega⟩ ?_
  refine J_callVi (cl := mX7_linkRound) [(0, xs (((i : Int) + 1).toNat)), (0, xs (((i : Int) + 2).toNat))] [(0, _)] dL_law_1306 mlL_190 cvX7_linkRound rfl rfl rfl rfl rfl (by decide) (Nat.le_of_ble_eq_true rfl) rfl (ev_X7_linkRound P D n F O tl tb fa tr wh Ma hm1 (xs (((i : Int) + 1).toNat)) (hx _) (xs (((i : Int) + 2).toNat)) (hx _)) (fun zb Mb qMb => ?_)
  obtain ⟨rfl, m2, m1⟩ := qMb
  refine J_icmp_eqT (tgt := 1636) dL_law_1309 rfl rfl ?_
  exact J_exit ⟨rfl, rfl, rfl, _, _, _, _, _, _, _, _, _, _, m2, ks_cm m1 k2, tr_tLR _ _ _ _ _ _⟩
set_option maxRecDepth 100000 in
set_option maxHeartbeats 4000000 in
theorem lwc_linkShellings (hN : N ≤ 3072) (hx : ∀ j, -2147483648 ≤ xs j ∧ xs j < 2147483648) (hi : i + 6 ≤ N) (hs : SY M) : J (some (N, xs)) 60 mL_law 1314 (lwL i) [] M (lwE i) := by
  obtain ⟨P, D, n, F, O, tl, tb, fa, tr, wh, hm, hk, hr⟩ := hs
  refine J_aload_n dL_law_1314 rfl ?_
  refine J_aload_nS dL_law_1315 rfl ?_
  refine J_iload dL_law_1316 rfl ?_
  refine J_iconst dL_law_1318 ?_
  refine J_iadd dL_law_1319 ?_
  refine J_sld dL_law_1320 rfl (by omega) ⟨by omega, by omega⟩ ?_
  refine J_callVi (cl := mX6_linkShellings) [(0, xs (((i : Int) + 1).toNat))] [] dL_law_1321 mlL_191 cvX6_linkShellings rfl rfl rfl rfl rfl (by decide) (Nat.le_of_ble_eq_true rfl) rfl (ev_X6_linkShellings P D n F O tl tb fa tr wh M hk (xs (((i : Int) + 1).toNat)) (hx _)) (fun za Ma qMa => ?_)
  obtain ⟨rfl, k2, k1⟩ := qMa
  have hm1 := ms_km k1 hm
  refine J_aload_n dL_law_1324 rfl ?_
  refine J_aload_nS dL_law_1325 rfl ?_
  refine J_iload dL_law_1326 rfl ?_
  refine J_iconst dL_law_1328 ?_
  refine J_iadd dL_law_1329 ?_
  refine J_sld dL_law_1330 rfl (by omega) ⟨by omega, by omega⟩ ?_
  refine J_callVi (cl := mX7_linkShellings) [(0, xs (((i : Int) + 1).toNat))] [(0, _)] dL_law_1331 mlL_194 cvX7_linkShellings rfl rfl rfl rfl rfl (by decide) (Nat.le_of_ble_eq_true rfl) rfl (ev_X7_linkShellings P D n F O tl tb fa tr wh Ma hm1 (xs (((i : Int) + 1).toNat)) (hx _)) (fun zb Mb qMb => ?_)
  obtain ⟨rfl, m2, m1⟩ := qMb
  refine J_icmp_eqT (tgt := 1636) dL_law_1334 rfl rfl ?_
  exact J_exit ⟨rfl, rfl, rfl, _, _, _, _, _, _, _, _, _, _, m2, ks_cm m1 k2, tr_lkW _ _ _ _⟩
set_option maxRecDepth 100000 in
set_option maxHeartbeats 4000000 in
theorem lwc_even (hN : N ≤ 3072) (hx : ∀ j, -2147483648 ≤ xs j ∧ xs j < 2147483648) (hi : i + 6 ≤ N) (hs : SY M) : J (some (N, xs)) 60 mL_law 1339 (lwL i) [] M (lwE i) := by
  obtain ⟨P, D, n, F, O, tl, tb, fa, tr, wh, hm, hk, hr⟩ := hs
  refine J_aload_n dL_law_1339 rfl ?_
  refine J_callVi (cl := mX6_even) [] [] dL_law_1340 mlL_195 cvX6_even rfl rfl rfl rfl rfl (by decide) (Nat.le_of_ble_eq_true rfl) rfl (ev_X6_even P D n F O tl tb fa tr wh M hk) (fun za Ma qMa => ?_)
  obtain ⟨rfl, k2, k1⟩ := qMa
  have hm1 := ms_km k1 hm
  refine J_aload_n dL_law_1343 rfl ?_
  refine J_callVi (cl := mX7_even) [] [(0, _)] dL_law_1344 mlL_198 cvX7_even rfl rfl rfl rfl rfl (by decide) (Nat.le_of_ble_eq_true rfl) rfl (ev_X7_even P D n F O tl tb fa tr wh Ma hm1) (fun zb Mb qMb => ?_)
  obtain ⟨rfl, m2, m1⟩ := qMb
  refine J_icmp_eqT (tgt := 1636) dL_law_1347 rfl rfl ?_
  exact J_exit ⟨rfl, rfl, rfl, _, _, _, _, _, _, _, _, _, _, m2, ks_cm m1 k2, tr_u1 _⟩
set_option maxRecDepth 100000 in
set_option maxHeartbeats 4000000 in
theorem lwc_obstruction (hN : N ≤ 3072) (hx : ∀ j, -2147483648 ≤ xs j ∧ xs j < 2147483648) (hi : i + 6 ≤ N) (hs : SY M) : J (some (N, xs)) 60 mL_law 1352 (lwL i) [] M (lwE i) := by
  obtain ⟨P, D, n, F, O, tl, tb, fa, tr, wh, hm, hk, hr⟩ := hs
  refine J_aload_n dL_law_1352 rfl ?_
  refine J_callVi (cl := mX6_obstruction) [] [] dL_law_1353 mlL_199 cvX6_obstruction rfl rfl rfl rfl rfl (by decide) (Nat.le_of_ble_eq_true rfl) rfl (ev_X6_obstruction P D n F O tl tb fa tr wh M hk) (fun za Ma qMa => ?_)
  obtain ⟨rfl, k2, k1⟩ := qMa
  have hm1 := ms_km k1 hm
  refine J_aload_n dL_law_1356 rfl ?_
  refine J_callVi (cl := mX7_obstruction) [] [(0, _)] dL_law_1357 mlL_202 cvX7_obstruction rfl rfl rfl rfl rfl (by decide) (Nat.le_of_ble_eq_true rfl) rfl (ev_X7_obstruction P D n F O tl tb fa tr wh Ma hm1) (fun zb Mb qMb => ?_)
  obtain ⟨rfl, m2, m1⟩ := qMb
  refine J_icmp_eqT (tgt := 1636) dL_law_1360 rfl rfl ?_
  exact J_exit ⟨rfl, rfl, rfl, _, _, _, _, _, _, _, _, _, _, m2, ks_cm m1 k2, tr_u1 _⟩
set_option maxRecDepth 100000 in
set_option maxHeartbeats 4000000 in
theorem lwc_fallsApart (hN : N ≤ 3072) (hx : ∀ j, -2147483648 ≤ xs j ∧ xs j < 2147483648) (hi : i + 6 ≤ N) (hs : SY M) : J (some (N, xs)) 60 mL_law 1365 (lwL i) [] M (lwE i) := by
  obtain ⟨P, D, n, F, O, tl, tb, fa, tr, wh, hm, hk, hr⟩ := hs
  refine J_aload_n dL_law_1365 rfl ?_
  refine J_callVi (cl := mX6_fallsApart) [] [] dL_law_1366 mlL_203 cvX6_fallsApart rfl rfl rfl rfl rfl (by decide) (Nat.le_of_ble_eq_true rfl) rfl (ev_X6_fallsApart P D n F O tl tb fa tr wh M hk) (fun za Ma qMa => ?_)
  obtain ⟨rfl, k2, k1⟩ := qMa
  have hm1 := ms_km k1 hm
  refine J_aload_n dL_law_1369 rfl ?_
  refine J_callVi (cl := mX7_fallsApart) [] [(0, _)] dL_law_1370 mlL_206 cvX7_fallsApart rfl rfl rfl rfl rfl (by decide) (Nat.le_of_ble_eq_true rfl) rfl (ev_X7_fallsApart P D n F O tl tb fa tr wh Ma hm1) (fun zb Mb qMb => ?_)
  obtain ⟨rfl, m2, m1⟩ := qMb
  refine J_icmp_eqT (tgt := 1636) dL_law_1373 rfl rfl ?_
  exact J_exit ⟨rfl, rfl, rfl, _, _, _, _, _, _, _, _, _, _, m2, ks_cm m1 k2, tr_u1 _⟩
set_option maxRecDepth 100000 in
set_option maxHeartbeats 4000000 in
theorem lwc_shed (hN : N ≤ 3072) (hx : ∀ j, -2147483648 ≤ xs j ∧ xs j < 2147483648) (hi : i + 6 ≤ N) (hs : SY M) : J (some (N, xs)) 60 mL_law 1378 (lwL i) [] M (lwE i) := by
  obtain ⟨P, D, n, F, O, tl, tb, fa, tr, wh, hm, hk, hr⟩ := hs
  refine J_aload_n dL_law_1378 rfl ?_
  refine J_callVi (cl := mX6_shed) [] [] dL_law_1379 mlL_207 cvX6_shed rfl rfl rfl rfl rfl (by decide) (Nat.le_of_ble_eq_true rfl) rfl (ev_X6_shed P D n F O tl tb fa tr wh M hk) (fun za Ma qMa => ?_)
  obtain ⟨rfl, k2, k1⟩ := qMa
  have hm1 := ms_km k1 hm
  refine J_aload_n dL_law_1382 rfl ?_
  refine J_callVi (cl := mX7_shed) [] [(0, _)] dL_law_1383 mlL_210 cvX7_shed rfl rfl rfl rfl rfl (by decide) (Nat.le_of_ble_eq_true rfl) rfl (ev_X7_shed P D n F O tl tb fa tr wh Ma hm1) (fun zb Mb qMb => ?_)
  obtain ⟨rfl, m2, m1⟩ := qMb
  refine J_icmp_eqT (tgt := 1636) dL_law_1386 rfl rfl ?_
  exact J_exit ⟨rfl, rfl, rfl, _, _, _, _, _, _, _, _, _, _, m2, ks_cm m1 k2, tr_u1 _⟩
set_option maxRecDepth 100000 in
set_option maxHeartbeats 4000000 in
theorem lwc_first (hN : N ≤ 3072) (hx : ∀ j, -2147483648 ≤ xs j ∧ xs j < 2147483648) (hi : i + 6 ≤ N) (hs : SY M) : J (some (N, xs)) 60 mL_law 1391 (lwL i) [] M (lwE i) := by
  obtain ⟨P, D, n, F, O, tl, tb, fa, tr, wh, hm, hk, hr⟩ := hs
  refine J_aload_n dL_law_1391 rfl ?_
  refine J_callVi (cl := mX6_first) [] [] dL_law_1392 mlL_211 cvX6_first rfl rfl rfl rfl rfl (by decide) (Nat.le_of_ble_eq_true rfl) rfl (ev_X6_first P D n F O tl tb fa tr wh M hk) (fun za Ma qMa => ?_)
  obtain ⟨rfl, k2, k1⟩ := qMa
  have hm1 := ms_km k1 hm
  refine J_aload_n dL_law_1395 rfl ?_
  refine J_callVi (cl := mX7_first) [] [(0, _)] dL_law_1396 mlL_214 cvX7_first rfl rfl rfl rfl rfl (by decide) (Nat.le_of_ble_eq_true rfl) rfl (ev_X7_first P D n F O tl tb fa tr wh Ma hm1) (fun zb Mb qMb => ?_)
  obtain ⟨rfl, m2, m1⟩ := qMb
  refine J_icmp_eqT (tgt := 1636) dL_law_1399 rfl rfl ?_
  exact J_exit ⟨rfl, rfl, rfl, _, _, _, _, _, _, _, _, _, _, m2, ks_cm m1 k2, tr_u1 _⟩
set_option maxRecDepth 100000 in
set_option maxHeartbeats 4000000 in
theorem lwc_add (hN : N ≤ 3072) (hx : ∀ j, -2147483648 ≤ xs j ∧ xs j < 2147483648) (hi : i + 6 ≤ N) (hs : SY M) : J (some (N, xs)) 60 mL_law 1404 (lwL i) [] M (lwE i) := by
  obtain ⟨P, D, n, F, O, tl, tb, fa, tr, wh, hm, hk, hr⟩ := hs
  refine J_aload_n dL_law_1404 rfl ?_
  refine J_aload_nS dL_law_1405 rfl ?_
  refine J_iload dL_law_1406 rfl ?_
  refine J_iconst dL_law_1408 ?_
  refine J_iadd dL_law_1409 ?_
  refine J_sld dL_law_1410 rfl (by omega) ⟨by omega, by omega⟩ ?_
  refine J_callVi (cl := mX6_add) [(0, xs (((i : Int) + 1).toNat))] [] dL_law_1411 mlL_215 cvX6_add rfl rfl rfl rfl rfl (by decide) (Nat.le_of_ble_eq_true rfl) rfl (ev_X6_add P D n F O tl tb fa tr wh M hk (xs (((i : Int) + 1).toNat)) (hx _)) (fun za Ma qMa => ?_)
  obtain ⟨rfl, k2, k1⟩ := qMa
  have hm1 := ms_km k1 hm
  refine J_aload_n dL_law_1414 rfl ?_
  refine J_aload_nS dL_law_1415 rfl ?_
  refine J_iload dL_law_1416 rfl ?_
  refine J_iconst dL_law_1418 ?_
  refine J_iadd dL_law_1419 ?_
  refine J_sld dL_law_1420 rfl (by omega) ⟨by omega, by omega⟩ ?_
  refine J_callVi (cl := mX7_add) [(0, xs (((i : Int) + 1).toNat))] [(0, _)] dL_law_1421 mlL_218 cvX7_add rfl rfl rfl rfl rfl (by decide) (Nat.le_of_ble_eq_true rfl) rfl (ev_X7_add P D n F O tl tb fa tr wh Ma hm1 (xs (((i : Int) + 1).toNat)) (hx _)) (fun zb Mb qMb => ?_)
  obtain ⟨rfl, m2, m1⟩ := qMb
  refine J_icmp_eqT (tgt := 1636) dL_law_1424 rfl rfl ?_
  exact J_exit ⟨rfl, rfl, rfl, _, _, _, _, _, _, _, _, _, _, m2, ks_cm m1 k2, tr_tAd _ _ _ _ _⟩
set_option maxRecDepth 100000 in
set_option maxHeartbeats 4000000 in
theorem lwc_drop (hN : N ≤ 3072) (hx : ∀ j, -2147483648 ≤ xs j ∧ xs j < 2147483648) (hi : i + 6 ≤ N) (hs : SY M) : J (some (N, xs)) 60 mL_law 1429 (lwL i) [] M (lwE i) := by
  obtain ⟨P, D, n, F, O, tl, tb, fa, tr, wh, hm, hk, hr⟩ := hs
  refine J_aload_n dL_law_1429 rfl ?_
  refine J_aload_nS dL_law_1430 rfl ?_
  refine J_iload dL_law_1431 rfl ?_
  refine J_iconst dL_law_1433 ?_
  refine J_iadd dL_law_1434 ?_
  refine J_sld dL_law_1435 rfl (by omega) ⟨by omega, by omega⟩ ?_
  refine J_callVi (cl := mX6_drop) [(0, xs (((i : Int) + 1).toNat))] [] dL_law_1436 mlL_219 cvX6_drop rfl rfl rfl rfl rfl (by decide) (Nat.le_of_ble_eq_true rfl) rfl (ev_X6_drop P D n F O tl tb fa tr wh M hk (xs (((i : Int) + 1).toNat)) (hx _)) (fun za Ma qMa => ?_)
  obtain ⟨rfl, k2, k1⟩ := qMa
  have hm1 := ms_km k1 hm
  refine J_aload_n dL_law_1439 rfl ?_
  refine J_aload_nS dL_law_1440 rfl ?_
  refine J_iload dL_law_1441 rfl ?_
  refine J_iconst dL_law_1443 ?_
  refine J_iadd dL_law_1444 ?_
  refine J_sld dL_law_1445 rfl (by omega) ⟨by omega, by omega⟩ ?_
  refine J_callVi (cl := mX7_drop) [(0, xs (((i : Int) + 1).toNat))] [(0, _)] dL_law_1446 mlL_222 cvX7_drop rfl rfl rfl rfl rfl (by decide) (Nat.le_of_ble_eq_true rfl) rfl (ev_X7_drop P D n F O tl tb fa tr wh Ma hm1 (xs (((i : Int) + 1).toNat)) (hx _)) (fun zb Mb qMb => ?_)
  obtain ⟨rfl, m2, m1⟩ := qMb
  refine J_icmp_eqT (tgt := 1636) dL_law_1449 rfl rfl ?_
  exact J_exit ⟨rfl, rfl, rfl, _, _, _, _, _, _, _, _, _, _, m2, ks_cm m1 k2, tr_tDr _ _⟩
set_option maxRecDepth 100000 in
set_option maxHeartbeats 4000000 in
theorem lwc_peel (hN : N ≤ 3072) (hx : ∀ j, -2147483648 ≤ xs j ∧ xs j < 2147483648) (hi : i + 6 ≤ N) (hs : SY M) : J (some (N, xs)) 60 mL_law 1454 (lwL i) [] M (lwE i) := by
  obtain ⟨P, D, n, F, O, tl, tb, fa, tr, wh, hm, hk, hr⟩ := hs
  refine J_aload_n dL_law_1454 rfl ?_
  refine J_callVi (cl := mX6_peel) [] [] dL_law_1455 mlL_223 cvX6_peel rfl rfl rfl rfl rfl (by decide) (Nat.le_of_ble_eq_true rfl) rfl (ev_X6_peel P D n F O tl tb fa tr wh M hk) (fun za Ma qMa => ?_)
  obtain ⟨rfl, k2, k1⟩ := qMa
  have hm1 := ms_km k1 hm
  refine J_aload_n dL_law_1458 rfl ?_
  refine J_callVi (cl := mX7_peel) [] [(0, _)] dL_law_1459 mlL_226 cvX7_peel rfl rfl rfl rfl rfl (by decide) (Nat.le_of_ble_eq_true rfl) rfl (ev_X7_peel P D n F O tl tb fa tr wh Ma hm1) (fun zb Mb qMb => ?_)
  obtain ⟨rfl, m2, m1⟩ := qMb
  refine J_icmp_eqT (tgt := 1636) dL_law_1462 rfl rfl ?_
  exact J_exit ⟨rfl, rfl, rfl, _, _, _, _, _, _, _, _, _, _, m2, ks_cm m1 k2, tr_tPe _⟩
set_option maxRecDepth 100000 in
set_option maxHeartbeats 4000000 in
theorem lwc_move (hN : N ≤ 3072) (hx : ∀ j, -2147483648 ≤ xs j ∧ xs j < 2147483648) (hi : i + 6 ≤ N) (hs : SY M) : J (some (N, xs)) 60 mL_law 1467 (lwL i) [] M (lwE i) := by
  obtain ⟨P, D, n, F, O, tl, tb, fa, tr, wh, hm, hk, hr⟩ := hs
  refine J_aload_n dL_law_1467 rfl ?_
  refine J_aload_nS dL_law_1468 rfl ?_
  refine J_iload dL_law_1469 rfl ?_
  refine J_iconst dL_law_1471 ?_
  refine J_iadd dL_law_1472 ?_
  refine J_sld dL_law_1473 rfl (by omega) ⟨by omega, by omega⟩ ?_
  refine J_aload_nS dL_law_1474 rfl ?_
  refine J_iload dL_law_1475 rfl ?_
  refine J_iconst dL_law_1477 ?_
  refine J_iadd dL_law_1478 ?_
  refine J_sld dL_law_1479 rfl (by omega) ⟨by omega, by omega⟩ ?_
  refine J_callVi (cl := mX6_move) [(0, xs (((i : Int) + 1).toNat)), (0, xs (((i : Int) + 2).toNat))] [] dL_law_1480 mlL_227 cvX6_move rfl rfl rfl rfl rfl (by decide) (Nat.le_of_ble_eq_true rfl) rfl (ev_X6_move P D n F O tl tb fa tr wh M hk (xs (((i : Int) + 1).toNat)) (hx _) (xs (((i : Int) + 2).toNat)) (hx _)) (fun za Ma qMa => ?_)
  obtain ⟨rfl, k2, k1⟩ := qMa
  have hm1 := ms_km k1 hm
  refine J_aload_n dL_law_1483 rfl ?_
  refine J_aload_nS dL_law_1484 rfl ?_
  refine J_iload dL_law_1485 rfl ?_
  refine J_iconst dL_law_1487 ?_
  refine J_iadd dL_law_1488 ?_
  refine J_sld dL_law_1489 rfl (by omega) ⟨by omega, by omega⟩ ?_
  refine J_aload_nS dL_law_1490 rfl ?_
  refine J_iload dL_law_1491 rfl ?_
  refine J_iconst dL_law_1493 ?_
  refine J_iadd dL_law_1494 ?_
  refine J_sld dL_law_1495 rfl (by omega) ⟨by omega, by omega⟩ ?_
  refine J_callVi (cl := mX7_move) [(0, xs (((i : Int) + 1).toNat)), (0, xs (((i : Int) + 2).toNat))] [(0, _)] dL_law_1496 mlL_230 cvX7_move rfl rfl rfl rfl rfl (by decide) (Nat.le_of_ble_eq_true rfl) rfl (ev_X7_move P D n F O tl tb fa tr wh Ma hm1 (xs (((i : Int) + 1).toNat)) (hx _) (xs (((i : Int) + 2).toNat)) (hx _)) (fun zb Mb qMb => ?_)
  obtain ⟨rfl, m2, m1⟩ := qMb
  refine J_icmp_eqT (tgt := 1636) dL_law_1499 rfl rfl ?_
  exact J_exit ⟨rfl, rfl, rfl, _, _, _, _, _, _, _, _, _, _, m2, ks_cm m1 k2, tr_u1 _⟩
set_option maxRecDepth 100000 in
set_option maxHeartbeats 4000000 in
theorem lwc_lay (hN : N ≤ 3072) (hx : ∀ j, -2147483648 ≤ xs j ∧ xs j < 2147483648) (hi : i + 6 ≤ N) (hs : SY M) : J (some (N, xs)) 60 mL_law 1504 (lwL i) [] M (lwE i) := by
  obtain ⟨P, D, n, F, O, tl, tb, fa, tr, wh, hm, hk, hr⟩ := hs
  refine J_aload_n dL_law_1504 rfl ?_
  refine J_callVi (cl := mX6_lay) [] [] dL_law_1505 mlL_231 cvX6_lay rfl rfl rfl rfl rfl (by decide) (Nat.le_of_ble_eq_true rfl) rfl (ev_X6_lay P D n F O tl tb fa tr wh M hk) (fun za Ma qMa => ?_)
  obtain ⟨rfl, k2, k1⟩ := qMa
  have hm1 := ms_km k1 hm
  refine J_aload_n dL_law_1508 rfl ?_
  refine J_callVi (cl := mX7_lay) [] [(0, _)] dL_law_1509 mlL_234 cvX7_lay rfl rfl rfl rfl rfl (by decide) (Nat.le_of_ble_eq_true rfl) rfl (ev_X7_lay P D n F O tl tb fa tr wh Ma hm1) (fun zb Mb qMb => ?_)
  obtain ⟨rfl, m2, m1⟩ := qMb
  refine J_icmp_eqT (tgt := 1636) dL_law_1512 rfl rfl ?_
  exact J_exit ⟨rfl, rfl, rfl, _, _, _, _, _, _, _, _, _, _, m2, ks_cm m1 k2, tr_tLa _ _⟩
set_option maxRecDepth 100000 in
set_option maxHeartbeats 4000000 in
theorem lwc_turn (hN : N ≤ 3072) (hx : ∀ j, -2147483648 ≤ xs j ∧ xs j < 2147483648) (hi : i + 6 ≤ N) (hs : SY M) : J (some (N, xs)) 60 mL_law 1517 (lwL i) [] M (lwE i) := by
  obtain ⟨P, D, n, F, O, tl, tb, fa, tr, wh, hm, hk, hr⟩ := hs
  refine J_aload_n dL_law_1517 rfl ?_
  refine J_aload_nS dL_law_1518 rfl ?_
  refine J_iload dL_law_1519 rfl ?_
  refine J_iconst dL_law_1521 ?_
  refine J_iadd dL_law_1522 ?_
  refine J_sld dL_law_1523 rfl (by omega) ⟨by omega, by omega⟩ ?_
  refine J_aload_nS dL_law_1524 rfl ?_
  refine J_iload dL_law_1525 rfl ?_
  refine J_iconst dL_law_1527 ?_
  refine J_iadd dL_law_1528 ?_
  refine J_sld dL_law_1529 rfl (by omega) ⟨by omega, by omega⟩ ?_
  refine J_callVi (cl := mX6_turn) [(0, xs (((i : Int) + 1).toNat)), (0, xs (((i : Int) + 2).toNat))] [] dL_law_1530 mlL_235 cvX6_turn rfl rfl rfl rfl rfl (by decide) (Nat.le_of_ble_eq_true rfl) rfl (ev_X6_turn P D n F O tl tb fa tr wh M hk (xs (((i : Int) + 1).toNat)) (hx _) (xs (((i : Int) + 2).toNat)) (hx _)) (fun za Ma qMa => ?_)
  obtain ⟨rfl, k2, k1⟩ := qMa
  have hm1 := ms_km k1 hm
  refine J_aload_n dL_law_1533 rfl ?_
  refine J_aload_nS dL_law_1534 rfl ?_
  refine J_iload dL_law_1535 rfl ?_
  refine J_iconst dL_law_1537 ?_
  refine J_iadd dL_law_1538 ?_
  refine J_sld dL_law_1539 rfl (by omega) ⟨by omega, by omega⟩ ?_
  refine J_aload_nS dL_law_1540 rfl ?_
  refine J_iload dL_law_1541 rfl ?_
  refine J_iconst dL_law_1543 ?_
  refine J_iadd dL_law_1544 ?_
  refine J_sld dL_law_1545 rfl (by omega) ⟨by omega, by omega⟩ ?_
  refine J_callVi (cl := mX7_turn) [(0, xs (((i : Int) + 1).toNat)), (0, xs (((i : Int) + 2).toNat))] [(0, _)] dL_law_1546 mlL_238 cvX7_turn rfl rfl rfl rfl rfl (by decide) (Nat.le_of_ble_eq_true rfl) rfl (ev_X7_turn P D n F O tl tb fa tr wh Ma hm1 (xs (((i : Int) + 1).toNat)) (hx _) (xs (((i : Int) + 2).toNat)) (hx _)) (fun zb Mb qMb => ?_)
  obtain ⟨rfl, m2, m1⟩ := qMb
  refine J_icmp_eqT (tgt := 1636) dL_law_1549 rfl rfl ?_
  exact J_exit ⟨rfl, rfl, rfl, _, _, _, _, _, _, _, _, _, _, m2, ks_cm m1 k2, tr_u1 _⟩
set_option maxRecDepth 100000 in
set_option maxHeartbeats 4000000 in
theorem lwc_size (hN : N ≤ 3072) (hx : ∀ j, -2147483648 ≤ xs j ∧ xs j < 2147483648) (hi : i + 6 ≤ N) (hs : SY M) : J (some (N, xs)) 60 mL_law 1610 (lwL i) [] M (lwE i) := by
  obtain ⟨P, D, n, F, O, tl, tb, fa, tr, wh, hm, hk, hr⟩ := hs
  refine J_aload_n dL_law_1610 rfl ?_
  refine J_callVi (cl := mX6_size) [] [] dL_law_1611 mlL_248 cvX6_size rfl rfl rfl rfl rfl (by decide) (Nat.le_of_ble_eq_true rfl) rfl (ev_X6_size P D n F O tl tb fa tr wh M hk) (fun za Ma qMa => ?_)
  obtain ⟨e1, e2⟩ := qMa
  rw [e1, e2]
  have hm1 := hm
  have k2 := hk
  refine J_aload_n dL_law_1614 rfl ?_
  refine J_callVi (cl := mX7_size) [] [(0, _)] dL_law_1615 mlL_251 cvX7_size rfl rfl rfl rfl rfl (by decide) (Nat.le_of_ble_eq_true rfl) rfl (ev_X7_size P D n F O tl tb fa tr wh M hm1) (fun zb Mb qMb => ?_)
  obtain ⟨rfl, m2, m1⟩ := qMb
  refine J_icmp_eqT (tgt := 1636) dL_law_1618 rfl rfl ?_
  exact J_exit ⟨rfl, rfl, rfl, _, _, _, _, _, _, _, _, _, _, m2, ks_cm m1 k2, hr⟩
set_option maxRecDepth 100000 in
set_option maxHeartbeats 4000000 in
theorem lwc_trouble (hN : N ≤ 3072) (hx : ∀ j, -2147483648 ≤ xs j ∧ xs j < 2147483648) (hi : i + 6 ≤ N) (hs : SY M) : J (some (N, xs)) 60 mL_law 1623 (lwL i) [] M (lwE i) := by
  obtain ⟨P, D, n, F, O, tl, tb, fa, tr, wh, hm, hk, hr⟩ := hs
  refine J_aload_n dL_law_1623 rfl ?_
  refine J_callVi (cl := mX6_trouble) [] [] dL_law_1624 mlL_252 cvX6_trouble rfl rfl rfl rfl rfl (by decide) (Nat.le_of_ble_eq_true rfl) rfl (ev_X6_trouble P D n F O tl tb fa tr wh M hk) (fun za Ma qMa => ?_)
  obtain ⟨e1, e2⟩ := qMa
  rw [e1, e2]
  have hm1 := hm
  have k2 := hk
  refine J_aload_n dL_law_1627 rfl ?_
  refine J_callVi (cl := mX7_trouble) [] [(0, _)] dL_law_1628 mlL_255 cvX7_trouble rfl rfl rfl rfl rfl (by decide) (Nat.le_of_ble_eq_true rfl) rfl (ev_X7_trouble P D n F O tl tb fa tr wh M hm1) (fun zb Mb qMb => ?_)
  obtain ⟨rfl, m2, m1⟩ := qMb
  refine J_icmp_eqT (tgt := 1636) dL_law_1631 rfl rfl ?_
  exact J_exit ⟨rfl, rfl, rfl, _, _, _, _, _, _, _, _, _, _, m2, ks_cm m1 k2, hr⟩
end LWC
