/-! ===== the law, second: cases 12 to 23 (laid by wip/whole/src/law2.py) ===== -/
section
variable {X : x_X} {I : Nat → Nat → Int32} {L : Nat → Nat → Int64} {R : Nat → Nat → Option Nat} {N : Nat}
section
variable {Lw c k : Nat} {xs : Nat → Int32} {w5 w6 w7 : Option Value}
theorem lk_12 (hlen : 7 * N + 7 ≤ Lw) (hLw : Lw ≤ 3584) (T : y_T N I L R) (hN : N < 512) (hc : c ≤ 233 + 4 * N) (hk : k ≤ 14655 + 24 * N) (hx : xs (7 * N) &&& 63 = Int32.ofNat 12) : y_Nx Lw xs N I L R c k w5 w6 w7 := by
  have sm : y_OI N (Lw, xs) mL_advertise [.ref 0, .ref 232] mX9_advertise [.ref 225] I L R := sim_advertise (X := (Lw, xs)) T
  obtain ⟨k0, I1, L1, R1, v, I2, L2, h1, h2, ht, hv, T2⟩ := sm
  by_cases z : k0 = 0
  · refine ⟨I2, L2, R1, some (.int k0), some (.int v), w7, c + 1, k + 6, T2, by omega, by omega, fun r hr => ?_⟩
    refine e_tsI (j := 12) (off := 946) 986 dL_law_40 rfl (by rw [hx]; decide) (by decide) rfl rfl ?_
    refine f_aload_n (M := mL_law) 987 dL_law_986 rfl rfl ?_
    refine f_aload_n (M := mL_law) 988 dL_law_987 rfl rfl ?_
    refine e_cS (M := mL_law) [_] (c + 1) (k + 6) dL_law_988 pa_10206 cc_10206 rfl rfl rfl rfl rfl (show c + 1 ≤ 601024 by omega) (show k + 6 ≤ 7293034 by omega) rfl (h1) rfl ?_
    refine f_istore (M := mL_law) (ls' := [_, _, _, _, _, _, _, _]) 993 dL_law_991 rfl rfl rfl ?_
    refine f_aload_n (M := mL_law) 994 dL_law_993 rfl rfl ?_
    refine e_cV (M := mL_law) [_] (c + 1) (k + 6) dL_law_994 pa_10209 pb_10209 cc_10209 rfl rfl rfl rfl rfl (show c + 1 ≤ 601024 by omega) (show k + 6 ≤ 7293034 by omega) rfl (h2) rfl ?_
    refine f_istore (M := mL_law) (ls' := [_, _, _, _, _, _, _, _]) 999 dL_law_997 rfl rfl rfl ?_
    refine f_aload_n (M := mL_law) 1000 dL_law_999 rfl rfl ?_
    refine e_cV (M := mL_law) [_] (c + 1) (k + 6) dL_law_1000 pa_10163 pb_10163 cc_10163 rfl rfl rfl rfl rfl (show c + 1 ≤ 601024 by omega) (show k + 6 ≤ 7293034 by omega) rfl (c_X9_thrown) rfl ?_
    refine f_iload (M := mL_law) 1005 dL_law_1003 rfl rfl ?_
    refine e_icmp_eqT (M := mL_law) 1010 dL_law_1005 rfl ht ?_
    refine f_iload (M := mL_law) 1012 dL_law_1010 rfl rfl ?_
    refine e_if_neF (M := mL_law) 1027 dL_law_1012 rfl (fun q => q z) ?_
    refine f_aload_n (M := mL_law) 1016 dL_law_1015 rfl rfl ?_
    refine f_iconst (M := mL_law) 1017 dL_law_1016 ki_0 rfl ?_
    refine e_lld (M := mL_law) (w := 1) (j := 0) dL_law_1017 (x_kk rfl) rfl kn_0 (by omega) (by omega) ?_
    refine f_iload (M := mL_law) 1020 dL_law_1018 rfl rfl ?_
    refine f_i2l (M := mL_law) 1021 dL_law_1020 rfl ?_
    refine f_lcmp (M := mL_law) 1022 dL_law_1021 rfl ?_
    refine e_if_eqT (M := mL_law) 1027 dL_law_1022 rfl (lc_eq.mpr (hv z)) ?_
    refine f_goto (M := mL_law) 2888 dL_law_1027 rfl ?_
    refine f_iinc (M := mL_law) (ls' := [_, _, _, _, _, _, _, _]) 2891 dL_law_2888 ki_7 rfl rfl rfl rfl ?_
    refine f_goto (M := mL_law) 23 dL_law_2891 rfl ?_
    rw [show Int32.ofNat (7 * N) + 7 = Int32.ofNat (7 * (N + 1)) from ix_add rfl kn_7]; exact hr
  · refine ⟨I2, L2, R1, some (.int k0), some (.int v), w7, c + 1, k + 6, T2, by omega, by omega, fun r hr => ?_⟩
    refine e_tsI (j := 12) (off := 946) 986 dL_law_40 rfl (by rw [hx]; decide) (by decide) rfl rfl ?_
    refine f_aload_n (M := mL_law) 987 dL_law_986 rfl rfl ?_
    refine f_aload_n (M := mL_law) 988 dL_law_987 rfl rfl ?_
    refine e_cS (M := mL_law) [_] (c + 1) (k + 6) dL_law_988 pa_10206 cc_10206 rfl rfl rfl rfl rfl (show c + 1 ≤ 601024 by omega) (show k + 6 ≤ 7293034 by omega) rfl (h1) rfl ?_
    refine f_istore (M := mL_law) (ls' := [_, _, _, _, _, _, _, _]) 993 dL_law_991 rfl rfl rfl ?_
    refine f_aload_n (M := mL_law) 994 dL_law_993 rfl rfl ?_
    refine e_cV (M := mL_law) [_] (c + 1) (k + 6) dL_law_994 pa_10209 pb_10209 cc_10209 rfl rfl rfl rfl rfl (show c + 1 ≤ 601024 by omega) (show k + 6 ≤ 7293034 by omega) rfl (h2) rfl ?_
    refine f_istore (M := mL_law) (ls' := [_, _, _, _, _, _, _, _]) 999 dL_law_997 rfl rfl rfl ?_
    refine f_aload_n (M := mL_law) 1000 dL_law_999 rfl rfl ?_
    refine e_cV (M := mL_law) [_] (c + 1) (k + 6) dL_law_1000 pa_10163 pb_10163 cc_10163 rfl rfl rfl rfl rfl (show c + 1 ≤ 601024 by omega) (show k + 6 ≤ 7293034 by omega) rfl (c_X9_thrown) rfl ?_
    refine f_iload (M := mL_law) 1005 dL_law_1003 rfl rfl ?_
    refine e_icmp_eqT (M := mL_law) 1010 dL_law_1005 rfl ht ?_
    refine f_iload (M := mL_law) 1012 dL_law_1010 rfl rfl ?_
    refine e_if_neT (M := mL_law) 1027 dL_law_1012 rfl z ?_
    refine f_goto (M := mL_law) 2888 dL_law_1027 rfl ?_
    refine f_iinc (M := mL_law) (ls' := [_, _, _, _, _, _, _, _]) 2891 dL_law_2888 ki_7 rfl rfl rfl rfl ?_
    refine f_goto (M := mL_law) 23 dL_law_2891 rfl ?_
    rw [show Int32.ofNat (7 * N) + 7 = Int32.ofNat (7 * (N + 1)) from ix_add rfl kn_7]; exact hr
theorem lk_13 (hlen : 7 * N + 7 ≤ Lw) (hLw : Lw ≤ 3584) (T : y_T N I L R) (hN : N < 512) (hc : c ≤ 233 + 4 * N) (hk : k ≤ 14655 + 24 * N) (hx : xs (7 * N) &&& 63 = Int32.ofNat 13) : y_Nx Lw xs N I L R c k w5 w6 w7 := by
  have sm : y_OI N (Lw, xs) mL_volume [.ref 0, .int (xs (7 * N + 1)), .ref 232] mX9_volume [.ref 225, .int (xs (7 * N + 1))] I L R := sim_volume (X := (Lw, xs)) T
  obtain ⟨k0, I1, L1, R1, v, I2, L2, h1, h2, ht, hv, T2⟩ := sm
  by_cases z : k0 = 0
  · refine ⟨I2, L2, R1, some (.int k0), some (.int v), w7, c + 2, k + 12, T2, by omega, by omega, fun r hr => ?_⟩
    refine e_tsI (j := 13) (off := 990) 1030 dL_law_40 rfl (by rw [hx]; decide) (by decide) rfl rfl ?_
    refine f_aload_n (M := mL_law) 1031 dL_law_1030 rfl rfl ?_
    refine f_aload_n (M := mL_law) 1032 dL_law_1031 rfl rfl ?_
    refine f_iload (M := mL_law) 1034 dL_law_1032 rfl rfl ?_
    refine f_iconst (M := mL_law) 1035 dL_law_1034 ki_1 rfl ?_
    refine f_iadd (M := mL_law) 1036 dL_law_1035 rfl ?_
    refine e_iaf (M := mL_law) (w := Lw) (f := xs) (j := (7 * N) + (1)) dL_law_1036 (x_kk rfl) rfl (ix_add rfl kn_1) (by omega) (by omega) ?_
    refine f_aload_n (M := mL_law) 1038 dL_law_1037 rfl rfl ?_
    refine e_cS (M := mL_law) [_] (c + 2) (k + 12) dL_law_1038 pa_10210 cc_10210 rfl rfl rfl rfl rfl (show c + 2 ≤ 601024 by omega) (show k + 12 ≤ 7293034 by omega) rfl (h1) rfl ?_
    refine f_istore (M := mL_law) (ls' := [_, _, _, _, _, _, _, _]) 1043 dL_law_1041 rfl rfl rfl ?_
    refine f_aload_n (M := mL_law) 1044 dL_law_1043 rfl rfl ?_
    refine f_aload_n (M := mL_law) 1045 dL_law_1044 rfl rfl ?_
    refine f_iload (M := mL_law) 1047 dL_law_1045 rfl rfl ?_
    refine f_iconst (M := mL_law) 1048 dL_law_1047 ki_1 rfl ?_
    refine f_iadd (M := mL_law) 1049 dL_law_1048 rfl ?_
    refine e_iaf (M := mL_law) (w := Lw) (f := xs) (j := (7 * N) + (1)) dL_law_1049 (x_kk rfl) rfl (ix_add rfl kn_1) (by omega) (by omega) ?_
    refine e_cV (M := mL_law) [_] (c + 2) (k + 12) dL_law_1050 pa_10212 pb_10212 cc_10212 rfl rfl rfl rfl rfl (show c + 2 ≤ 601024 by omega) (show k + 12 ≤ 7293034 by omega) rfl (h2) rfl ?_
    refine f_istore (M := mL_law) (ls' := [_, _, _, _, _, _, _, _]) 1055 dL_law_1053 rfl rfl rfl ?_
    refine f_aload_n (M := mL_law) 1056 dL_law_1055 rfl rfl ?_
    refine e_cV (M := mL_law) [_] (c + 2) (k + 12) dL_law_1056 pa_10163 pb_10163 cc_10163 rfl rfl rfl rfl rfl (show c + 2 ≤ 601024 by omega) (show k + 12 ≤ 7293034 by omega) rfl (c_X9_thrown) rfl ?_
    refine f_iload (M := mL_law) 1061 dL_law_1059 rfl rfl ?_
    refine e_icmp_eqT (M := mL_law) 1066 dL_law_1061 rfl ht ?_
    refine f_iload (M := mL_law) 1068 dL_law_1066 rfl rfl ?_
    refine e_if_neF (M := mL_law) 1083 dL_law_1068 rfl (fun q => q z) ?_
    refine f_aload_n (M := mL_law) 1072 dL_law_1071 rfl rfl ?_
    refine f_iconst (M := mL_law) 1073 dL_law_1072 ki_0 rfl ?_
    refine e_lld (M := mL_law) (w := 1) (j := 0) dL_law_1073 (x_kk rfl) rfl kn_0 (by omega) (by omega) ?_
    refine f_iload (M := mL_law) 1076 dL_law_1074 rfl rfl ?_
    refine f_i2l (M := mL_law) 1077 dL_law_1076 rfl ?_
    refine f_lcmp (M := mL_law) 1078 dL_law_1077 rfl ?_
    refine e_if_eqT (M := mL_law) 1083 dL_law_1078 rfl (lc_eq.mpr (hv z)) ?_
    refine f_goto (M := mL_law) 2888 dL_law_1083 rfl ?_
    refine f_iinc (M := mL_law) (ls' := [_, _, _, _, _, _, _, _]) 2891 dL_law_2888 ki_7 rfl rfl rfl rfl ?_
    refine f_goto (M := mL_law) 23 dL_law_2891 rfl ?_
    rw [show Int32.ofNat (7 * N) + 7 = Int32.ofNat (7 * (N + 1)) from ix_add rfl kn_7]; exact hr
  · refine ⟨I2, L2, R1, some (.int k0), some (.int v), w7, c + 2, k + 12, T2, by omega, by omega, fun r hr => ?_⟩
    refine e_tsI (j := 13) (off := 990) 1030 dL_law_40 rfl (by rw [hx]; decide) (by decide) rfl rfl ?_
    refine f_aload_n (M := mL_law) 1031 dL_law_1030 rfl rfl ?_
    refine f_aload_n (M := mL_law) 1032 dL_law_1031 rfl rfl ?_
    refine f_iload (M := mL_law) 1034 dL_law_1032 rfl rfl ?_
    refine f_iconst (M := mL_law) 1035 dL_law_1034 ki_1 rfl ?_
    refine f_iadd (M := mL_law) 1036 dL_law_1035 rfl ?_
    refine e_iaf (M := mL_law) (w := Lw) (f := xs) (j := (7 * N) + (1)) dL_law_1036 (x_kk rfl) rfl (ix_add rfl kn_1) (by omega) (by omega) ?_
    refine f_aload_n (M := mL_law) 1038 dL_law_1037 rfl rfl ?_
    refine e_cS (M := mL_law) [_] (c + 2) (k + 12) dL_law_1038 pa_10210 cc_10210 rfl rfl rfl rfl rfl (show c + 2 ≤ 601024 by omega) (show k + 12 ≤ 7293034 by omega) rfl (h1) rfl ?_
    refine f_istore (M := mL_law) (ls' := [_, _, _, _, _, _, _, _]) 1043 dL_law_1041 rfl rfl rfl ?_
    refine f_aload_n (M := mL_law) 1044 dL_law_1043 rfl rfl ?_
    refine f_aload_n (M := mL_law) 1045 dL_law_1044 rfl rfl ?_
    refine f_iload (M := mL_law) 1047 dL_law_1045 rfl rfl ?_
    refine f_iconst (M := mL_law) 1048 dL_law_1047 ki_1 rfl ?_
    refine f_iadd (M := mL_law) 1049 dL_law_1048 rfl ?_
    refine e_iaf (M := mL_law) (w := Lw) (f := xs) (j := (7 * N) + (1)) dL_law_1049 (x_kk rfl) rfl (ix_add rfl kn_1) (by omega) (by omega) ?_
    refine e_cV (M := mL_law) [_] (c + 2) (k + 12) dL_law_1050 pa_10212 pb_10212 cc_10212 rfl rfl rfl rfl rfl (show c + 2 ≤ 601024 by omega) (show k + 12 ≤ 7293034 by omega) rfl (h2) rfl ?_
    refine f_istore (M := mL_law) (ls' := [_, _, _, _, _, _, _, _]) 1055 dL_law_1053 rfl rfl rfl ?_
    refine f_aload_n (M := mL_law) 1056 dL_law_1055 rfl rfl ?_
    refine e_cV (M := mL_law) [_] (c + 2) (k + 12) dL_law_1056 pa_10163 pb_10163 cc_10163 rfl rfl rfl rfl rfl (show c + 2 ≤ 601024 by omega) (show k + 12 ≤ 7293034 by omega) rfl (c_X9_thrown) rfl ?_
    refine f_iload (M := mL_law) 1061 dL_law_1059 rfl rfl ?_
    refine e_icmp_eqT (M := mL_law) 1066 dL_law_1061 rfl ht ?_
    refine f_iload (M := mL_law) 1068 dL_law_1066 rfl rfl ?_
    refine e_if_neT (M := mL_law) 1083 dL_law_1068 rfl z ?_
    refine f_goto (M := mL_law) 2888 dL_law_1083 rfl ?_
    refine f_iinc (M := mL_law) (ls' := [_, _, _, _, _, _, _, _]) 2891 dL_law_2888 ki_7 rfl rfl rfl rfl ?_
    refine f_goto (M := mL_law) 23 dL_law_2891 rfl ?_
    rw [show Int32.ofNat (7 * N) + 7 = Int32.ofNat (7 * (N + 1)) from ix_add rfl kn_7]; exact hr
theorem lk_14 (hlen : 7 * N + 7 ≤ Lw) (hLw : Lw ≤ 3584) (T : y_T N I L R) (hN : N < 512) (hc : c ≤ 233 + 4 * N) (hk : k ≤ 14655 + 24 * N) (hx : xs (7 * N) &&& 63 = Int32.ofNat 14) : y_Nx Lw xs N I L R c k w5 w6 w7 := by
  have sm : y_OI N (Lw, xs) mL_offer [.ref 0, .int (xs (7 * N + 1)), .int (xs (7 * N + 2)), .int (xs (7 * N + 3)), .ref 232] mX9_offer [.ref 225, .int (xs (7 * N + 1)), .int (xs (7 * N + 2)), .int (xs (7 * N + 3))] I L R := sim_offer (X := (Lw, xs)) T
  obtain ⟨k0, I1, L1, R1, v, I2, L2, h1, h2, ht, hv, T2⟩ := sm
  by_cases z : k0 = 0
  · refine ⟨I2, L2, R1, some (.int k0), some (.int v), w7, c + 3, k + 18, T2, by omega, by omega, fun r hr => ?_⟩
    refine e_tsI (j := 14) (off := 1046) 1086 dL_law_40 rfl (by rw [hx]; decide) (by decide) rfl rfl ?_
    refine f_aload_n (M := mL_law) 1087 dL_law_1086 rfl rfl ?_
    refine f_aload_n (M := mL_law) 1088 dL_law_1087 rfl rfl ?_
    refine f_iload (M := mL_law) 1090 dL_law_1088 rfl rfl ?_
    refine f_iconst (M := mL_law) 1091 dL_law_1090 ki_1 rfl ?_
    refine f_iadd (M := mL_law) 1092 dL_law_1091 rfl ?_
    refine e_iaf (M := mL_law) (w := Lw) (f := xs) (j := (7 * N) + (1)) dL_law_1092 (x_kk rfl) rfl (ix_add rfl kn_1) (by omega) (by omega) ?_
    refine f_aload_n (M := mL_law) 1094 dL_law_1093 rfl rfl ?_
    refine f_iload (M := mL_law) 1096 dL_law_1094 rfl rfl ?_
    refine f_iconst (M := mL_law) 1097 dL_law_1096 ki_2 rfl ?_
    refine f_iadd (M := mL_law) 1098 dL_law_1097 rfl ?_
    refine e_iaf (M := mL_law) (w := Lw) (f := xs) (j := (7 * N) + (2)) dL_law_1098 (x_kk rfl) rfl (ix_add rfl kn_2) (by omega) (by omega) ?_
    refine f_aload_n (M := mL_law) 1100 dL_law_1099 rfl rfl ?_
    refine f_iload (M := mL_law) 1102 dL_law_1100 rfl rfl ?_
    refine f_iconst (M := mL_law) 1103 dL_law_1102 ki_3 rfl ?_
    refine f_iadd (M := mL_law) 1104 dL_law_1103 rfl ?_
    refine e_iaf (M := mL_law) (w := Lw) (f := xs) (j := (7 * N) + (3)) dL_law_1104 (x_kk rfl) rfl (ix_add rfl kn_3) (by omega) (by omega) ?_
    refine f_aload_n (M := mL_law) 1106 dL_law_1105 rfl rfl ?_
    refine e_cS (M := mL_law) [_] (c + 3) (k + 18) dL_law_1106 pa_10213 cc_10213 rfl rfl rfl rfl rfl (show c + 3 ≤ 601024 by omega) (show k + 18 ≤ 7293034 by omega) rfl (h1) rfl ?_
    refine f_istore (M := mL_law) (ls' := [_, _, _, _, _, _, _, _]) 1111 dL_law_1109 rfl rfl rfl ?_
    refine f_aload_n (M := mL_law) 1112 dL_law_1111 rfl rfl ?_
    refine f_aload_n (M := mL_law) 1113 dL_law_1112 rfl rfl ?_
    refine f_iload (M := mL_law) 1115 dL_law_1113 rfl rfl ?_
    refine f_iconst (M := mL_law) 1116 dL_law_1115 ki_1 rfl ?_
    refine f_iadd (M := mL_law) 1117 dL_law_1116 rfl ?_
    refine e_iaf (M := mL_law) (w := Lw) (f := xs) (j := (7 * N) + (1)) dL_law_1117 (x_kk rfl) rfl (ix_add rfl kn_1) (by omega) (by omega) ?_
    refine f_aload_n (M := mL_law) 1119 dL_law_1118 rfl rfl ?_
    refine f_iload (M := mL_law) 1121 dL_law_1119 rfl rfl ?_
    refine f_iconst (M := mL_law) 1122 dL_law_1121 ki_2 rfl ?_
    refine f_iadd (M := mL_law) 1123 dL_law_1122 rfl ?_
    refine e_iaf (M := mL_law) (w := Lw) (f := xs) (j := (7 * N) + (2)) dL_law_1123 (x_kk rfl) rfl (ix_add rfl kn_2) (by omega) (by omega) ?_
    refine f_aload_n (M := mL_law) 1125 dL_law_1124 rfl rfl ?_
    refine f_iload (M := mL_law) 1127 dL_law_1125 rfl rfl ?_
    refine f_iconst (M := mL_law) 1128 dL_law_1127 ki_3 rfl ?_
    refine f_iadd (M := mL_law) 1129 dL_law_1128 rfl ?_
    refine e_iaf (M := mL_law) (w := Lw) (f := xs) (j := (7 * N) + (3)) dL_law_1129 (x_kk rfl) rfl (ix_add rfl kn_3) (by omega) (by omega) ?_
    refine e_cV (M := mL_law) [_] (c + 3) (k + 18) dL_law_1130 pa_10216 pb_10216 cc_10216 rfl rfl rfl rfl rfl (show c + 3 ≤ 601024 by omega) (show k + 18 ≤ 7293034 by omega) rfl (h2) rfl ?_
    refine f_istore (M := mL_law) (ls' := [_, _, _, _, _, _, _, _]) 1135 dL_law_1133 rfl rfl rfl ?_
    refine f_aload_n (M := mL_law) 1136 dL_law_1135 rfl rfl ?_
    refine e_cV (M := mL_law) [_] (c + 3) (k + 18) dL_law_1136 pa_10163 pb_10163 cc_10163 rfl rfl rfl rfl rfl (show c + 3 ≤ 601024 by omega) (show k + 18 ≤ 7293034 by omega) rfl (c_X9_thrown) rfl ?_
    refine f_iload (M := mL_law) 1141 dL_law_1139 rfl rfl ?_
    refine e_icmp_eqT (M := mL_law) 1146 dL_law_1141 rfl ht ?_
    refine f_iload (M := mL_law) 1148 dL_law_1146 rfl rfl ?_
    refine e_if_neF (M := mL_law) 1163 dL_law_1148 rfl (fun q => q z) ?_
    refine f_aload_n (M := mL_law) 1152 dL_law_1151 rfl rfl ?_
    refine f_iconst (M := mL_law) 1153 dL_law_1152 ki_0 rfl ?_
    refine e_lld (M := mL_law) (w := 1) (j := 0) dL_law_1153 (x_kk rfl) rfl kn_0 (by omega) (by omega) ?_
    refine f_iload (M := mL_law) 1156 dL_law_1154 rfl rfl ?_
    refine f_i2l (M := mL_law) 1157 dL_law_1156 rfl ?_
    refine f_lcmp (M := mL_law) 1158 dL_law_1157 rfl ?_
    refine e_if_eqT (M := mL_law) 1163 dL_law_1158 rfl (lc_eq.mpr (hv z)) ?_
    refine f_goto (M := mL_law) 2888 dL_law_1163 rfl ?_
    refine f_iinc (M := mL_law) (ls' := [_, _, _, _, _, _, _, _]) 2891 dL_law_2888 ki_7 rfl rfl rfl rfl ?_
    refine f_goto (M := mL_law) 23 dL_law_2891 rfl ?_
    rw [show Int32.ofNat (7 * N) + 7 = Int32.ofNat (7 * (N + 1)) from ix_add rfl kn_7]; exact hr
  · refine ⟨I2, L2, R1, some (.int k0), some (.int v), w7, c + 3, k + 18, T2, by omega, by omega, fun r hr => ?_⟩
    refine e_tsI (j := 14) (off := 1046) 1086 dL_law_40 rfl (by rw [hx]; decide) (by decide) rfl rfl ?_
    refine f_aload_n (M := mL_law) 1087 dL_law_1086 rfl rfl ?_
    refine f_aload_n (M := mL_law) 1088 dL_law_1087 rfl rfl ?_
    refine f_iload (M := mL_law) 1090 dL_law_1088 rfl rfl ?_
    refine f_iconst (M := mL_law) 1091 dL_law_1090 ki_1 rfl ?_
    refine f_iadd (M := mL_law) 1092 dL_law_1091 rfl ?_
    refine e_iaf (M := mL_law) (w := Lw) (f := xs) (j := (7 * N) + (1)) dL_law_1092 (x_kk rfl) rfl (ix_add rfl kn_1) (by omega) (by omega) ?_
    refine f_aload_n (M := mL_law) 1094 dL_law_1093 rfl rfl ?_
    refine f_iload (M := mL_law) 1096 dL_law_1094 rfl rfl ?_
    refine f_iconst (M := mL_law) 1097 dL_law_1096 ki_2 rfl ?_
    refine f_iadd (M := mL_law) 1098 dL_law_1097 rfl ?_
    refine e_iaf (M := mL_law) (w := Lw) (f := xs) (j := (7 * N) + (2)) dL_law_1098 (x_kk rfl) rfl (ix_add rfl kn_2) (by omega) (by omega) ?_
    refine f_aload_n (M := mL_law) 1100 dL_law_1099 rfl rfl ?_
    refine f_iload (M := mL_law) 1102 dL_law_1100 rfl rfl ?_
    refine f_iconst (M := mL_law) 1103 dL_law_1102 ki_3 rfl ?_
    refine f_iadd (M := mL_law) 1104 dL_law_1103 rfl ?_
    refine e_iaf (M := mL_law) (w := Lw) (f := xs) (j := (7 * N) + (3)) dL_law_1104 (x_kk rfl) rfl (ix_add rfl kn_3) (by omega) (by omega) ?_
    refine f_aload_n (M := mL_law) 1106 dL_law_1105 rfl rfl ?_
    refine e_cS (M := mL_law) [_] (c + 3) (k + 18) dL_law_1106 pa_10213 cc_10213 rfl rfl rfl rfl rfl (show c + 3 ≤ 601024 by omega) (show k + 18 ≤ 7293034 by omega) rfl (h1) rfl ?_
    refine f_istore (M := mL_law) (ls' := [_, _, _, _, _, _, _, _]) 1111 dL_law_1109 rfl rfl rfl ?_
    refine f_aload_n (M := mL_law) 1112 dL_law_1111 rfl rfl ?_
    refine f_aload_n (M := mL_law) 1113 dL_law_1112 rfl rfl ?_
    refine f_iload (M := mL_law) 1115 dL_law_1113 rfl rfl ?_
    refine f_iconst (M := mL_law) 1116 dL_law_1115 ki_1 rfl ?_
    refine f_iadd (M := mL_law) 1117 dL_law_1116 rfl ?_
    refine e_iaf (M := mL_law) (w := Lw) (f := xs) (j := (7 * N) + (1)) dL_law_1117 (x_kk rfl) rfl (ix_add rfl kn_1) (by omega) (by omega) ?_
    refine f_aload_n (M := mL_law) 1119 dL_law_1118 rfl rfl ?_
    refine f_iload (M := mL_law) 1121 dL_law_1119 rfl rfl ?_
    refine f_iconst (M := mL_law) 1122 dL_law_1121 ki_2 rfl ?_
    refine f_iadd (M := mL_law) 1123 dL_law_1122 rfl ?_
    refine e_iaf (M := mL_law) (w := Lw) (f := xs) (j := (7 * N) + (2)) dL_law_1123 (x_kk rfl) rfl (ix_add rfl kn_2) (by omega) (by omega) ?_
    refine f_aload_n (M := mL_law) 1125 dL_law_1124 rfl rfl ?_
    refine f_iload (M := mL_law) 1127 dL_law_1125 rfl rfl ?_
    refine f_iconst (M := mL_law) 1128 dL_law_1127 ki_3 rfl ?_
    refine f_iadd (M := mL_law) 1129 dL_law_1128 rfl ?_
    refine e_iaf (M := mL_law) (w := Lw) (f := xs) (j := (7 * N) + (3)) dL_law_1129 (x_kk rfl) rfl (ix_add rfl kn_3) (by omega) (by omega) ?_
    refine e_cV (M := mL_law) [_] (c + 3) (k + 18) dL_law_1130 pa_10216 pb_10216 cc_10216 rfl rfl rfl rfl rfl (show c + 3 ≤ 601024 by omega) (show k + 18 ≤ 7293034 by omega) rfl (h2) rfl ?_
    refine f_istore (M := mL_law) (ls' := [_, _, _, _, _, _, _, _]) 1135 dL_law_1133 rfl rfl rfl ?_
    refine f_aload_n (M := mL_law) 1136 dL_law_1135 rfl rfl ?_
    refine e_cV (M := mL_law) [_] (c + 3) (k + 18) dL_law_1136 pa_10163 pb_10163 cc_10163 rfl rfl rfl rfl rfl (show c + 3 ≤ 601024 by omega) (show k + 18 ≤ 7293034 by omega) rfl (c_X9_thrown) rfl ?_
    refine f_iload (M := mL_law) 1141 dL_law_1139 rfl rfl ?_
    refine e_icmp_eqT (M := mL_law) 1146 dL_law_1141 rfl ht ?_
    refine f_iload (M := mL_law) 1148 dL_law_1146 rfl rfl ?_
    refine e_if_neT (M := mL_law) 1163 dL_law_1148 rfl z ?_
    refine f_goto (M := mL_law) 2888 dL_law_1163 rfl ?_
    refine f_iinc (M := mL_law) (ls' := [_, _, _, _, _, _, _, _]) 2891 dL_law_2888 ki_7 rfl rfl rfl rfl ?_
    refine f_goto (M := mL_law) 23 dL_law_2891 rfl ?_
    rw [show Int32.ofNat (7 * N) + 7 = Int32.ofNat (7 * (N + 1)) from ix_add rfl kn_7]; exact hr
theorem lk_15 (hlen : 7 * N + 7 ≤ Lw) (hLw : Lw ≤ 3584) (T : y_T N I L R) (hN : N < 512) (hc : c ≤ 233 + 4 * N) (hk : k ≤ 14655 + 24 * N) (hx : xs (7 * N) &&& 63 = Int32.ofNat 15) : y_Nx Lw xs N I L R c k w5 w6 w7 := by
  have sm : y_OI N (Lw, xs) mL_setDeposit [.ref 0, .int (xs (7 * N + 1)), .int (xs (7 * N + 2)), .ref 232] mX9_setDeposit [.ref 225, .int (xs (7 * N + 1)), .int (xs (7 * N + 2))] I L R := sim_setDeposit (X := (Lw, xs)) T
  obtain ⟨k0, I1, L1, R1, v, I2, L2, h1, h2, ht, hv, T2⟩ := sm
  by_cases z : k0 = 0
  · refine ⟨I2, L2, R1, some (.int k0), some (.int v), w7, c + 3, k + 18, T2, by omega, by omega, fun r hr => ?_⟩
    refine e_tsI (j := 15) (off := 1126) 1166 dL_law_40 rfl (by rw [hx]; decide) (by decide) rfl rfl ?_
    refine f_aload_n (M := mL_law) 1167 dL_law_1166 rfl rfl ?_
    refine f_aload_n (M := mL_law) 1168 dL_law_1167 rfl rfl ?_
    refine f_iload (M := mL_law) 1170 dL_law_1168 rfl rfl ?_
    refine f_iconst (M := mL_law) 1171 dL_law_1170 ki_1 rfl ?_
    refine f_iadd (M := mL_law) 1172 dL_law_1171 rfl ?_
    refine e_iaf (M := mL_law) (w := Lw) (f := xs) (j := (7 * N) + (1)) dL_law_1172 (x_kk rfl) rfl (ix_add rfl kn_1) (by omega) (by omega) ?_
    refine f_aload_n (M := mL_law) 1174 dL_law_1173 rfl rfl ?_
    refine f_iload (M := mL_law) 1176 dL_law_1174 rfl rfl ?_
    refine f_iconst (M := mL_law) 1177 dL_law_1176 ki_2 rfl ?_
    refine f_iadd (M := mL_law) 1178 dL_law_1177 rfl ?_
    refine e_iaf (M := mL_law) (w := Lw) (f := xs) (j := (7 * N) + (2)) dL_law_1178 (x_kk rfl) rfl (ix_add rfl kn_2) (by omega) (by omega) ?_
    refine f_aload_n (M := mL_law) 1180 dL_law_1179 rfl rfl ?_
    refine e_cS (M := mL_law) [_] (c + 3) (k + 18) dL_law_1180 pa_10217 cc_10217 rfl rfl rfl rfl rfl (show c + 3 ≤ 601024 by omega) (show k + 18 ≤ 7293034 by omega) rfl (h1) rfl ?_
    refine f_istore (M := mL_law) (ls' := [_, _, _, _, _, _, _, _]) 1185 dL_law_1183 rfl rfl rfl ?_
    refine f_aload_n (M := mL_law) 1186 dL_law_1185 rfl rfl ?_
    refine f_aload_n (M := mL_law) 1187 dL_law_1186 rfl rfl ?_
    refine f_iload (M := mL_law) 1189 dL_law_1187 rfl rfl ?_
    refine f_iconst (M := mL_law) 1190 dL_law_1189 ki_1 rfl ?_
    refine f_iadd (M := mL_law) 1191 dL_law_1190 rfl ?_
    refine e_iaf (M := mL_law) (w := Lw) (f := xs) (j := (7 * N) + (1)) dL_law_1191 (x_kk rfl) rfl (ix_add rfl kn_1) (by omega) (by omega) ?_
    refine f_aload_n (M := mL_law) 1193 dL_law_1192 rfl rfl ?_
    refine f_iload (M := mL_law) 1195 dL_law_1193 rfl rfl ?_
    refine f_iconst (M := mL_law) 1196 dL_law_1195 ki_2 rfl ?_
    refine f_iadd (M := mL_law) 1197 dL_law_1196 rfl ?_
    refine e_iaf (M := mL_law) (w := Lw) (f := xs) (j := (7 * N) + (2)) dL_law_1197 (x_kk rfl) rfl (ix_add rfl kn_2) (by omega) (by omega) ?_
    refine e_cV (M := mL_law) [_] (c + 3) (k + 18) dL_law_1198 pa_10219 pb_10219 cc_10219 rfl rfl rfl rfl rfl (show c + 3 ≤ 601024 by omega) (show k + 18 ≤ 7293034 by omega) rfl (h2) rfl ?_
    refine f_istore (M := mL_law) (ls' := [_, _, _, _, _, _, _, _]) 1203 dL_law_1201 rfl rfl rfl ?_
    refine f_aload_n (M := mL_law) 1204 dL_law_1203 rfl rfl ?_
    refine e_cV (M := mL_law) [_] (c + 3) (k + 18) dL_law_1204 pa_10163 pb_10163 cc_10163 rfl rfl rfl rfl rfl (show c + 3 ≤ 601024 by omega) (show k + 18 ≤ 7293034 by omega) rfl (c_X9_thrown) rfl ?_
    refine f_iload (M := mL_law) 1209 dL_law_1207 rfl rfl ?_
    refine e_icmp_eqT (M := mL_law) 1214 dL_law_1209 rfl ht ?_
    refine f_iload (M := mL_law) 1216 dL_law_1214 rfl rfl ?_
    refine e_if_neF (M := mL_law) 1231 dL_law_1216 rfl (fun q => q z) ?_
    refine f_aload_n (M := mL_law) 1220 dL_law_1219 rfl rfl ?_
    refine f_iconst (M := mL_law) 1221 dL_law_1220 ki_0 rfl ?_
    refine e_lld (M := mL_law) (w := 1) (j := 0) dL_law_1221 (x_kk rfl) rfl kn_0 (by omega) (by omega) ?_
    refine f_iload (M := mL_law) 1224 dL_law_1222 rfl rfl ?_
    refine f_i2l (M := mL_law) 1225 dL_law_1224 rfl ?_
    refine f_lcmp (M := mL_law) 1226 dL_law_1225 rfl ?_
    refine e_if_eqT (M := mL_law) 1231 dL_law_1226 rfl (lc_eq.mpr (hv z)) ?_
    refine f_goto (M := mL_law) 2888 dL_law_1231 rfl ?_
    refine f_iinc (M := mL_law) (ls' := [_, _, _, _, _, _, _, _]) 2891 dL_law_2888 ki_7 rfl rfl rfl rfl ?_
    refine f_goto (M := mL_law) 23 dL_law_2891 rfl ?_
    rw [show Int32.ofNat (7 * N) + 7 = Int32.ofNat (7 * (N + 1)) from ix_add rfl kn_7]; exact hr
  · refine ⟨I2, L2, R1, some (.int k0), some (.int v), w7, c + 3, k + 18, T2, by omega, by omega, fun r hr => ?_⟩
    refine e_tsI (j := 15) (off := 1126) 1166 dL_law_40 rfl (by rw [hx]; decide) (by decide) rfl rfl ?_
    refine f_aload_n (M := mL_law) 1167 dL_law_1166 rfl rfl ?_
    refine f_aload_n (M := mL_law) 1168 dL_law_1167 rfl rfl ?_
    refine f_iload (M := mL_law) 1170 dL_law_1168 rfl rfl ?_
    refine f_iconst (M := mL_law) 1171 dL_law_1170 ki_1 rfl ?_
    refine f_iadd (M := mL_law) 1172 dL_law_1171 rfl ?_
    refine e_iaf (M := mL_law) (w := Lw) (f := xs) (j := (7 * N) + (1)) dL_law_1172 (x_kk rfl) rfl (ix_add rfl kn_1) (by omega) (by omega) ?_
    refine f_aload_n (M := mL_law) 1174 dL_law_1173 rfl rfl ?_
    refine f_iload (M := mL_law) 1176 dL_law_1174 rfl rfl ?_
    refine f_iconst (M := mL_law) 1177 dL_law_1176 ki_2 rfl ?_
    refine f_iadd (M := mL_law) 1178 dL_law_1177 rfl ?_
    refine e_iaf (M := mL_law) (w := Lw) (f := xs) (j := (7 * N) + (2)) dL_law_1178 (x_kk rfl) rfl (ix_add rfl kn_2) (by omega) (by omega) ?_
    refine f_aload_n (M := mL_law) 1180 dL_law_1179 rfl rfl ?_
    refine e_cS (M := mL_law) [_] (c + 3) (k + 18) dL_law_1180 pa_10217 cc_10217 rfl rfl rfl rfl rfl (show c + 3 ≤ 601024 by omega) (show k + 18 ≤ 7293034 by omega) rfl (h1) rfl ?_
    refine f_istore (M := mL_law) (ls' := [_, _, _, _, _, _, _, _]) 1185 dL_law_1183 rfl rfl rfl ?_
    refine f_aload_n (M := mL_law) 1186 dL_law_1185 rfl rfl ?_
    refine f_aload_n (M := mL_law) 1187 dL_law_1186 rfl rfl ?_
    refine f_iload (M := mL_law) 1189 dL_law_1187 rfl rfl ?_
    refine f_iconst (M := mL_law) 1190 dL_law_1189 ki_1 rfl ?_
    refine f_iadd (M := mL_law) 1191 dL_law_1190 rfl ?_
    refine e_iaf (M := mL_law) (w := Lw) (f := xs) (j := (7 * N) + (1)) dL_law_1191 (x_kk rfl) rfl (ix_add rfl kn_1) (by omega) (by omega) ?_
    refine f_aload_n (M := mL_law) 1193 dL_law_1192 rfl rfl ?_
    refine f_iload (M := mL_law) 1195 dL_law_1193 rfl rfl ?_
    refine f_iconst (M := mL_law) 1196 dL_law_1195 ki_2 rfl ?_
    refine f_iadd (M := mL_law) 1197 dL_law_1196 rfl ?_
    refine e_iaf (M := mL_law) (w := Lw) (f := xs) (j := (7 * N) + (2)) dL_law_1197 (x_kk rfl) rfl (ix_add rfl kn_2) (by omega) (by omega) ?_
    refine e_cV (M := mL_law) [_] (c + 3) (k + 18) dL_law_1198 pa_10219 pb_10219 cc_10219 rfl rfl rfl rfl rfl (show c + 3 ≤ 601024 by omega) (show k + 18 ≤ 7293034 by omega) rfl (h2) rfl ?_
    refine f_istore (M := mL_law) (ls' := [_, _, _, _, _, _, _, _]) 1203 dL_law_1201 rfl rfl rfl ?_
    refine f_aload_n (M := mL_law) 1204 dL_law_1203 rfl rfl ?_
    refine e_cV (M := mL_law) [_] (c + 3) (k + 18) dL_law_1204 pa_10163 pb_10163 cc_10163 rfl rfl rfl rfl rfl (show c + 3 ≤ 601024 by omega) (show k + 18 ≤ 7293034 by omega) rfl (c_X9_thrown) rfl ?_
    refine f_iload (M := mL_law) 1209 dL_law_1207 rfl rfl ?_
    refine e_icmp_eqT (M := mL_law) 1214 dL_law_1209 rfl ht ?_
    refine f_iload (M := mL_law) 1216 dL_law_1214 rfl rfl ?_
    refine e_if_neT (M := mL_law) 1231 dL_law_1216 rfl z ?_
    refine f_goto (M := mL_law) 2888 dL_law_1231 rfl ?_
    refine f_iinc (M := mL_law) (ls' := [_, _, _, _, _, _, _, _]) 2891 dL_law_2888 ki_7 rfl rfl rfl rfl ?_
    refine f_goto (M := mL_law) 23 dL_law_2891 rfl ?_
    rw [show Int32.ofNat (7 * N) + 7 = Int32.ofNat (7 * (N + 1)) from ix_add rfl kn_7]; exact hr
theorem lk_16 (hlen : 7 * N + 7 ≤ Lw) (hLw : Lw ≤ 3584) (T : y_T N I L R) (hN : N < 512) (hc : c ≤ 233 + 4 * N) (hk : k ≤ 14655 + 24 * N) (hx : xs (7 * N) &&& 63 = Int32.ofNat 16) : y_Nx Lw xs N I L R c k w5 w6 w7 := by
  have sm : y_OI N (Lw, xs) mL_seal [.ref 0, .int (xs (7 * N + 1)), .ref 232] mX9_seal [.ref 225, .int (xs (7 * N + 1))] I L R := sim_seal (X := (Lw, xs)) T (by omega)
  obtain ⟨k0, I1, L1, R1, v, I2, L2, h1, h2, ht, hv, T2⟩ := sm
  by_cases z : k0 = 0
  · refine ⟨I2, L2, R1, some (.int k0), some (.int v), w7, c + 2, k + 12, T2, by omega, by omega, fun r hr => ?_⟩
    refine e_tsI (j := 16) (off := 1194) 1234 dL_law_40 rfl (by rw [hx]; decide) (by decide) rfl rfl ?_
    refine f_aload_n (M := mL_law) 1235 dL_law_1234 rfl rfl ?_
    refine f_aload_n (M := mL_law) 1236 dL_law_1235 rfl rfl ?_
    refine f_iload (M := mL_law) 1238 dL_law_1236 rfl rfl ?_
    refine f_iconst (M := mL_law) 1239 dL_law_1238 ki_1 rfl ?_
    refine f_iadd (M := mL_law) 1240 dL_law_1239 rfl ?_
    refine e_iaf (M := mL_law) (w := Lw) (f := xs) (j := (7 * N) + (1)) dL_law_1240 (x_kk rfl) rfl (ix_add rfl kn_1) (by omega) (by omega) ?_
    refine f_aload_n (M := mL_law) 1242 dL_law_1241 rfl rfl ?_
    refine e_cS (M := mL_law) [_] (c + 2) (k + 12) dL_law_1242 pa_10220 cc_10220 rfl rfl rfl rfl rfl (show c + 2 ≤ 601024 by omega) (show k + 12 ≤ 7293034 by omega) rfl (h1) rfl ?_
    refine f_istore (M := mL_law) (ls' := [_, _, _, _, _, _, _, _]) 1247 dL_law_1245 rfl rfl rfl ?_
    refine f_aload_n (M := mL_law) 1248 dL_law_1247 rfl rfl ?_
    refine f_aload_n (M := mL_law) 1249 dL_law_1248 rfl rfl ?_
    refine f_iload (M := mL_law) 1251 dL_law_1249 rfl rfl ?_
    refine f_iconst (M := mL_law) 1252 dL_law_1251 ki_1 rfl ?_
    refine f_iadd (M := mL_law) 1253 dL_law_1252 rfl ?_
    refine e_iaf (M := mL_law) (w := Lw) (f := xs) (j := (7 * N) + (1)) dL_law_1253 (x_kk rfl) rfl (ix_add rfl kn_1) (by omega) (by omega) ?_
    refine e_cV (M := mL_law) [_] (c + 2) (k + 12) dL_law_1254 pa_10222 pb_10222 cc_10222 rfl rfl rfl rfl rfl (show c + 2 ≤ 601024 by omega) (show k + 12 ≤ 7293034 by omega) rfl (h2) rfl ?_
    refine f_istore (M := mL_law) (ls' := [_, _, _, _, _, _, _, _]) 1259 dL_law_1257 rfl rfl rfl ?_
    refine f_aload_n (M := mL_law) 1260 dL_law_1259 rfl rfl ?_
    refine e_cV (M := mL_law) [_] (c + 2) (k + 12) dL_law_1260 pa_10163 pb_10163 cc_10163 rfl rfl rfl rfl rfl (show c + 2 ≤ 601024 by omega) (show k + 12 ≤ 7293034 by omega) rfl (c_X9_thrown) rfl ?_
    refine f_iload (M := mL_law) 1265 dL_law_1263 rfl rfl ?_
    refine e_icmp_eqT (M := mL_law) 1270 dL_law_1265 rfl ht ?_
    refine f_iload (M := mL_law) 1272 dL_law_1270 rfl rfl ?_
    refine e_if_neF (M := mL_law) 1287 dL_law_1272 rfl (fun q => q z) ?_
    refine f_aload_n (M := mL_law) 1276 dL_law_1275 rfl rfl ?_
    refine f_iconst (M := mL_law) 1277 dL_law_1276 ki_0 rfl ?_
    refine e_lld (M := mL_law) (w := 1) (j := 0) dL_law_1277 (x_kk rfl) rfl kn_0 (by omega) (by omega) ?_
    refine f_iload (M := mL_law) 1280 dL_law_1278 rfl rfl ?_
    refine f_i2l (M := mL_law) 1281 dL_law_1280 rfl ?_
    refine f_lcmp (M := mL_law) 1282 dL_law_1281 rfl ?_
    refine e_if_eqT (M := mL_law) 1287 dL_law_1282 rfl (lc_eq.mpr (hv z)) ?_
    refine f_goto (M := mL_law) 2888 dL_law_1287 rfl ?_
    refine f_iinc (M := mL_law) (ls' := [_, _, _, _, _, _, _, _]) 2891 dL_law_2888 ki_7 rfl rfl rfl rfl ?_
    refine f_goto (M := mL_law) 23 dL_law_2891 rfl ?_
    rw [show Int32.ofNat (7 * N) + 7 = Int32.ofNat (7 * (N + 1)) from ix_add rfl kn_7]; exact hr
  · refine ⟨I2, L2, R1, some (.int k0), some (.int v), w7, c + 2, k + 12, T2, by omega, by omega, fun r hr => ?_⟩
    refine e_tsI (j := 16) (off := 1194) 1234 dL_law_40 rfl (by rw [hx]; decide) (by decide) rfl rfl ?_
    refine f_aload_n (M := mL_law) 1235 dL_law_1234 rfl rfl ?_
    refine f_aload_n (M := mL_law) 1236 dL_law_1235 rfl rfl ?_
    refine f_iload (M := mL_law) 1238 dL_law_1236 rfl rfl ?_
    refine f_iconst (M := mL_law) 1239 dL_law_1238 ki_1 rfl ?_
    refine f_iadd (M := mL_law) 1240 dL_law_1239 rfl ?_
    refine e_iaf (M := mL_law) (w := Lw) (f := xs) (j := (7 * N) + (1)) dL_law_1240 (x_kk rfl) rfl (ix_add rfl kn_1) (by omega) (by omega) ?_
    refine f_aload_n (M := mL_law) 1242 dL_law_1241 rfl rfl ?_
    refine e_cS (M := mL_law) [_] (c + 2) (k + 12) dL_law_1242 pa_10220 cc_10220 rfl rfl rfl rfl rfl (show c + 2 ≤ 601024 by omega) (show k + 12 ≤ 7293034 by omega) rfl (h1) rfl ?_
    refine f_istore (M := mL_law) (ls' := [_, _, _, _, _, _, _, _]) 1247 dL_law_1245 rfl rfl rfl ?_
    refine f_aload_n (M := mL_law) 1248 dL_law_1247 rfl rfl ?_
    refine f_aload_n (M := mL_law) 1249 dL_law_1248 rfl rfl ?_
    refine f_iload (M := mL_law) 1251 dL_law_1249 rfl rfl ?_
    refine f_iconst (M := mL_law) 1252 dL_law_1251 ki_1 rfl ?_
    refine f_iadd (M := mL_law) 1253 dL_law_1252 rfl ?_
    refine e_iaf (M := mL_law) (w := Lw) (f := xs) (j := (7 * N) + (1)) dL_law_1253 (x_kk rfl) rfl (ix_add rfl kn_1) (by omega) (by omega) ?_
    refine e_cV (M := mL_law) [_] (c + 2) (k + 12) dL_law_1254 pa_10222 pb_10222 cc_10222 rfl rfl rfl rfl rfl (show c + 2 ≤ 601024 by omega) (show k + 12 ≤ 7293034 by omega) rfl (h2) rfl ?_
    refine f_istore (M := mL_law) (ls' := [_, _, _, _, _, _, _, _]) 1259 dL_law_1257 rfl rfl rfl ?_
    refine f_aload_n (M := mL_law) 1260 dL_law_1259 rfl rfl ?_
    refine e_cV (M := mL_law) [_] (c + 2) (k + 12) dL_law_1260 pa_10163 pb_10163 cc_10163 rfl rfl rfl rfl rfl (show c + 2 ≤ 601024 by omega) (show k + 12 ≤ 7293034 by omega) rfl (c_X9_thrown) rfl ?_
    refine f_iload (M := mL_law) 1265 dL_law_1263 rfl rfl ?_
    refine e_icmp_eqT (M := mL_law) 1270 dL_law_1265 rfl ht ?_
    refine f_iload (M := mL_law) 1272 dL_law_1270 rfl rfl ?_
    refine e_if_neT (M := mL_law) 1287 dL_law_1272 rfl z ?_
    refine f_goto (M := mL_law) 2888 dL_law_1287 rfl ?_
    refine f_iinc (M := mL_law) (ls' := [_, _, _, _, _, _, _, _]) 2891 dL_law_2888 ki_7 rfl rfl rfl rfl ?_
    refine f_goto (M := mL_law) 23 dL_law_2891 rfl ?_
    rw [show Int32.ofNat (7 * N) + 7 = Int32.ofNat (7 * (N + 1)) from ix_add rfl kn_7]; exact hr
theorem lk_17 (hlen : 7 * N + 7 ≤ Lw) (hLw : Lw ≤ 3584) (T : y_T N I L R) (hN : N < 512) (hc : c ≤ 233 + 4 * N) (hk : k ≤ 14655 + 24 * N) (hx : xs (7 * N) &&& 63 = Int32.ofNat 17) : y_Nx Lw xs N I L R c k w5 w6 w7 := by
  have sm : y_OV N (Lw, xs) mL_withdraw [.ref 0, .int (xs (7 * N + 1))] mX9_withdraw [.ref 225, .int (xs (7 * N + 1))] I L R := sim_withdraw (X := (Lw, xs)) T
  obtain ⟨k0, I1, L1, R1, I2, L2, h1, h2, ht, T2⟩ := sm
  refine ⟨I2, L2, R1, some (.int k0), w6, w7, c + 2, k + 12, T2, by omega, by omega, fun r hr => ?_⟩
  refine e_tsI (j := 17) (off := 1250) 1290 dL_law_40 rfl (by rw [hx]; decide) (by decide) rfl rfl ?_
  refine f_aload_n (M := mL_law) 1291 dL_law_1290 rfl rfl ?_
  refine f_aload_n (M := mL_law) 1292 dL_law_1291 rfl rfl ?_
  refine f_iload (M := mL_law) 1294 dL_law_1292 rfl rfl ?_
  refine f_iconst (M := mL_law) 1295 dL_law_1294 ki_1 rfl ?_
  refine f_iadd (M := mL_law) 1296 dL_law_1295 rfl ?_
  refine e_iaf (M := mL_law) (w := Lw) (f := xs) (j := (7 * N) + (1)) dL_law_1296 (x_kk rfl) rfl (ix_add rfl kn_1) (by omega) (by omega) ?_
  refine e_cS (M := mL_law) [_] (c + 2) (k + 12) dL_law_1297 pa_10223 cc_10223 rfl rfl rfl rfl rfl (show c + 2 ≤ 601024 by omega) (show k + 12 ≤ 7293034 by omega) rfl (h1) rfl ?_
  refine f_istore (M := mL_law) (ls' := [_, _, _, _, _, _, _, _]) 1302 dL_law_1300 rfl rfl rfl ?_
  refine f_aload_n (M := mL_law) 1303 dL_law_1302 rfl rfl ?_
  refine f_aload_n (M := mL_law) 1304 dL_law_1303 rfl rfl ?_
  refine f_iload (M := mL_law) 1306 dL_law_1304 rfl rfl ?_
  refine f_iconst (M := mL_law) 1307 dL_law_1306 ki_1 rfl ?_
  refine f_iadd (M := mL_law) 1308 dL_law_1307 rfl ?_
  refine e_iaf (M := mL_law) (w := Lw) (f := xs) (j := (7 * N) + (1)) dL_law_1308 (x_kk rfl) rfl (ix_add rfl kn_1) (by omega) (by omega) ?_
  refine e_cV (M := mL_law) [] (c + 2) (k + 12) dL_law_1309 pa_10226 pb_10226 cc_10226 rfl rfl rfl rfl rfl (show c + 2 ≤ 601024 by omega) (show k + 12 ≤ 7293034 by omega) rfl (h2) rfl ?_
  refine f_aload_n (M := mL_law) 1313 dL_law_1312 rfl rfl ?_
  refine e_cV (M := mL_law) [_] (c + 2) (k + 12) dL_law_1313 pa_10163 pb_10163 cc_10163 rfl rfl rfl rfl rfl (show c + 2 ≤ 601024 by omega) (show k + 12 ≤ 7293034 by omega) rfl (c_X9_thrown) rfl ?_
  refine f_iload (M := mL_law) 1318 dL_law_1316 rfl rfl ?_
  refine e_icmp_eqT (M := mL_law) 1323 dL_law_1318 rfl ht ?_
  refine f_goto (M := mL_law) 2888 dL_law_1323 rfl ?_
  refine f_iinc (M := mL_law) (ls' := [_, _, _, _, _, _, _, _]) 2891 dL_law_2888 ki_7 rfl rfl rfl rfl ?_
  refine f_goto (M := mL_law) 23 dL_law_2891 rfl ?_
  rw [show Int32.ofNat (7 * N) + 7 = Int32.ofNat (7 * (N + 1)) from ix_add rfl kn_7]; exact hr
theorem lk_18 (hlen : 7 * N + 7 ≤ Lw) (hLw : Lw ≤ 3584) (T : y_T N I L R) (hN : N < 512) (hc : c ≤ 233 + 4 * N) (hk : k ≤ 14655 + 24 * N) (hx : xs (7 * N) &&& 63 = Int32.ofNat 18) : y_Nx Lw xs N I L R c k w5 w6 w7 := by
  have sm : y_OI N (Lw, xs) mL_open [.ref 0, .ref 232] mX9_open [.ref 225] I L R := sim_open (X := (Lw, xs)) T
  obtain ⟨k0, I1, L1, R1, v, I2, L2, h1, h2, ht, hv, T2⟩ := sm
  by_cases z : k0 = 0
  · refine ⟨I2, L2, R1, some (.int k0), some (.int v), w7, c + 1, k + 6, T2, by omega, by omega, fun r hr => ?_⟩
    refine e_tsI (j := 18) (off := 1286) 1326 dL_law_40 rfl (by rw [hx]; decide) (by decide) rfl rfl ?_
    refine f_aload_n (M := mL_law) 1327 dL_law_1326 rfl rfl ?_
    refine f_aload_n (M := mL_law) 1328 dL_law_1327 rfl rfl ?_
    refine e_cS (M := mL_law) [_] (c + 1) (k + 6) dL_law_1328 pa_10227 cc_10227 rfl rfl rfl rfl rfl (show c + 1 ≤ 601024 by omega) (show k + 6 ≤ 7293034 by omega) rfl (h1) rfl ?_
    refine f_istore (M := mL_law) (ls' := [_, _, _, _, _, _, _, _]) 1333 dL_law_1331 rfl rfl rfl ?_
    refine f_aload_n (M := mL_law) 1334 dL_law_1333 rfl rfl ?_
    refine e_cV (M := mL_law) [_] (c + 1) (k + 6) dL_law_1334 pa_10229 pb_10229 cc_10229 rfl rfl rfl rfl rfl (show c + 1 ≤ 601024 by omega) (show k + 6 ≤ 7293034 by omega) rfl (h2) rfl ?_
    refine f_istore (M := mL_law) (ls' := [_, _, _, _, _, _, _, _]) 1339 dL_law_1337 rfl rfl rfl ?_
    refine f_aload_n (M := mL_law) 1340 dL_law_1339 rfl rfl ?_
    refine e_cV (M := mL_law) [_] (c + 1) (k + 6) dL_law_1340 pa_10163 pb_10163 cc_10163 rfl rfl rfl rfl rfl (show c + 1 ≤ 601024 by omega) (show k + 6 ≤ 7293034 by omega) rfl (c_X9_thrown) rfl ?_
    refine f_iload (M := mL_law) 1345 dL_law_1343 rfl rfl ?_
    refine e_icmp_eqT (M := mL_law) 1350 dL_law_1345 rfl ht ?_
    refine f_iload (M := mL_law) 1352 dL_law_1350 rfl rfl ?_
    refine e_if_neF (M := mL_law) 1367 dL_law_1352 rfl (fun q => q z) ?_
    refine f_aload_n (M := mL_law) 1356 dL_law_1355 rfl rfl ?_
    refine f_iconst (M := mL_law) 1357 dL_law_1356 ki_0 rfl ?_
    refine e_lld (M := mL_law) (w := 1) (j := 0) dL_law_1357 (x_kk rfl) rfl kn_0 (by omega) (by omega) ?_
    refine f_iload (M := mL_law) 1360 dL_law_1358 rfl rfl ?_
    refine f_i2l (M := mL_law) 1361 dL_law_1360 rfl ?_
    refine f_lcmp (M := mL_law) 1362 dL_law_1361 rfl ?_
    refine e_if_eqT (M := mL_law) 1367 dL_law_1362 rfl (lc_eq.mpr (hv z)) ?_
    refine f_goto (M := mL_law) 2888 dL_law_1367 rfl ?_
    refine f_iinc (M := mL_law) (ls' := [_, _, _, _, _, _, _, _]) 2891 dL_law_2888 ki_7 rfl rfl rfl rfl ?_
    refine f_goto (M := mL_law) 23 dL_law_2891 rfl ?_
    rw [show Int32.ofNat (7 * N) + 7 = Int32.ofNat (7 * (N + 1)) from ix_add rfl kn_7]; exact hr
  · refine ⟨I2, L2, R1, some (.int k0), some (.int v), w7, c + 1, k + 6, T2, by omega, by omega, fun r hr => ?_⟩
    refine e_tsI (j := 18) (off := 1286) 1326 dL_law_40 rfl (by rw [hx]; decide) (by decide) rfl rfl ?_
    refine f_aload_n (M := mL_law) 1327 dL_law_1326 rfl rfl ?_
    refine f_aload_n (M := mL_law) 1328 dL_law_1327 rfl rfl ?_
    refine e_cS (M := mL_law) [_] (c + 1) (k + 6) dL_law_1328 pa_10227 cc_10227 rfl rfl rfl rfl rfl (show c + 1 ≤ 601024 by omega) (show k + 6 ≤ 7293034 by omega) rfl (h1) rfl ?_
    refine f_istore (M := mL_law) (ls' := [_, _, _, _, _, _, _, _]) 1333 dL_law_1331 rfl rfl rfl ?_
    refine f_aload_n (M := mL_law) 1334 dL_law_1333 rfl rfl ?_
    refine e_cV (M := mL_law) [_] (c + 1) (k + 6) dL_law_1334 pa_10229 pb_10229 cc_10229 rfl rfl rfl rfl rfl (show c + 1 ≤ 601024 by omega) (show k + 6 ≤ 7293034 by omega) rfl (h2) rfl ?_
    refine f_istore (M := mL_law) (ls' := [_, _, _, _, _, _, _, _]) 1339 dL_law_1337 rfl rfl rfl ?_
    refine f_aload_n (M := mL_law) 1340 dL_law_1339 rfl rfl ?_
    refine e_cV (M := mL_law) [_] (c + 1) (k + 6) dL_law_1340 pa_10163 pb_10163 cc_10163 rfl rfl rfl rfl rfl (show c + 1 ≤ 601024 by omega) (show k + 6 ≤ 7293034 by omega) rfl (c_X9_thrown) rfl ?_
    refine f_iload (M := mL_law) 1345 dL_law_1343 rfl rfl ?_
    refine e_icmp_eqT (M := mL_law) 1350 dL_law_1345 rfl ht ?_
    refine f_iload (M := mL_law) 1352 dL_law_1350 rfl rfl ?_
    refine e_if_neT (M := mL_law) 1367 dL_law_1352 rfl z ?_
    refine f_goto (M := mL_law) 2888 dL_law_1367 rfl ?_
    refine f_iinc (M := mL_law) (ls' := [_, _, _, _, _, _, _, _]) 2891 dL_law_2888 ki_7 rfl rfl rfl rfl ?_
    refine f_goto (M := mL_law) 23 dL_law_2891 rfl ?_
    rw [show Int32.ofNat (7 * N) + 7 = Int32.ofNat (7 * (N + 1)) from ix_add rfl kn_7]; exact hr
theorem lk_19 (hlen : 7 * N + 7 ≤ Lw) (hLw : Lw ≤ 3584) (T : y_T N I L R) (hN : N < 512) (hc : c ≤ 233 + 4 * N) (hk : k ≤ 14655 + 24 * N) (hx : xs (7 * N) &&& 63 = Int32.ofNat 19) : y_Nx Lw xs N I L R c k w5 w6 w7 := by
  have sm : y_OI N (Lw, xs) mL_problem [.ref 0, .int (xs (7 * N + 1)), .ref 232] mX9_problem [.ref 225, .int (xs (7 * N + 1))] I L R := sim_problem (X := (Lw, xs)) T
  obtain ⟨k0, I1, L1, R1, v, I2, L2, h1, h2, ht, hv, T2⟩ := sm
  by_cases z : k0 = 0
  · refine ⟨I2, L2, R1, some (.int k0), some (.int v), w7, c + 2, k + 12, T2, by omega, by omega, fun r hr => ?_⟩
    refine e_tsI (j := 19) (off := 1330) 1370 dL_law_40 rfl (by rw [hx]; decide) (by decide) rfl rfl ?_
    refine f_aload_n (M := mL_law) 1371 dL_law_1370 rfl rfl ?_
    refine f_aload_n (M := mL_law) 1372 dL_law_1371 rfl rfl ?_
    refine f_iload (M := mL_law) 1374 dL_law_1372 rfl rfl ?_
    refine f_iconst (M := mL_law) 1375 dL_law_1374 ki_1 rfl ?_
    refine f_iadd (M := mL_law) 1376 dL_law_1375 rfl ?_
    refine e_iaf (M := mL_law) (w := Lw) (f := xs) (j := (7 * N) + (1)) dL_law_1376 (x_kk rfl) rfl (ix_add rfl kn_1) (by omega) (by omega) ?_
    refine f_aload_n (M := mL_law) 1378 dL_law_1377 rfl rfl ?_
    refine e_cS (M := mL_law) [_] (c + 2) (k + 12) dL_law_1378 pa_10230 cc_10230 rfl rfl rfl rfl rfl (show c + 2 ≤ 601024 by omega) (show k + 12 ≤ 7293034 by omega) rfl (h1) rfl ?_
    refine f_istore (M := mL_law) (ls' := [_, _, _, _, _, _, _, _]) 1383 dL_law_1381 rfl rfl rfl ?_
    refine f_aload_n (M := mL_law) 1384 dL_law_1383 rfl rfl ?_
    refine f_aload_n (M := mL_law) 1385 dL_law_1384 rfl rfl ?_
    refine f_iload (M := mL_law) 1387 dL_law_1385 rfl rfl ?_
    refine f_iconst (M := mL_law) 1388 dL_law_1387 ki_1 rfl ?_
    refine f_iadd (M := mL_law) 1389 dL_law_1388 rfl ?_
    refine e_iaf (M := mL_law) (w := Lw) (f := xs) (j := (7 * N) + (1)) dL_law_1389 (x_kk rfl) rfl (ix_add rfl kn_1) (by omega) (by omega) ?_
    refine e_cV (M := mL_law) [_] (c + 2) (k + 12) dL_law_1390 pa_10232 pb_10232 cc_10232 rfl rfl rfl rfl rfl (show c + 2 ≤ 601024 by omega) (show k + 12 ≤ 7293034 by omega) rfl (h2) rfl ?_
    refine f_istore (M := mL_law) (ls' := [_, _, _, _, _, _, _, _]) 1395 dL_law_1393 rfl rfl rfl ?_
    refine f_aload_n (M := mL_law) 1396 dL_law_1395 rfl rfl ?_
    refine e_cV (M := mL_law) [_] (c + 2) (k + 12) dL_law_1396 pa_10163 pb_10163 cc_10163 rfl rfl rfl rfl rfl (show c + 2 ≤ 601024 by omega) (show k + 12 ≤ 7293034 by omega) rfl (c_X9_thrown) rfl ?_
    refine f_iload (M := mL_law) 1401 dL_law_1399 rfl rfl ?_
    refine e_icmp_eqT (M := mL_law) 1406 dL_law_1401 rfl ht ?_
    refine f_iload (M := mL_law) 1408 dL_law_1406 rfl rfl ?_
    refine e_if_neF (M := mL_law) 1423 dL_law_1408 rfl (fun q => q z) ?_
    refine f_aload_n (M := mL_law) 1412 dL_law_1411 rfl rfl ?_
    refine f_iconst (M := mL_law) 1413 dL_law_1412 ki_0 rfl ?_
    refine e_lld (M := mL_law) (w := 1) (j := 0) dL_law_1413 (x_kk rfl) rfl kn_0 (by omega) (by omega) ?_
    refine f_iload (M := mL_law) 1416 dL_law_1414 rfl rfl ?_
    refine f_i2l (M := mL_law) 1417 dL_law_1416 rfl ?_
    refine f_lcmp (M := mL_law) 1418 dL_law_1417 rfl ?_
    refine e_if_eqT (M := mL_law) 1423 dL_law_1418 rfl (lc_eq.mpr (hv z)) ?_
    refine f_goto (M := mL_law) 2888 dL_law_1423 rfl ?_
    refine f_iinc (M := mL_law) (ls' := [_, _, _, _, _, _, _, _]) 2891 dL_law_2888 ki_7 rfl rfl rfl rfl ?_
    refine f_goto (M := mL_law) 23 dL_law_2891 rfl ?_
    rw [show Int32.ofNat (7 * N) + 7 = Int32.ofNat (7 * (N + 1)) from ix_add rfl kn_7]; exact hr
  · refine ⟨I2, L2, R1, some (.int k0), some (.int v), w7, c + 2, k + 12, T2, by omega, by omega, fun r hr => ?_⟩
    refine e_tsI (j := 19) (off := 1330) 1370 dL_law_40 rfl (by rw [hx]; decide) (by decide) rfl rfl ?_
    refine f_aload_n (M := mL_law) 1371 dL_law_1370 rfl rfl ?_
    refine f_aload_n (M := mL_law) 1372 dL_law_1371 rfl rfl ?_
    refine f_iload (M := mL_law) 1374 dL_law_1372 rfl rfl ?_
    refine f_iconst (M := mL_law) 1375 dL_law_1374 ki_1 rfl ?_
    refine f_iadd (M := mL_law) 1376 dL_law_1375 rfl ?_
    refine e_iaf (M := mL_law) (w := Lw) (f := xs) (j := (7 * N) + (1)) dL_law_1376 (x_kk rfl) rfl (ix_add rfl kn_1) (by omega) (by omega) ?_
    refine f_aload_n (M := mL_law) 1378 dL_law_1377 rfl rfl ?_
    refine e_cS (M := mL_law) [_] (c + 2) (k + 12) dL_law_1378 pa_10230 cc_10230 rfl rfl rfl rfl rfl (show c + 2 ≤ 601024 by omega) (show k + 12 ≤ 7293034 by omega) rfl (h1) rfl ?_
    refine f_istore (M := mL_law) (ls' := [_, _, _, _, _, _, _, _]) 1383 dL_law_1381 rfl rfl rfl ?_
    refine f_aload_n (M := mL_law) 1384 dL_law_1383 rfl rfl ?_
    refine f_aload_n (M := mL_law) 1385 dL_law_1384 rfl rfl ?_
    refine f_iload (M := mL_law) 1387 dL_law_1385 rfl rfl ?_
    refine f_iconst (M := mL_law) 1388 dL_law_1387 ki_1 rfl ?_
    refine f_iadd (M := mL_law) 1389 dL_law_1388 rfl ?_
    refine e_iaf (M := mL_law) (w := Lw) (f := xs) (j := (7 * N) + (1)) dL_law_1389 (x_kk rfl) rfl (ix_add rfl kn_1) (by omega) (by omega) ?_
    refine e_cV (M := mL_law) [_] (c + 2) (k + 12) dL_law_1390 pa_10232 pb_10232 cc_10232 rfl rfl rfl rfl rfl (show c + 2 ≤ 601024 by omega) (show k + 12 ≤ 7293034 by omega) rfl (h2) rfl ?_
    refine f_istore (M := mL_law) (ls' := [_, _, _, _, _, _, _, _]) 1395 dL_law_1393 rfl rfl rfl ?_
    refine f_aload_n (M := mL_law) 1396 dL_law_1395 rfl rfl ?_
    refine e_cV (M := mL_law) [_] (c + 2) (k + 12) dL_law_1396 pa_10163 pb_10163 cc_10163 rfl rfl rfl rfl rfl (show c + 2 ≤ 601024 by omega) (show k + 12 ≤ 7293034 by omega) rfl (c_X9_thrown) rfl ?_
    refine f_iload (M := mL_law) 1401 dL_law_1399 rfl rfl ?_
    refine e_icmp_eqT (M := mL_law) 1406 dL_law_1401 rfl ht ?_
    refine f_iload (M := mL_law) 1408 dL_law_1406 rfl rfl ?_
    refine e_if_neT (M := mL_law) 1423 dL_law_1408 rfl z ?_
    refine f_goto (M := mL_law) 2888 dL_law_1423 rfl ?_
    refine f_iinc (M := mL_law) (ls' := [_, _, _, _, _, _, _, _]) 2891 dL_law_2888 ki_7 rfl rfl rfl rfl ?_
    refine f_goto (M := mL_law) 23 dL_law_2891 rfl ?_
    rw [show Int32.ofNat (7 * N) + 7 = Int32.ofNat (7 * (N + 1)) from ix_add rfl kn_7]; exact hr
theorem lk_20 (hlen : 7 * N + 7 ≤ Lw) (hLw : Lw ≤ 3584) (T : y_T N I L R) (hN : N < 512) (hc : c ≤ 233 + 4 * N) (hk : k ≤ 14655 + 24 * N) (hx : xs (7 * N) &&& 63 = Int32.ofNat 20) : y_Nx Lw xs N I L R c k w5 w6 w7 := by
  have sm : y_OL N (Lw, xs) mL_value [.ref 0, .int (xs (7 * N + 1)), .ref 232] mX9_value [.ref 225, .int (xs (7 * N + 1))] I L R := sim_value (X := (Lw, xs)) T
  obtain ⟨k0, I1, L1, R1, v, I2, L2, h1, h2, ht, hv, T2⟩ := sm
  by_cases z : k0 = 0
  · refine ⟨I2, L2, R1, some (.int k0), some (.long v), none, c + 2, k + 12, T2, by omega, by omega, fun r hr => ?_⟩
    refine e_tsI (j := 20) (off := 1386) 1426 dL_law_40 rfl (by rw [hx]; decide) (by decide) rfl rfl ?_
    refine f_aload_n (M := mL_law) 1427 dL_law_1426 rfl rfl ?_
    refine f_aload_n (M := mL_law) 1428 dL_law_1427 rfl rfl ?_
    refine f_iload (M := mL_law) 1430 dL_law_1428 rfl rfl ?_
    refine f_iconst (M := mL_law) 1431 dL_law_1430 ki_1 rfl ?_
    refine f_iadd (M := mL_law) 1432 dL_law_1431 rfl ?_
    refine e_iaf (M := mL_law) (w := Lw) (f := xs) (j := (7 * N) + (1)) dL_law_1432 (x_kk rfl) rfl (ix_add rfl kn_1) (by omega) (by omega) ?_
    refine f_aload_n (M := mL_law) 1434 dL_law_1433 rfl rfl ?_
    refine e_cS (M := mL_law) [_] (c + 2) (k + 12) dL_law_1434 pa_10233 cc_10233 rfl rfl rfl rfl rfl (show c + 2 ≤ 601024 by omega) (show k + 12 ≤ 7293034 by omega) rfl (h1) rfl ?_
    refine f_istore (M := mL_law) (ls' := [_, _, _, _, _, _, _, _]) 1439 dL_law_1437 rfl rfl rfl ?_
    refine f_aload_n (M := mL_law) 1440 dL_law_1439 rfl rfl ?_
    refine f_aload_n (M := mL_law) 1441 dL_law_1440 rfl rfl ?_
    refine f_iload (M := mL_law) 1443 dL_law_1441 rfl rfl ?_
    refine f_iconst (M := mL_law) 1444 dL_law_1443 ki_1 rfl ?_
    refine f_iadd (M := mL_law) 1445 dL_law_1444 rfl ?_
    refine e_iaf (M := mL_law) (w := Lw) (f := xs) (j := (7 * N) + (1)) dL_law_1445 (x_kk rfl) rfl (ix_add rfl kn_1) (by omega) (by omega) ?_
    refine e_cV (M := mL_law) [_] (c + 2) (k + 12) dL_law_1446 pa_10235 pb_10235 cc_10235 rfl rfl rfl rfl rfl (show c + 2 ≤ 601024 by omega) (show k + 12 ≤ 7293034 by omega) rfl (h2) rfl ?_
    refine f_lstore (M := mL_law) (ls' := [_, _, _, _, _, _, _, _]) 1451 dL_law_1449 rfl rfl rfl ?_
    refine f_aload_n (M := mL_law) 1452 dL_law_1451 rfl rfl ?_
    refine e_cV (M := mL_law) [_] (c + 2) (k + 12) dL_law_1452 pa_10163 pb_10163 cc_10163 rfl rfl rfl rfl rfl (show c + 2 ≤ 601024 by omega) (show k + 12 ≤ 7293034 by omega) rfl (c_X9_thrown) rfl ?_
    refine f_iload (M := mL_law) 1457 dL_law_1455 rfl rfl ?_
    refine e_icmp_eqT (M := mL_law) 1462 dL_law_1457 rfl ht ?_
    refine f_iload (M := mL_law) 1464 dL_law_1462 rfl rfl ?_
    refine e_if_neF (M := mL_law) 1478 dL_law_1464 rfl (fun q => q z) ?_
    refine f_aload_n (M := mL_law) 1468 dL_law_1467 rfl rfl ?_
    refine f_iconst (M := mL_law) 1469 dL_law_1468 ki_0 rfl ?_
    refine e_lld (M := mL_law) (w := 1) (j := 0) dL_law_1469 (x_kk rfl) rfl kn_0 (by omega) (by omega) ?_
    refine f_lload (M := mL_law) 1472 dL_law_1470 rfl rfl ?_
    refine f_lcmp (M := mL_law) 1473 dL_law_1472 rfl ?_
    refine e_if_eqT (M := mL_law) 1478 dL_law_1473 rfl (lc_eq.mpr (hv z)) ?_
    refine f_goto (M := mL_law) 2888 dL_law_1478 rfl ?_
    refine f_iinc (M := mL_law) (ls' := [_, _, _, _, _, _, _, _]) 2891 dL_law_2888 ki_7 rfl rfl rfl rfl ?_
    refine f_goto (M := mL_law) 23 dL_law_2891 rfl ?_
    rw [show Int32.ofNat (7 * N) + 7 = Int32.ofNat (7 * (N + 1)) from ix_add rfl kn_7]; exact hr
  · refine ⟨I2, L2, R1, some (.int k0), some (.long v), none, c + 2, k + 12, T2, by omega, by omega, fun r hr => ?_⟩
    refine e_tsI (j := 20) (off := 1386) 1426 dL_law_40 rfl (by rw [hx]; decide) (by decide) rfl rfl ?_
    refine f_aload_n (M := mL_law) 1427 dL_law_1426 rfl rfl ?_
    refine f_aload_n (M := mL_law) 1428 dL_law_1427 rfl rfl ?_
    refine f_iload (M := mL_law) 1430 dL_law_1428 rfl rfl ?_
    refine f_iconst (M := mL_law) 1431 dL_law_1430 ki_1 rfl ?_
    refine f_iadd (M := mL_law) 1432 dL_law_1431 rfl ?_
    refine e_iaf (M := mL_law) (w := Lw) (f := xs) (j := (7 * N) + (1)) dL_law_1432 (x_kk rfl) rfl (ix_add rfl kn_1) (by omega) (by omega) ?_
    refine f_aload_n (M := mL_law) 1434 dL_law_1433 rfl rfl ?_
    refine e_cS (M := mL_law) [_] (c + 2) (k + 12) dL_law_1434 pa_10233 cc_10233 rfl rfl rfl rfl rfl (show c + 2 ≤ 601024 by omega) (show k + 12 ≤ 7293034 by omega) rfl (h1) rfl ?_
    refine f_istore (M := mL_law) (ls' := [_, _, _, _, _, _, _, _]) 1439 dL_law_1437 rfl rfl rfl ?_
    refine f_aload_n (M := mL_law) 1440 dL_law_1439 rfl rfl ?_
    refine f_aload_n (M := mL_law) 1441 dL_law_1440 rfl rfl ?_
    refine f_iload (M := mL_law) 1443 dL_law_1441 rfl rfl ?_
    refine f_iconst (M := mL_law) 1444 dL_law_1443 ki_1 rfl ?_
    refine f_iadd (M := mL_law) 1445 dL_law_1444 rfl ?_
    refine e_iaf (M := mL_law) (w := Lw) (f := xs) (j := (7 * N) + (1)) dL_law_1445 (x_kk rfl) rfl (ix_add rfl kn_1) (by omega) (by omega) ?_
    refine e_cV (M := mL_law) [_] (c + 2) (k + 12) dL_law_1446 pa_10235 pb_10235 cc_10235 rfl rfl rfl rfl rfl (show c + 2 ≤ 601024 by omega) (show k + 12 ≤ 7293034 by omega) rfl (h2) rfl ?_
    refine f_lstore (M := mL_law) (ls' := [_, _, _, _, _, _, _, _]) 1451 dL_law_1449 rfl rfl rfl ?_
    refine f_aload_n (M := mL_law) 1452 dL_law_1451 rfl rfl ?_
    refine e_cV (M := mL_law) [_] (c + 2) (k + 12) dL_law_1452 pa_10163 pb_10163 cc_10163 rfl rfl rfl rfl rfl (show c + 2 ≤ 601024 by omega) (show k + 12 ≤ 7293034 by omega) rfl (c_X9_thrown) rfl ?_
    refine f_iload (M := mL_law) 1457 dL_law_1455 rfl rfl ?_
    refine e_icmp_eqT (M := mL_law) 1462 dL_law_1457 rfl ht ?_
    refine f_iload (M := mL_law) 1464 dL_law_1462 rfl rfl ?_
    refine e_if_neT (M := mL_law) 1478 dL_law_1464 rfl z ?_
    refine f_goto (M := mL_law) 2888 dL_law_1478 rfl ?_
    refine f_iinc (M := mL_law) (ls' := [_, _, _, _, _, _, _, _]) 2891 dL_law_2888 ki_7 rfl rfl rfl rfl ?_
    refine f_goto (M := mL_law) 23 dL_law_2891 rfl ?_
    rw [show Int32.ofNat (7 * N) + 7 = Int32.ofNat (7 * (N + 1)) from ix_add rfl kn_7]; exact hr
theorem lk_21 (hlen : 7 * N + 7 ≤ Lw) (hLw : Lw ≤ 3584) (T : y_T N I L R) (hN : N < 512) (hc : c ≤ 233 + 4 * N) (hk : k ≤ 14655 + 24 * N) (hx : xs (7 * N) &&& 63 = Int32.ofNat 21) : y_Nx Lw xs N I L R c k w5 w6 w7 := by
  have sm : y_OI N (Lw, xs) mL_rank [.ref 0, .int (xs (7 * N + 1)), .ref 232] mX9_rank [.ref 225, .int (xs (7 * N + 1))] I L R := sim_rank (X := (Lw, xs)) T
  obtain ⟨k0, I1, L1, R1, v, I2, L2, h1, h2, ht, hv, T2⟩ := sm
  by_cases z : k0 = 0
  · refine ⟨I2, L2, R1, some (.int k0), some (.int v), w7, c + 2, k + 12, T2, by omega, by omega, fun r hr => ?_⟩
    refine e_tsI (j := 21) (off := 1441) 1481 dL_law_40 rfl (by rw [hx]; decide) (by decide) rfl rfl ?_
    refine f_aload_n (M := mL_law) 1482 dL_law_1481 rfl rfl ?_
    refine f_aload_n (M := mL_law) 1483 dL_law_1482 rfl rfl ?_
    refine f_iload (M := mL_law) 1485 dL_law_1483 rfl rfl ?_
    refine f_iconst (M := mL_law) 1486 dL_law_1485 ki_1 rfl ?_
    refine f_iadd (M := mL_law) 1487 dL_law_1486 rfl ?_
    refine e_iaf (M := mL_law) (w := Lw) (f := xs) (j := (7 * N) + (1)) dL_law_1487 (x_kk rfl) rfl (ix_add rfl kn_1) (by omega) (by omega) ?_
    refine f_aload_n (M := mL_law) 1489 dL_law_1488 rfl rfl ?_
    refine e_cS (M := mL_law) [_] (c + 2) (k + 12) dL_law_1489 pa_10236 cc_10236 rfl rfl rfl rfl rfl (show c + 2 ≤ 601024 by omega) (show k + 12 ≤ 7293034 by omega) rfl (h1) rfl ?_
    refine f_istore (M := mL_law) (ls' := [_, _, _, _, _, _, _, _]) 1494 dL_law_1492 rfl rfl rfl ?_
    refine f_aload_n (M := mL_law) 1495 dL_law_1494 rfl rfl ?_
    refine f_aload_n (M := mL_law) 1496 dL_law_1495 rfl rfl ?_
    refine f_iload (M := mL_law) 1498 dL_law_1496 rfl rfl ?_
    refine f_iconst (M := mL_law) 1499 dL_law_1498 ki_1 rfl ?_
    refine f_iadd (M := mL_law) 1500 dL_law_1499 rfl ?_
    refine e_iaf (M := mL_law) (w := Lw) (f := xs) (j := (7 * N) + (1)) dL_law_1500 (x_kk rfl) rfl (ix_add rfl kn_1) (by omega) (by omega) ?_
    refine e_cV (M := mL_law) [_] (c + 2) (k + 12) dL_law_1501 pa_10238 pb_10238 cc_10238 rfl rfl rfl rfl rfl (show c + 2 ≤ 601024 by omega) (show k + 12 ≤ 7293034 by omega) rfl (h2) rfl ?_
    refine f_istore (M := mL_law) (ls' := [_, _, _, _, _, _, _, _]) 1506 dL_law_1504 rfl rfl rfl ?_
    refine f_aload_n (M := mL_law) 1507 dL_law_1506 rfl rfl ?_
    refine e_cV (M := mL_law) [_] (c + 2) (k + 12) dL_law_1507 pa_10163 pb_10163 cc_10163 rfl rfl rfl rfl rfl (show c + 2 ≤ 601024 by omega) (show k + 12 ≤ 7293034 by omega) rfl (c_X9_thrown) rfl ?_
    refine f_iload (M := mL_law) 1512 dL_law_1510 rfl rfl ?_
    refine e_icmp_eqT (M := mL_law) 1517 dL_law_1512 rfl ht ?_
    refine f_iload (M := mL_law) 1519 dL_law_1517 rfl rfl ?_
    refine e_if_neF (M := mL_law) 1534 dL_law_1519 rfl (fun q => q z) ?_
    refine f_aload_n (M := mL_law) 1523 dL_law_1522 rfl rfl ?_
    refine f_iconst (M := mL_law) 1524 dL_law_1523 ki_0 rfl ?_
    refine e_lld (M := mL_law) (w := 1) (j := 0) dL_law_1524 (x_kk rfl) rfl kn_0 (by omega) (by omega) ?_
    refine f_iload (M := mL_law) 1527 dL_law_1525 rfl rfl ?_
    refine f_i2l (M := mL_law) 1528 dL_law_1527 rfl ?_
    refine f_lcmp (M := mL_law) 1529 dL_law_1528 rfl ?_
    refine e_if_eqT (M := mL_law) 1534 dL_law_1529 rfl (lc_eq.mpr (hv z)) ?_
    refine f_goto (M := mL_law) 2888 dL_law_1534 rfl ?_
    refine f_iinc (M := mL_law) (ls' := [_, _, _, _, _, _, _, _]) 2891 dL_law_2888 ki_7 rfl rfl rfl rfl ?_
    refine f_goto (M := mL_law) 23 dL_law_2891 rfl ?_
    rw [show Int32.ofNat (7 * N) + 7 = Int32.ofNat (7 * (N + 1)) from ix_add rfl kn_7]; exact hr
  · refine ⟨I2, L2, R1, some (.int k0), some (.int v), w7, c + 2, k + 12, T2, by omega, by omega, fun r hr => ?_⟩
    refine e_tsI (j := 21) (off := 1441) 1481 dL_law_40 rfl (by rw [hx]; decide) (by decide) rfl rfl ?_
    refine f_aload_n (M := mL_law) 1482 dL_law_1481 rfl rfl ?_
    refine f_aload_n (M := mL_law) 1483 dL_law_1482 rfl rfl ?_
    refine f_iload (M := mL_law) 1485 dL_law_1483 rfl rfl ?_
    refine f_iconst (M := mL_law) 1486 dL_law_1485 ki_1 rfl ?_
    refine f_iadd (M := mL_law) 1487 dL_law_1486 rfl ?_
    refine e_iaf (M := mL_law) (w := Lw) (f := xs) (j := (7 * N) + (1)) dL_law_1487 (x_kk rfl) rfl (ix_add rfl kn_1) (by omega) (by omega) ?_
    refine f_aload_n (M := mL_law) 1489 dL_law_1488 rfl rfl ?_
    refine e_cS (M := mL_law) [_] (c + 2) (k + 12) dL_law_1489 pa_10236 cc_10236 rfl rfl rfl rfl rfl (show c + 2 ≤ 601024 by omega) (show k + 12 ≤ 7293034 by omega) rfl (h1) rfl ?_
    refine f_istore (M := mL_law) (ls' := [_, _, _, _, _, _, _, _]) 1494 dL_law_1492 rfl rfl rfl ?_
    refine f_aload_n (M := mL_law) 1495 dL_law_1494 rfl rfl ?_
    refine f_aload_n (M := mL_law) 1496 dL_law_1495 rfl rfl ?_
    refine f_iload (M := mL_law) 1498 dL_law_1496 rfl rfl ?_
    refine f_iconst (M := mL_law) 1499 dL_law_1498 ki_1 rfl ?_
    refine f_iadd (M := mL_law) 1500 dL_law_1499 rfl ?_
    refine e_iaf (M := mL_law) (w := Lw) (f := xs) (j := (7 * N) + (1)) dL_law_1500 (x_kk rfl) rfl (ix_add rfl kn_1) (by omega) (by omega) ?_
    refine e_cV (M := mL_law) [_] (c + 2) (k + 12) dL_law_1501 pa_10238 pb_10238 cc_10238 rfl rfl rfl rfl rfl (show c + 2 ≤ 601024 by omega) (show k + 12 ≤ 7293034 by omega) rfl (h2) rfl ?_
    refine f_istore (M := mL_law) (ls' := [_, _, _, _, _, _, _, _]) 1506 dL_law_1504 rfl rfl rfl ?_
    refine f_aload_n (M := mL_law) 1507 dL_law_1506 rfl rfl ?_
    refine e_cV (M := mL_law) [_] (c + 2) (k + 12) dL_law_1507 pa_10163 pb_10163 cc_10163 rfl rfl rfl rfl rfl (show c + 2 ≤ 601024 by omega) (show k + 12 ≤ 7293034 by omega) rfl (c_X9_thrown) rfl ?_
    refine f_iload (M := mL_law) 1512 dL_law_1510 rfl rfl ?_
    refine e_icmp_eqT (M := mL_law) 1517 dL_law_1512 rfl ht ?_
    refine f_iload (M := mL_law) 1519 dL_law_1517 rfl rfl ?_
    refine e_if_neT (M := mL_law) 1534 dL_law_1519 rfl z ?_
    refine f_goto (M := mL_law) 2888 dL_law_1534 rfl ?_
    refine f_iinc (M := mL_law) (ls' := [_, _, _, _, _, _, _, _]) 2891 dL_law_2888 ki_7 rfl rfl rfl rfl ?_
    refine f_goto (M := mL_law) 23 dL_law_2891 rfl ?_
    rw [show Int32.ofNat (7 * N) + 7 = Int32.ofNat (7 * (N + 1)) from ix_add rfl kn_7]; exact hr
theorem lk_22 (hlen : 7 * N + 7 ≤ Lw) (hLw : Lw ≤ 3584) (T : y_T N I L R) (hN : N < 512) (hc : c ≤ 233 + 4 * N) (hk : k ≤ 14655 + 24 * N) (hx : xs (7 * N) &&& 63 = Int32.ofNat 22) : y_Nx Lw xs N I L R c k w5 w6 w7 := by
  have sm : y_OI N (Lw, xs) mL_turningPoint [.ref 0, .int (xs (7 * N + 1)), .ref 232] mX9_turningPoint [.ref 225, .int (xs (7 * N + 1))] I L R := sim_turningPoint (X := (Lw, xs)) T
  obtain ⟨k0, I1, L1, R1, v, I2, L2, h1, h2, ht, hv, T2⟩ := sm
  by_cases z : k0 = 0
  · refine ⟨I2, L2, R1, some (.int k0), some (.int v), w7, c + 4, k + 24, T2, by omega, by omega, fun r hr => ?_⟩
    refine e_tsI (j := 22) (off := 1497) 1537 dL_law_40 rfl (by rw [hx]; decide) (by decide) rfl rfl ?_
    refine f_aload_n (M := mL_law) 1538 dL_law_1537 rfl rfl ?_
    refine f_aload_n (M := mL_law) 1539 dL_law_1538 rfl rfl ?_
    refine f_iload (M := mL_law) 1541 dL_law_1539 rfl rfl ?_
    refine f_iconst (M := mL_law) 1542 dL_law_1541 ki_1 rfl ?_
    refine f_iadd (M := mL_law) 1543 dL_law_1542 rfl ?_
    refine e_iaf (M := mL_law) (w := Lw) (f := xs) (j := (7 * N) + (1)) dL_law_1543 (x_kk rfl) rfl (ix_add rfl kn_1) (by omega) (by omega) ?_
    refine f_aload_n (M := mL_law) 1545 dL_law_1544 rfl rfl ?_
    refine e_cS (M := mL_law) [_] (c + 4) (k + 24) dL_law_1545 pa_10239 cc_10239 rfl rfl rfl rfl rfl (show c + 4 ≤ 601024 by omega) (show k + 24 ≤ 7293034 by omega) rfl (h1) rfl ?_
    refine f_istore (M := mL_law) (ls' := [_, _, _, _, _, _, _, _]) 1550 dL_law_1548 rfl rfl rfl ?_
    refine f_aload_n (M := mL_law) 1551 dL_law_1550 rfl rfl ?_
    refine f_aload_n (M := mL_law) 1552 dL_law_1551 rfl rfl ?_
    refine f_iload (M := mL_law) 1554 dL_law_1552 rfl rfl ?_
    refine f_iconst (M := mL_law) 1555 dL_law_1554 ki_1 rfl ?_
    refine f_iadd (M := mL_law) 1556 dL_law_1555 rfl ?_
    refine e_iaf (M := mL_law) (w := Lw) (f := xs) (j := (7 * N) + (1)) dL_law_1556 (x_kk rfl) rfl (ix_add rfl kn_1) (by omega) (by omega) ?_
    refine e_cV (M := mL_law) [_] (c + 4) (k + 24) dL_law_1557 pa_10241 pb_10241 cc_10241 rfl rfl rfl rfl rfl (show c + 4 ≤ 601024 by omega) (show k + 24 ≤ 7293034 by omega) rfl (h2) rfl ?_
    refine f_istore (M := mL_law) (ls' := [_, _, _, _, _, _, _, _]) 1562 dL_law_1560 rfl rfl rfl ?_
    refine f_aload_n (M := mL_law) 1563 dL_law_1562 rfl rfl ?_
    refine e_cV (M := mL_law) [_] (c + 4) (k + 24) dL_law_1563 pa_10163 pb_10163 cc_10163 rfl rfl rfl rfl rfl (show c + 4 ≤ 601024 by omega) (show k + 24 ≤ 7293034 by omega) rfl (c_X9_thrown) rfl ?_
    refine f_iload (M := mL_law) 1568 dL_law_1566 rfl rfl ?_
    refine e_icmp_eqT (M := mL_law) 1573 dL_law_1568 rfl ht ?_
    refine f_iload (M := mL_law) 1575 dL_law_1573 rfl rfl ?_
    refine e_if_neF (M := mL_law) 1590 dL_law_1575 rfl (fun q => q z) ?_
    refine f_aload_n (M := mL_law) 1579 dL_law_1578 rfl rfl ?_
    refine f_iconst (M := mL_law) 1580 dL_law_1579 ki_0 rfl ?_
    refine e_lld (M := mL_law) (w := 1) (j := 0) dL_law_1580 (x_kk rfl) rfl kn_0 (by omega) (by omega) ?_
    refine f_iload (M := mL_law) 1583 dL_law_1581 rfl rfl ?_
    refine f_i2l (M := mL_law) 1584 dL_law_1583 rfl ?_
    refine f_lcmp (M := mL_law) 1585 dL_law_1584 rfl ?_
    refine e_if_eqT (M := mL_law) 1590 dL_law_1585 rfl (lc_eq.mpr (hv z)) ?_
    refine f_goto (M := mL_law) 2888 dL_law_1590 rfl ?_
    refine f_iinc (M := mL_law) (ls' := [_, _, _, _, _, _, _, _]) 2891 dL_law_2888 ki_7 rfl rfl rfl rfl ?_
    refine f_goto (M := mL_law) 23 dL_law_2891 rfl ?_
    rw [show Int32.ofNat (7 * N) + 7 = Int32.ofNat (7 * (N + 1)) from ix_add rfl kn_7]; exact hr
  · refine ⟨I2, L2, R1, some (.int k0), some (.int v), w7, c + 4, k + 24, T2, by omega, by omega, fun r hr => ?_⟩
    refine e_tsI (j := 22) (off := 1497) 1537 dL_law_40 rfl (by rw [hx]; decide) (by decide) rfl rfl ?_
    refine f_aload_n (M := mL_law) 1538 dL_law_1537 rfl rfl ?_
    refine f_aload_n (M := mL_law) 1539 dL_law_1538 rfl rfl ?_
    refine f_iload (M := mL_law) 1541 dL_law_1539 rfl rfl ?_
    refine f_iconst (M := mL_law) 1542 dL_law_1541 ki_1 rfl ?_
    refine f_iadd (M := mL_law) 1543 dL_law_1542 rfl ?_
    refine e_iaf (M := mL_law) (w := Lw) (f := xs) (j := (7 * N) + (1)) dL_law_1543 (x_kk rfl) rfl (ix_add rfl kn_1) (by omega) (by omega) ?_
    refine f_aload_n (M := mL_law) 1545 dL_law_1544 rfl rfl ?_
    refine e_cS (M := mL_law) [_] (c + 4) (k + 24) dL_law_1545 pa_10239 cc_10239 rfl rfl rfl rfl rfl (show c + 4 ≤ 601024 by omega) (show k + 24 ≤ 7293034 by omega) rfl (h1) rfl ?_
    refine f_istore (M := mL_law) (ls' := [_, _, _, _, _, _, _, _]) 1550 dL_law_1548 rfl rfl rfl ?_
    refine f_aload_n (M := mL_law) 1551 dL_law_1550 rfl rfl ?_
    refine f_aload_n (M := mL_law) 1552 dL_law_1551 rfl rfl ?_
    refine f_iload (M := mL_law) 1554 dL_law_1552 rfl rfl ?_
    refine f_iconst (M := mL_law) 1555 dL_law_1554 ki_1 rfl ?_
    refine f_iadd (M := mL_law) 1556 dL_law_1555 rfl ?_
    refine e_iaf (M := mL_law) (w := Lw) (f := xs) (j := (7 * N) + (1)) dL_law_1556 (x_kk rfl) rfl (ix_add rfl kn_1) (by omega) (by omega) ?_
    refine e_cV (M := mL_law) [_] (c + 4) (k + 24) dL_law_1557 pa_10241 pb_10241 cc_10241 rfl rfl rfl rfl rfl (show c + 4 ≤ 601024 by omega) (show k + 24 ≤ 7293034 by omega) rfl (h2) rfl ?_
    refine f_istore (M := mL_law) (ls' := [_, _, _, _, _, _, _, _]) 1562 dL_law_1560 rfl rfl rfl ?_
    refine f_aload_n (M := mL_law) 1563 dL_law_1562 rfl rfl ?_
    refine e_cV (M := mL_law) [_] (c + 4) (k + 24) dL_law_1563 pa_10163 pb_10163 cc_10163 rfl rfl rfl rfl rfl (show c + 4 ≤ 601024 by omega) (show k + 24 ≤ 7293034 by omega) rfl (c_X9_thrown) rfl ?_
    refine f_iload (M := mL_law) 1568 dL_law_1566 rfl rfl ?_
    refine e_icmp_eqT (M := mL_law) 1573 dL_law_1568 rfl ht ?_
    refine f_iload (M := mL_law) 1575 dL_law_1573 rfl rfl ?_
    refine e_if_neT (M := mL_law) 1590 dL_law_1575 rfl z ?_
    refine f_goto (M := mL_law) 2888 dL_law_1590 rfl ?_
    refine f_iinc (M := mL_law) (ls' := [_, _, _, _, _, _, _, _]) 2891 dL_law_2888 ki_7 rfl rfl rfl rfl ?_
    refine f_goto (M := mL_law) 23 dL_law_2891 rfl ?_
    rw [show Int32.ofNat (7 * N) + 7 = Int32.ofNat (7 * (N + 1)) from ix_add rfl kn_7]; exact hr
theorem lk_23 (hlen : 7 * N + 7 ≤ Lw) (hLw : Lw ≤ 3584) (T : y_T N I L R) (hN : N < 512) (hc : c ≤ 233 + 4 * N) (hk : k ≤ 14655 + 24 * N) (hx : xs (7 * N) &&& 63 = Int32.ofNat 23) : y_Nx Lw xs N I L R c k w5 w6 w7 := by
  have sm : y_OI N (Lw, xs) mL_leastWinningRate [.ref 0, .int (xs (7 * N + 1)), .int (xs (7 * N + 2)), .ref 232] mX9_leastWinningRate [.ref 225, .int (xs (7 * N + 1)), .int (xs (7 * N + 2))] I L R := sim_leastWinningRate (X := (Lw, xs)) T
  obtain ⟨k0, I1, L1, R1, v, I2, L2, h1, h2, ht, hv, T2⟩ := sm
  by_cases z : k0 = 0
  · refine ⟨I2, L2, R1, some (.int k0), some (.int v), w7, c + 3, k + 18, T2, by omega, by omega, fun r hr => ?_⟩
    refine e_tsI (j := 23) (off := 1553) 1593 dL_law_40 rfl (by rw [hx]; decide) (by decide) rfl rfl ?_
    refine f_aload_n (M := mL_law) 1594 dL_law_1593 rfl rfl ?_
    refine f_aload_n (M := mL_law) 1595 dL_law_1594 rfl rfl ?_
    refine f_iload (M := mL_law) 1597 dL_law_1595 rfl rfl ?_
    refine f_iconst (M := mL_law) 1598 dL_law_1597 ki_1 rfl ?_
    refine f_iadd (M := mL_law) 1599 dL_law_1598 rfl ?_
    refine e_iaf (M := mL_law) (w := Lw) (f := xs) (j := (7 * N) + (1)) dL_law_1599 (x_kk rfl) rfl (ix_add rfl kn_1) (by omega) (by omega) ?_
    refine f_aload_n (M := mL_law) 1601 dL_law_1600 rfl rfl ?_
    refine f_iload (M := mL_law) 1603 dL_law_1601 rfl rfl ?_
    refine f_iconst (M := mL_law) 1604 dL_law_1603 ki_2 rfl ?_
    refine f_iadd (M := mL_law) 1605 dL_law_1604 rfl ?_
    refine e_iaf (M := mL_law) (w := Lw) (f := xs) (j := (7 * N) + (2)) dL_law_1605 (x_kk rfl) rfl (ix_add rfl kn_2) (by omega) (by omega) ?_
    refine f_aload_n (M := mL_law) 1607 dL_law_1606 rfl rfl ?_
    refine e_cS (M := mL_law) [_] (c + 3) (k + 18) dL_law_1607 pa_10242 cc_10242 rfl rfl rfl rfl rfl (show c + 3 ≤ 601024 by omega) (show k + 18 ≤ 7293034 by omega) rfl (h1) rfl ?_
    refine f_istore (M := mL_law) (ls' := [_, _, _, _, _, _, _, _]) 1612 dL_law_1610 rfl rfl rfl ?_
    refine f_aload_n (M := mL_law) 1613 dL_law_1612 rfl rfl ?_
    refine f_aload_n (M := mL_law) 1614 dL_law_1613 rfl rfl ?_
    refine f_iload (M := mL_law) 1616 dL_law_1614 rfl rfl ?_
    refine f_iconst (M := mL_law) 1617 dL_law_1616 ki_1 rfl ?_
    refine f_iadd (M := mL_law) 1618 dL_law_1617 rfl ?_
    refine e_iaf (M := mL_law) (w := Lw) (f := xs) (j := (7 * N) + (1)) dL_law_1618 (x_kk rfl) rfl (ix_add rfl kn_1) (by omega) (by omega) ?_
    refine f_aload_n (M := mL_law) 1620 dL_law_1619 rfl rfl ?_
    refine f_iload (M := mL_law) 1622 dL_law_1620 rfl rfl ?_
    refine f_iconst (M := mL_law) 1623 dL_law_1622 ki_2 rfl ?_
    refine f_iadd (M := mL_law) 1624 dL_law_1623 rfl ?_
    refine e_iaf (M := mL_law) (w := Lw) (f := xs) (j := (7 * N) + (2)) dL_law_1624 (x_kk rfl) rfl (ix_add rfl kn_2) (by omega) (by omega) ?_
    refine e_cV (M := mL_law) [_] (c + 3) (k + 18) dL_law_1625 pa_10244 pb_10244 cc_10244 rfl rfl rfl rfl rfl (show c + 3 ≤ 601024 by omega) (show k + 18 ≤ 7293034 by omega) rfl (h2) rfl ?_
    refine f_istore (M := mL_law) (ls' := [_, _, _, _, _, _, _, _]) 1630 dL_law_1628 rfl rfl rfl ?_
    refine f_aload_n (M := mL_law) 1631 dL_law_1630 rfl rfl ?_
    refine e_cV (M := mL_law) [_] (c + 3) (k + 18) dL_law_1631 pa_10163 pb_10163 cc_10163 rfl rfl rfl rfl rfl (show c + 3 ≤ 601024 by omega) (show k + 18 ≤ 7293034 by omega) rfl (c_X9_thrown) rfl ?_
    refine f_iload (M := mL_law) 1636 dL_law_1634 rfl rfl ?_
    refine e_icmp_eqT (M := mL_law) 1641 dL_law_1636 rfl ht ?_
    refine f_iload (M := mL_law) 1643 dL_law_1641 rfl rfl ?_
    refine e_if_neF (M := mL_law) 1658 dL_law_1643 rfl (fun q => q z) ?_
    refine f_aload_n (M := mL_law) 1647 dL_law_1646 rfl rfl ?_
    refine f_iconst (M := mL_law) 1648 dL_law_1647 ki_0 rfl ?_
    refine e_lld (M := mL_law) (w := 1) (j := 0) dL_law_1648 (x_kk rfl) rfl kn_0 (by omega) (by omega) ?_
    refine f_iload (M := mL_law) 1651 dL_law_1649 rfl rfl ?_
    refine f_i2l (M := mL_law) 1652 dL_law_1651 rfl ?_
    refine f_lcmp (M := mL_law) 1653 dL_law_1652 rfl ?_
    refine e_if_eqT (M := mL_law) 1658 dL_law_1653 rfl (lc_eq.mpr (hv z)) ?_
    refine f_goto (M := mL_law) 2888 dL_law_1658 rfl ?_
    refine f_iinc (M := mL_law) (ls' := [_, _, _, _, _, _, _, _]) 2891 dL_law_2888 ki_7 rfl rfl rfl rfl ?_
    refine f_goto (M := mL_law) 23 dL_law_2891 rfl ?_
    rw [show Int32.ofNat (7 * N) + 7 = Int32.ofNat (7 * (N + 1)) from ix_add rfl kn_7]; exact hr
  · refine ⟨I2, L2, R1, some (.int k0), some (.int v), w7, c + 3, k + 18, T2, by omega, by omega, fun r hr => ?_⟩
    refine e_tsI (j := 23) (off := 1553) 1593 dL_law_40 rfl (by rw [hx]; decide) (by decide) rfl rfl ?_
    refine f_aload_n (M := mL_law) 1594 dL_law_1593 rfl rfl ?_
    refine f_aload_n (M := mL_law) 1595 dL_law_1594 rfl rfl ?_
    refine f_iload (M := mL_law) 1597 dL_law_1595 rfl rfl ?_
    refine f_iconst (M := mL_law) 1598 dL_law_1597 ki_1 rfl ?_
    refine f_iadd (M := mL_law) 1599 dL_law_1598 rfl ?_
    refine e_iaf (M := mL_law) (w := Lw) (f := xs) (j := (7 * N) + (1)) dL_law_1599 (x_kk rfl) rfl (ix_add rfl kn_1) (by omega) (by omega) ?_
    refine f_aload_n (M := mL_law) 1601 dL_law_1600 rfl rfl ?_
    refine f_iload (M := mL_law) 1603 dL_law_1601 rfl rfl ?_
    refine f_iconst (M := mL_law) 1604 dL_law_1603 ki_2 rfl ?_
    refine f_iadd (M := mL_law) 1605 dL_law_1604 rfl ?_
    refine e_iaf (M := mL_law) (w := Lw) (f := xs) (j := (7 * N) + (2)) dL_law_1605 (x_kk rfl) rfl (ix_add rfl kn_2) (by omega) (by omega) ?_
    refine f_aload_n (M := mL_law) 1607 dL_law_1606 rfl rfl ?_
    refine e_cS (M := mL_law) [_] (c + 3) (k + 18) dL_law_1607 pa_10242 cc_10242 rfl rfl rfl rfl rfl (show c + 3 ≤ 601024 by omega) (show k + 18 ≤ 7293034 by omega) rfl (h1) rfl ?_
    refine f_istore (M := mL_law) (ls' := [_, _, _, _, _, _, _, _]) 1612 dL_law_1610 rfl rfl rfl ?_
    refine f_aload_n (M := mL_law) 1613 dL_law_1612 rfl rfl ?_
    refine f_aload_n (M := mL_law) 1614 dL_law_1613 rfl rfl ?_
    refine f_iload (M := mL_law) 1616 dL_law_1614 rfl rfl ?_
    refine f_iconst (M := mL_law) 1617 dL_law_1616 ki_1 rfl ?_
    refine f_iadd (M := mL_law) 1618 dL_law_1617 rfl ?_
    refine e_iaf (M := mL_law) (w := Lw) (f := xs) (j := (7 * N) + (1)) dL_law_1618 (x_kk rfl) rfl (ix_add rfl kn_1) (by omega) (by omega) ?_
    refine f_aload_n (M := mL_law) 1620 dL_law_1619 rfl rfl ?_
    refine f_iload (M := mL_law) 1622 dL_law_1620 rfl rfl ?_
    refine f_iconst (M := mL_law) 1623 dL_law_1622 ki_2 rfl ?_
    refine f_iadd (M := mL_law) 1624 dL_law_1623 rfl ?_
    refine e_iaf (M := mL_law) (w := Lw) (f := xs) (j := (7 * N) + (2)) dL_law_1624 (x_kk rfl) rfl (ix_add rfl kn_2) (by omega) (by omega) ?_
    refine e_cV (M := mL_law) [_] (c + 3) (k + 18) dL_law_1625 pa_10244 pb_10244 cc_10244 rfl rfl rfl rfl rfl (show c + 3 ≤ 601024 by omega) (show k + 18 ≤ 7293034 by omega) rfl (h2) rfl ?_
    refine f_istore (M := mL_law) (ls' := [_, _, _, _, _, _, _, _]) 1630 dL_law_1628 rfl rfl rfl ?_
    refine f_aload_n (M := mL_law) 1631 dL_law_1630 rfl rfl ?_
    refine e_cV (M := mL_law) [_] (c + 3) (k + 18) dL_law_1631 pa_10163 pb_10163 cc_10163 rfl rfl rfl rfl rfl (show c + 3 ≤ 601024 by omega) (show k + 18 ≤ 7293034 by omega) rfl (c_X9_thrown) rfl ?_
    refine f_iload (M := mL_law) 1636 dL_law_1634 rfl rfl ?_
    refine e_icmp_eqT (M := mL_law) 1641 dL_law_1636 rfl ht ?_
    refine f_iload (M := mL_law) 1643 dL_law_1641 rfl rfl ?_
    refine e_if_neT (M := mL_law) 1658 dL_law_1643 rfl z ?_
    refine f_goto (M := mL_law) 2888 dL_law_1658 rfl ?_
    refine f_iinc (M := mL_law) (ls' := [_, _, _, _, _, _, _, _]) 2891 dL_law_2888 ki_7 rfl rfl rfl rfl ?_
    refine f_goto (M := mL_law) 23 dL_law_2891 rfl ?_
    rw [show Int32.ofNat (7 * N) + 7 = Int32.ofNat (7 * (N + 1)) from ix_add rfl kn_7]; exact hr
end
end
