theorem law_kind {Γ : GG} {X : XT} (hX : Cx Γ R_law cL_law 4 (some .boolean) 12 434 X) {b L i : Nat} {xs : Nat → Int32} (hC : ScX Γ b L xs X) (hi : i + 6 ≤ L) (next : ∀ S2, Rel S2 → G Γ X S2 1171 (lsL Γ b i) []) {S : St} (hR : Rel S) : G Γ X S 1023 (lsL Γ b i) [] := by
  obtain ⟨r, Mid, hc, hr⟩ := step_kind (Γ := Γ) (xs (i + 1)) S hR
  refine g_aload_n (i := 1) hX dL_law_1023 rfl rfl ?_
  refine g_aload_n (i := 0) hX dL_law_1024 rfl rfl ?_
  refine g_iload_n (i := 3) hX dL_law_1025 rfl rfl ?_
  refine g_iconst hX dL_law_1026 ic1 ?_
  refine g_iadd hX dL_law_1027 ?_
  refine g_sld (j := i + 1) hX hC (nI_add2 i 1) (by omega) dL_law_1028 ?_
  refine eL_114 hX ⟨Nat.le_of_ble_eq_true rfl, Nat.le_of_ble_eq_true rfl⟩ (Nat.le_of_ble_eq_true rfl) dL_law_1029 ((hc)) (fun r1 S1 h1 => ?_)
  refine g_aload_n (i := 2) hX dL_law_1032 rfl rfl ?_
  refine g_aload_n (i := 0) hX dL_law_1033 rfl rfl ?_
  refine g_iload_n (i := 3) hX dL_law_1034 rfl rfl ?_
  refine g_iconst hX dL_law_1035 ic1 ?_
  refine g_iadd hX dL_law_1036 ?_
  refine g_sld (j := i + 1) hX hC (nI_add2 i 1) (by omega) dL_law_1037 ?_
  refine eL_117 hX ⟨Nat.le_of_ble_eq_true rfl, Nat.le_of_ble_eq_true rfl⟩ (Nat.le_of_ble_eq_true rfl) dL_law_1038 ((hr S1 h1.2)) (fun r2 S2 h2 => ?_)
  refine g_icmp_eq (tgt := 1171) hX dL_law_1041 (by decide) (fun _ => ?_) (fun h9 => absurd ((by rw [h1.1, h2.1])) h9)
  exact next S2 h2.2
theorem law_as {Γ : GG} {X : XT} (hX : Cx Γ R_law cL_law 4 (some .boolean) 12 434 X) {b L i : Nat} {xs : Nat → Int32} (hC : ScX Γ b L xs X) (hi : i + 6 ≤ L) (next : ∀ S2, Rel S2 → G Γ X S2 1171 (lsL Γ b i) []) {S : St} (hR : Rel S) : G Γ X S 1046 (lsL Γ b i) [] := by
  obtain ⟨r, Mid, hc, hr⟩ := step_as (Γ := Γ) (xs (i + 1)) (xs (i + 2)) S hR
  refine g_aload_n (i := 1) hX dL_law_1046 rfl rfl ?_
  refine g_aload_n (i := 0) hX dL_law_1047 rfl rfl ?_
  refine g_iload_n (i := 3) hX dL_law_1048 rfl rfl ?_
  refine g_iconst hX dL_law_1049 ic1 ?_
  refine g_iadd hX dL_law_1050 ?_
  refine g_sld (j := i + 1) hX hC (nI_add2 i 1) (by omega) dL_law_1051 ?_
  refine g_aload_n (i := 0) hX dL_law_1052 rfl rfl ?_
  refine g_iload_n (i := 3) hX dL_law_1053 rfl rfl ?_
  refine g_iconst hX dL_law_1054 ic2 ?_
  refine g_iadd hX dL_law_1055 ?_
  refine g_sld (j := i + 2) hX hC (nI_add2 i 2) (by omega) dL_law_1056 ?_
  refine eL_118 hX ⟨Nat.le_of_ble_eq_true rfl, Nat.le_of_ble_eq_true rfl⟩ (Nat.le_of_ble_eq_true rfl) dL_law_1057 ((hc)) (fun r1 S1 h1 => ?_)
  refine g_aload_n (i := 2) hX dL_law_1060 rfl rfl ?_
  refine g_aload_n (i := 0) hX dL_law_1061 rfl rfl ?_
  refine g_iload_n (i := 3) hX dL_law_1062 rfl rfl ?_
  refine g_iconst hX dL_law_1063 ic1 ?_
  refine g_iadd hX dL_law_1064 ?_
  refine g_sld (j := i + 1) hX hC (nI_add2 i 1) (by omega) dL_law_1065 ?_
  refine g_aload_n (i := 0) hX dL_law_1066 rfl rfl ?_
  refine g_iload_n (i := 3) hX dL_law_1067 rfl rfl ?_
  refine g_iconst hX dL_law_1068 ic2 ?_
  refine g_iadd hX dL_law_1069 ?_
  refine g_sld (j := i + 2) hX hC (nI_add2 i 2) (by omega) dL_law_1070 ?_
  refine eL_121 hX ⟨Nat.le_of_ble_eq_true rfl, Nat.le_of_ble_eq_true rfl⟩ (Nat.le_of_ble_eq_true rfl) dL_law_1071 ((hr S1 h1.2)) (fun r2 S2 h2 => ?_)
  refine g_icmp_eq (tgt := 1171) hX dL_law_1074 (by decide) (fun _ => ?_) (fun h9 => absurd ((by rw [h1.1, h2.1])) h9)
  exact next S2 h2.2
theorem law_ask {Γ : GG} {X : XT} (hX : Cx Γ R_law cL_law 4 (some .boolean) 12 434 X) {b L i : Nat} {xs : Nat → Int32} (hC : ScX Γ b L xs X) (hi : i + 6 ≤ L) (next : ∀ S2, Rel S2 → G Γ X S2 1171 (lsL Γ b i) []) {S : St} (hR : Rel S) : G Γ X S 1079 (lsL Γ b i) [] := by
  obtain ⟨r, Mid, hc, hr⟩ := step_ask (Γ := Γ) (xs (i + 1)) (xs (i + 2)) S hR
  refine g_aload_n (i := 1) hX dL_law_1079 rfl rfl ?_
  refine g_aload_n (i := 0) hX dL_law_1080 rfl rfl ?_
  refine g_iload_n (i := 3) hX dL_law_1081 rfl rfl ?_
  refine g_iconst hX dL_law_1082 ic1 ?_
  refine g_iadd hX dL_law_1083 ?_
  refine g_sld (j := i + 1) hX hC (nI_add2 i 1) (by omega) dL_law_1084 ?_
  refine g_aload_n (i := 0) hX dL_law_1085 rfl rfl ?_
  refine g_iload_n (i := 3) hX dL_law_1086 rfl rfl ?_
  refine g_iconst hX dL_law_1087 ic2 ?_
  refine g_iadd hX dL_law_1088 ?_
  refine g_sld (j := i + 2) hX hC (nI_add2 i 2) (by omega) dL_law_1089 ?_
  refine eL_122 hX ⟨Nat.le_of_ble_eq_true rfl, Nat.le_of_ble_eq_true rfl⟩ (Nat.le_of_ble_eq_true rfl) dL_law_1090 ((hc)) (fun r1 S1 h1 => ?_)
  refine g_aload_n (i := 2) hX dL_law_1093 rfl rfl ?_
  refine g_aload_n (i := 0) hX dL_law_1094 rfl rfl ?_
  refine g_iload_n (i := 3) hX dL_law_1095 rfl rfl ?_
  refine g_iconst hX dL_law_1096 ic1 ?_
  refine g_iadd hX dL_law_1097 ?_
  refine g_sld (j := i + 1) hX hC (nI_add2 i 1) (by omega) dL_law_1098 ?_
  refine g_aload_n (i := 0) hX dL_law_1099 rfl rfl ?_
  refine g_iload_n (i := 3) hX dL_law_1100 rfl rfl ?_
  refine g_iconst hX dL_law_1101 ic2 ?_
  refine g_iadd hX dL_law_1102 ?_
  refine g_sld (j := i + 2) hX hC (nI_add2 i 2) (by omega) dL_law_1103 ?_
  refine eL_125 hX ⟨Nat.le_of_ble_eq_true rfl, Nat.le_of_ble_eq_true rfl⟩ (Nat.le_of_ble_eq_true rfl) dL_law_1104 ((hr S1 h1.2)) (fun r2 S2 h2 => ?_)
  refine g_icmp_eq (tgt := 1171) hX dL_law_1107 (by decide) (fun _ => ?_) (fun h9 => absurd ((by rw [h1.1, h2.1])) h9)
  exact next S2 h2.2
theorem law_trace {Γ : GG} {X : XT} (hX : Cx Γ R_law cL_law 4 (some .boolean) 12 434 X) {b L i : Nat} {xs : Nat → Int32} (hC : ScX Γ b L xs X) (hi : i + 6 ≤ L) (next : ∀ S2, Rel S2 → G Γ X S2 1171 (lsL Γ b i) []) {S : St} (hR : Rel S) : G Γ X S 1112 (lsL Γ b i) [] := by
  obtain ⟨r, Mid, hc, hr⟩ := step_trace (Γ := Γ) (xs (i + 1)) S hR
  refine g_aload_n (i := 1) hX dL_law_1112 rfl rfl ?_
  refine g_aload_n (i := 0) hX dL_law_1113 rfl rfl ?_
  refine g_iload_n (i := 3) hX dL_law_1114 rfl rfl ?_
  refine g_iconst hX dL_law_1115 ic1 ?_
  refine g_iadd hX dL_law_1116 ?_
  refine g_sld (j := i + 1) hX hC (nI_add2 i 1) (by omega) dL_law_1117 ?_
  refine eL_126 hX ⟨Nat.le_of_ble_eq_true rfl, Nat.le_of_ble_eq_true rfl⟩ (Nat.le_of_ble_eq_true rfl) dL_law_1118 ((hc)) (fun r1 S1 h1 => ?_)
  refine g_aload_n (i := 2) hX dL_law_1121 rfl rfl ?_
  refine g_aload_n (i := 0) hX dL_law_1122 rfl rfl ?_
  refine g_iload_n (i := 3) hX dL_law_1123 rfl rfl ?_
  refine g_iconst hX dL_law_1124 ic1 ?_
  refine g_iadd hX dL_law_1125 ?_
  refine g_sld (j := i + 1) hX hC (nI_add2 i 1) (by omega) dL_law_1126 ?_
  refine eL_129 hX ⟨Nat.le_of_ble_eq_true rfl, Nat.le_of_ble_eq_true rfl⟩ (Nat.le_of_ble_eq_true rfl) dL_law_1127 ((hr S1 h1.2)) (fun r2 S2 h2 => ?_)
  refine g_icmp_eq (tgt := 1171) hX dL_law_1130 (by decide) (fun _ => ?_) (fun h9 => absurd ((by rw [h1.1, h2.1])) h9)
  exact next S2 h2.2
theorem law_count {Γ : GG} {X : XT} (hX : Cx Γ R_law cL_law 4 (some .boolean) 12 434 X) {b L i : Nat} {xs : Nat → Int32} (hC : ScX Γ b L xs X) (hi : i + 6 ≤ L) (next : ∀ S2, Rel S2 → G Γ X S2 1171 (lsL Γ b i) []) {S : St} (hR : Rel S) : G Γ X S 1135 (lsL Γ b i) [] := by
  obtain ⟨r, Mid, hc, hr⟩ := step_count (Γ := Γ) (xs (i + 1)) S hR
  refine g_aload_n (i := 1) hX dL_law_1135 rfl rfl ?_
  refine g_aload_n (i := 0) hX dL_law_1136 rfl rfl ?_
  refine g_iload_n (i := 3) hX dL_law_1137 rfl rfl ?_
  refine g_iconst hX dL_law_1138 ic1 ?_
  refine g_iadd hX dL_law_1139 ?_
  refine g_sld (j := i + 1) hX hC (nI_add2 i 1) (by omega) dL_law_1140 ?_
  refine eL_130 hX ⟨Nat.le_of_ble_eq_true rfl, Nat.le_of_ble_eq_true rfl⟩ (Nat.le_of_ble_eq_true rfl) dL_law_1141 ((hc)) (fun r1 S1 h1 => ?_)
  refine g_aload_n (i := 2) hX dL_law_1144 rfl rfl ?_
  refine g_aload_n (i := 0) hX dL_law_1145 rfl rfl ?_
  refine g_iload_n (i := 3) hX dL_law_1146 rfl rfl ?_
  refine g_iconst hX dL_law_1147 ic1 ?_
  refine g_iadd hX dL_law_1148 ?_
  refine g_sld (j := i + 1) hX hC (nI_add2 i 1) (by omega) dL_law_1149 ?_
  refine eL_133 hX ⟨Nat.le_of_ble_eq_true rfl, Nat.le_of_ble_eq_true rfl⟩ (Nat.le_of_ble_eq_true rfl) dL_law_1150 ((hr S1 h1.2)) (fun r2 S2 h2 => ?_)
  refine g_icmp_eq (tgt := 1171) hX dL_law_1153 (by decide) (fun _ => ?_) (fun h9 => absurd ((by rw [h1.1, h2.1])) h9)
  exact next S2 h2.2
theorem law_status {Γ : GG} {X : XT} (hX : Cx Γ R_law cL_law 4 (some .boolean) 12 434 X) {b L i : Nat} {xs : Nat → Int32} (hC : ScX Γ b L xs X) (hi : i + 6 ≤ L) (next : ∀ S2, Rel S2 → G Γ X S2 1171 (lsL Γ b i) []) {S : St} (hR : Rel S) : G Γ X S 1158 (lsL Γ b i) [] := by
  obtain ⟨r, Mid, hc, hr⟩ := step_status (Γ := Γ) S hR
  refine g_aload_n (i := 1) hX dL_law_1158 rfl rfl ?_
  refine eL_134 hX ⟨Nat.le_of_ble_eq_true rfl, Nat.le_of_ble_eq_true rfl⟩ (Nat.le_of_ble_eq_true rfl) dL_law_1159 ((hc)) (fun r1 S1 h1 => ?_)
  refine g_aload_n (i := 2) hX dL_law_1162 rfl rfl ?_
  refine eL_137 hX ⟨Nat.le_of_ble_eq_true rfl, Nat.le_of_ble_eq_true rfl⟩ (Nat.le_of_ble_eq_true rfl) dL_law_1163 ((hr S1 h1.2)) (fun r2 S2 h2 => ?_)
  refine g_icmp_eq (tgt := 1171) hX dL_law_1166 (by decide) (fun _ => ?_) (fun h9 => absurd ((by rw [h1.1, h2.1])) h9)
  exact next S2 h2.2
