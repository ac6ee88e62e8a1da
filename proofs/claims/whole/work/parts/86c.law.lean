theorem law_unlike {Γ : GG} {X : XT} (hX : Cx Γ R_law cL_law 4 (some .boolean) 12 434 X) {b L i : Nat} {xs : Nat → Int32} (hC : ScX Γ b L xs X) (hi : i + 6 ≤ L) (next : ∀ S2, Rel S2 → G Γ X S2 1171 (lsL Γ b i) []) {S : St} (hR : Rel S) : G Γ X S 772 (lsL Γ b i) [] := by
  obtain ⟨r, Mid, hc, hr⟩ := step_unlike (Γ := Γ) (xs (i + 1)) S hR
  refine g_aload_n (i := 1) hX dL_law_772 rfl rfl ?_
  refine g_aload_n (i := 0) hX dL_law_773 rfl rfl ?_
  refine g_iload_n (i := 3) hX dL_law_774 rfl rfl ?_
  refine g_iconst hX dL_law_775 ic1 ?_
  refine g_iadd hX dL_law_776 ?_
  refine g_sld (j := i + 1) hX hC (nI_add2 i 1) (by omega) dL_law_777 ?_
  refine eL_85 hX ⟨Nat.le_of_ble_eq_true rfl, Nat.le_of_ble_eq_true rfl⟩ (Nat.le_of_ble_eq_true rfl) dL_law_778 ((hc)) (fun r1 S1 h1 => ?_)
  refine g_aload_n (i := 2) hX dL_law_781 rfl rfl ?_
  refine g_aload_n (i := 0) hX dL_law_782 rfl rfl ?_
  refine g_iload_n (i := 3) hX dL_law_783 rfl rfl ?_
  refine g_iconst hX dL_law_784 ic1 ?_
  refine g_iadd hX dL_law_785 ?_
  refine g_sld (j := i + 1) hX hC (nI_add2 i 1) (by omega) dL_law_786 ?_
  refine eL_88 hX ⟨Nat.le_of_ble_eq_true rfl, Nat.le_of_ble_eq_true rfl⟩ (Nat.le_of_ble_eq_true rfl) dL_law_787 ((hr S1 h1.2)) (fun r2 S2 h2 => ?_)
  refine g_icmp_eq (tgt := 1171) hX dL_law_790 (by decide) (fun _ => ?_) (fun h9 => absurd ((by rw [h1.1, h2.1])) h9)
  exact next S2 h2.2
theorem law_worth {Γ : GG} {X : XT} (hX : Cx Γ R_law cL_law 4 (some .boolean) 12 434 X) {b L i : Nat} {xs : Nat → Int32} (hC : ScX Γ b L xs X) (hi : i + 6 ≤ L) (next : ∀ S2, Rel S2 → G Γ X S2 1171 (lsL Γ b i) []) {S : St} (hR : Rel S) : G Γ X S 795 (lsL Γ b i) [] := by
  obtain ⟨r, Mid, hc, hr⟩ := step_worth (Γ := Γ) (xs (i + 1)) (xs (i + 2)) S hR
  refine g_aload_n (i := 1) hX dL_law_795 rfl rfl ?_
  refine g_aload_n (i := 0) hX dL_law_796 rfl rfl ?_
  refine g_iload_n (i := 3) hX dL_law_797 rfl rfl ?_
  refine g_iconst hX dL_law_798 ic1 ?_
  refine g_iadd hX dL_law_799 ?_
  refine g_sld (j := i + 1) hX hC (nI_add2 i 1) (by omega) dL_law_800 ?_
  refine g_aload_n (i := 0) hX dL_law_801 rfl rfl ?_
  refine g_iload_n (i := 3) hX dL_law_802 rfl rfl ?_
  refine g_iconst hX dL_law_803 ic2 ?_
  refine g_iadd hX dL_law_804 ?_
  refine g_sld (j := i + 2) hX hC (nI_add2 i 2) (by omega) dL_law_805 ?_
  refine eL_89 hX ⟨Nat.le_of_ble_eq_true rfl, Nat.le_of_ble_eq_true rfl⟩ (Nat.le_of_ble_eq_true rfl) dL_law_806 ((hc)) (fun r1 S1 h1 => ?_)
  refine g_aload_n (i := 2) hX dL_law_809 rfl rfl ?_
  refine g_aload_n (i := 0) hX dL_law_810 rfl rfl ?_
  refine g_iload_n (i := 3) hX dL_law_811 rfl rfl ?_
  refine g_iconst hX dL_law_812 ic1 ?_
  refine g_iadd hX dL_law_813 ?_
  refine g_sld (j := i + 1) hX hC (nI_add2 i 1) (by omega) dL_law_814 ?_
  refine g_aload_n (i := 0) hX dL_law_815 rfl rfl ?_
  refine g_iload_n (i := 3) hX dL_law_816 rfl rfl ?_
  refine g_iconst hX dL_law_817 ic2 ?_
  refine g_iadd hX dL_law_818 ?_
  refine g_sld (j := i + 2) hX hC (nI_add2 i 2) (by omega) dL_law_819 ?_
  refine eL_92 hX ⟨Nat.le_of_ble_eq_true rfl, Nat.le_of_ble_eq_true rfl⟩ (Nat.le_of_ble_eq_true rfl) dL_law_820 ((hr S1 h1.2)) (fun r2 S2 h2 => ?_)
  refine g_icmp_eq (tgt := 1171) hX dL_law_823 (by decide) (fun _ => ?_) (fun h9 => absurd ((by rw [h1.1, h2.1])) h9)
  exact next S2 h2.2
theorem law_cost {Γ : GG} {X : XT} (hX : Cx Γ R_law cL_law 4 (some .boolean) 12 434 X) {b L i : Nat} {xs : Nat → Int32} (hC : ScX Γ b L xs X) (hi : i + 6 ≤ L) (next : ∀ S2, Rel S2 → G Γ X S2 1171 (lsL Γ b i) []) {S : St} (hR : Rel S) : G Γ X S 828 (lsL Γ b i) [] := by
  obtain ⟨r, Mid, hc, hr⟩ := step_cost (Γ := Γ) (xs (i + 1)) S hR
  refine g_aload_n (i := 1) hX dL_law_828 rfl rfl ?_
  refine g_aload_n (i := 0) hX dL_law_829 rfl rfl ?_
  refine g_iload_n (i := 3) hX dL_law_830 rfl rfl ?_
  refine g_iconst hX dL_law_831 ic1 ?_
  refine g_iadd hX dL_law_832 ?_
  refine g_sld (j := i + 1) hX hC (nI_add2 i 1) (by omega) dL_law_833 ?_
  refine eL_93 hX ⟨Nat.le_of_ble_eq_true rfl, Nat.le_of_ble_eq_true rfl⟩ (Nat.le_of_ble_eq_true rfl) dL_law_834 ((hc)) (fun r1 S1 h1 => ?_)
  refine g_aload_n (i := 2) hX dL_law_837 rfl rfl ?_
  refine g_aload_n (i := 0) hX dL_law_838 rfl rfl ?_
  refine g_iload_n (i := 3) hX dL_law_839 rfl rfl ?_
  refine g_iconst hX dL_law_840 ic1 ?_
  refine g_iadd hX dL_law_841 ?_
  refine g_sld (j := i + 1) hX hC (nI_add2 i 1) (by omega) dL_law_842 ?_
  refine eL_96 hX ⟨Nat.le_of_ble_eq_true rfl, Nat.le_of_ble_eq_true rfl⟩ (Nat.le_of_ble_eq_true rfl) dL_law_843 ((hr S1 h1.2)) (fun r2 S2 h2 => ?_)
  refine g_icmp_eq (tgt := 1171) hX dL_law_846 (by decide) (fun _ => ?_) (fun h9 => absurd ((by rw [h1.1, h2.1])) h9)
  exact next S2 h2.2
theorem law_best {Γ : GG} {X : XT} (hX : Cx Γ R_law cL_law 4 (some .boolean) 12 434 X) {b L i : Nat} {xs : Nat → Int32} (hC : ScX Γ b L xs X) (hi : i + 6 ≤ L) (next : ∀ S2, Rel S2 → G Γ X S2 1171 (lsL Γ b i) []) {S : St} (hR : Rel S) : G Γ X S 851 (lsL Γ b i) [] := by
  obtain ⟨r, Mid, hc, hr⟩ := step_best (Γ := Γ) (xs (i + 1)) S hR
  refine g_aload_n (i := 1) hX dL_law_851 rfl rfl ?_
  refine g_aload_n (i := 0) hX dL_law_852 rfl rfl ?_
  refine g_iload_n (i := 3) hX dL_law_853 rfl rfl ?_
  refine g_iconst hX dL_law_854 ic1 ?_
  refine g_iadd hX dL_law_855 ?_
  refine g_sld (j := i + 1) hX hC (nI_add2 i 1) (by omega) dL_law_856 ?_
  refine eL_97 hX ⟨Nat.le_of_ble_eq_true rfl, Nat.le_of_ble_eq_true rfl⟩ (Nat.le_of_ble_eq_true rfl) dL_law_857 ((hc)) (fun r1 S1 h1 => ?_)
  refine g_aload_n (i := 2) hX dL_law_860 rfl rfl ?_
  refine g_aload_n (i := 0) hX dL_law_861 rfl rfl ?_
  refine g_iload_n (i := 3) hX dL_law_862 rfl rfl ?_
  refine g_iconst hX dL_law_863 ic1 ?_
  refine g_iadd hX dL_law_864 ?_
  refine g_sld (j := i + 1) hX hC (nI_add2 i 1) (by omega) dL_law_865 ?_
  refine eL_100 hX ⟨Nat.le_of_ble_eq_true rfl, Nat.le_of_ble_eq_true rfl⟩ (Nat.le_of_ble_eq_true rfl) dL_law_866 ((hr S1 h1.2)) (fun r2 S2 h2 => ?_)
  refine g_icmp_eq (tgt := 1171) hX dL_law_869 (by decide) (fun _ => ?_) (fun h9 => absurd ((by rw [h1.1, h2.1])) h9)
  exact next S2 h2.2
theorem law_shape {Γ : GG} {X : XT} (hX : Cx Γ R_law cL_law 4 (some .boolean) 12 434 X) {b L i : Nat} {xs : Nat → Int32} (hC : ScX Γ b L xs X) (hi : i + 6 ≤ L) (next : ∀ S2, Rel S2 → G Γ X S2 1171 (lsL Γ b i) []) {S : St} (hR : Rel S) : G Γ X S 874 (lsL Γ b i) [] := by
  obtain ⟨r, Mid, hc, hr⟩ := step_shape (Γ := Γ) (xs (i + 1)) (xs (i + 2)) S hR
  refine g_aload_n (i := 1) hX dL_law_874 rfl rfl ?_
  refine g_aload_n (i := 0) hX dL_law_875 rfl rfl ?_
  refine g_iload_n (i := 3) hX dL_law_876 rfl rfl ?_
  refine g_iconst hX dL_law_877 ic1 ?_
  refine g_iadd hX dL_law_878 ?_
  refine g_sld (j := i + 1) hX hC (nI_add2 i 1) (by omega) dL_law_879 ?_
  refine g_aload_n (i := 0) hX dL_law_880 rfl rfl ?_
  refine g_iload_n (i := 3) hX dL_law_881 rfl rfl ?_
  refine g_iconst hX dL_law_882 ic2 ?_
  refine g_iadd hX dL_law_883 ?_
  refine g_sld (j := i + 2) hX hC (nI_add2 i 2) (by omega) dL_law_884 ?_
  refine eL_101 hX ⟨Nat.le_of_ble_eq_true rfl, Nat.le_of_ble_eq_true rfl⟩ (Nat.le_of_ble_eq_true rfl) dL_law_885 ((hc)) (fun r1 S1 h1 => ?_)
  refine g_aload_n (i := 2) hX dL_law_888 rfl rfl ?_
  refine g_aload_n (i := 0) hX dL_law_889 rfl rfl ?_
  refine g_iload_n (i := 3) hX dL_law_890 rfl rfl ?_
  refine g_iconst hX dL_law_891 ic1 ?_
  refine g_iadd hX dL_law_892 ?_
  refine g_sld (j := i + 1) hX hC (nI_add2 i 1) (by omega) dL_law_893 ?_
  refine g_aload_n (i := 0) hX dL_law_894 rfl rfl ?_
  refine g_iload_n (i := 3) hX dL_law_895 rfl rfl ?_
  refine g_iconst hX dL_law_896 ic2 ?_
  refine g_iadd hX dL_law_897 ?_
  refine g_sld (j := i + 2) hX hC (nI_add2 i 2) (by omega) dL_law_898 ?_
  refine eL_104 hX ⟨Nat.le_of_ble_eq_true rfl, Nat.le_of_ble_eq_true rfl⟩ (Nat.le_of_ble_eq_true rfl) dL_law_899 ((hr S1 h1.2)) (fun r2 S2 h2 => ?_)
  refine g_icmp_eq (tgt := 1171) hX dL_law_902 (by decide) (fun _ => ?_) (fun h9 => absurd ((by rw [h1.1, h2.1])) h9)
  exact next S2 h2.2
theorem law_learn {Γ : GG} {X : XT} (hX : Cx Γ R_law cL_law 4 (some .boolean) 12 434 X) {b L i : Nat} {xs : Nat → Int32} (hC : ScX Γ b L xs X) (hi : i + 6 ≤ L) (next : ∀ S2, Rel S2 → G Γ X S2 1171 (lsL Γ b i) []) {S : St} (hR : Rel S) : G Γ X S 907 (lsL Γ b i) [] := by
  obtain ⟨r, Mid, hc, hr⟩ := step_learn (Γ := Γ) (xs (i + 1)) (xs (i + 2)) (((xs (i + 3)).toInt64 <<< ((32 : Int32).toInt64 &&& 63)) ||| ((xs (i + 4)).toInt64 &&& 4294967295)) S hR
  refine g_aload_n (i := 1) hX dL_law_907 rfl rfl ?_
  refine g_aload_n (i := 0) hX dL_law_908 rfl rfl ?_
  refine g_iload_n (i := 3) hX dL_law_909 rfl rfl ?_
  refine g_iconst hX dL_law_910 ic1 ?_
  refine g_iadd hX dL_law_911 ?_
  refine g_sld (j := i + 1) hX hC (nI_add2 i 1) (by omega) dL_law_912 ?_
  refine g_aload_n (i := 0) hX dL_law_913 rfl rfl ?_
  refine g_iload_n (i := 3) hX dL_law_914 rfl rfl ?_
  refine g_iconst hX dL_law_915 ic2 ?_
  refine g_iadd hX dL_law_916 ?_
  refine g_sld (j := i + 2) hX hC (nI_add2 i 2) (by omega) dL_law_917 ?_
  refine g_aload_n (i := 0) hX dL_law_918 rfl rfl ?_
  refine g_iload_n (i := 3) hX dL_law_919 rfl rfl ?_
  refine g_iconst hX dL_law_920 ic3 ?_
  refine g_iadd hX dL_law_921 ?_
  refine g_sld (j := i + 3) hX hC (nI_add2 i 3) (by omega) dL_law_922 ?_
  refine g_i2l hX dL_law_923 ?_
  refine g_bipush hX dL_law_924 bp32 ?_
  refine g_lshl hX dL_law_926 ?_
  refine g_aload_n (i := 0) hX dL_law_927 rfl rfl ?_
  refine g_iload_n (i := 3) hX dL_law_928 rfl rfl ?_
  refine g_iconst hX dL_law_929 ic4 ?_
  refine g_iadd hX dL_law_930 ?_
  refine g_sld (j := i + 4) hX hC (nI_add2 i 4) (by omega) dL_law_931 ?_
  refine g_i2l hX dL_law_932 ?_
  refine g_ldc2_w hX ccL_44 dL_law_933 ?_
  refine g_land hX dL_law_936 ?_
  refine g_lor hX dL_law_937 ?_
  refine eL_105 hX ⟨Nat.le_of_ble_eq_true rfl, Nat.le_of_ble_eq_true rfl⟩ (Nat.le_of_ble_eq_true rfl) dL_law_938 ((hc)) (fun r1 S1 h1 => ?_)
  refine g_aload_n (i := 2) hX dL_law_941 rfl rfl ?_
  refine g_aload_n (i := 0) hX dL_law_942 rfl rfl ?_
  refine g_iload_n (i := 3) hX dL_law_943 rfl rfl ?_
  refine g_iconst hX dL_law_944 ic1 ?_
  refine g_iadd hX dL_law_945 ?_
  refine g_sld (j := i + 1) hX hC (nI_add2 i 1) (by omega) dL_law_946 ?_
  refine g_aload_n (i := 0) hX dL_law_947 rfl rfl ?_
  refine g_iload_n (i := 3) hX dL_law_948 rfl rfl ?_
  refine g_iconst hX dL_law_949 ic2 ?_
  refine g_iadd hX dL_law_950 ?_
  refine g_sld (j := i + 2) hX hC (nI_add2 i 2) (by omega) dL_law_951 ?_
  refine g_aload_n (i := 0) hX dL_law_952 rfl rfl ?_
  refine g_iload_n (i := 3) hX dL_law_953 rfl rfl ?_
  refine g_iconst hX dL_law_954 ic3 ?_
  refine g_iadd hX dL_law_955 ?_
  refine g_sld (j := i + 3) hX hC (nI_add2 i 3) (by omega) dL_law_956 ?_
  refine g_i2l hX dL_law_957 ?_
  refine g_bipush hX dL_law_958 bp32 ?_
  refine g_lshl hX dL_law_960 ?_
  refine g_aload_n (i := 0) hX dL_law_961 rfl rfl ?_
  refine g_iload_n (i := 3) hX dL_law_962 rfl rfl ?_
  refine g_iconst hX dL_law_963 ic4 ?_
  refine g_iadd hX dL_law_964 ?_
  refine g_sld (j := i + 4) hX hC (nI_add2 i 4) (by omega) dL_law_965 ?_
  refine g_i2l hX dL_law_966 ?_
  refine g_ldc2_w hX ccL_44 dL_law_967 ?_
  refine g_land hX dL_law_970 ?_
  refine g_lor hX dL_law_971 ?_
  refine eL_109 hX ⟨Nat.le_of_ble_eq_true rfl, Nat.le_of_ble_eq_true rfl⟩ (Nat.le_of_ble_eq_true rfl) dL_law_972 ((hr S1 h1.2)) (fun r2 S2 h2 => ?_)
  refine g_icmp_eq (tgt := 1171) hX dL_law_975 (by decide) (fun _ => ?_) (fun h9 => absurd ((by rw [h1.1, h2.1])) h9)
  exact next S2 h2.2
theorem law_guess {Γ : GG} {X : XT} (hX : Cx Γ R_law cL_law 4 (some .boolean) 12 434 X) {b L i : Nat} {xs : Nat → Int32} (hC : ScX Γ b L xs X) (hi : i + 6 ≤ L) (next : ∀ S2, Rel S2 → G Γ X S2 1171 (lsL Γ b i) []) {S : St} (hR : Rel S) : G Γ X S 980 (lsL Γ b i) [] := by
  obtain ⟨r, Mid, hc, hr⟩ := step_guess (Γ := Γ) (xs (i + 1)) (xs (i + 2)) (xs (i + 3)) S hR
  refine g_aload_n (i := 1) hX dL_law_980 rfl rfl ?_
  refine g_aload_n (i := 0) hX dL_law_981 rfl rfl ?_
  refine g_iload_n (i := 3) hX dL_law_982 rfl rfl ?_
  refine g_iconst hX dL_law_983 ic1 ?_
  refine g_iadd hX dL_law_984 ?_
  refine g_sld (j := i + 1) hX hC (nI_add2 i 1) (by omega) dL_law_985 ?_
  refine g_aload_n (i := 0) hX dL_law_986 rfl rfl ?_
  refine g_iload_n (i := 3) hX dL_law_987 rfl rfl ?_
  refine g_iconst hX dL_law_988 ic2 ?_
  refine g_iadd hX dL_law_989 ?_
  refine g_sld (j := i + 2) hX hC (nI_add2 i 2) (by omega) dL_law_990 ?_
  refine g_aload_n (i := 0) hX dL_law_991 rfl rfl ?_
  refine g_iload_n (i := 3) hX dL_law_992 rfl rfl ?_
  refine g_iconst hX dL_law_993 ic3 ?_
  refine g_iadd hX dL_law_994 ?_
  refine g_sld (j := i + 3) hX hC (nI_add2 i 3) (by omega) dL_law_995 ?_
  refine eL_110 hX ⟨Nat.le_of_ble_eq_true rfl, Nat.le_of_ble_eq_true rfl⟩ (Nat.le_of_ble_eq_true rfl) dL_law_996 ((hc)) (fun r1 S1 h1 => ?_)
  refine g_aload_n (i := 2) hX dL_law_999 rfl rfl ?_
  refine g_aload_n (i := 0) hX dL_law_1000 rfl rfl ?_
  refine g_iload_n (i := 3) hX dL_law_1001 rfl rfl ?_
  refine g_iconst hX dL_law_1002 ic1 ?_
  refine g_iadd hX dL_law_1003 ?_
  refine g_sld (j := i + 1) hX hC (nI_add2 i 1) (by omega) dL_law_1004 ?_
  refine g_aload_n (i := 0) hX dL_law_1005 rfl rfl ?_
  refine g_iload_n (i := 3) hX dL_law_1006 rfl rfl ?_
  refine g_iconst hX dL_law_1007 ic2 ?_
  refine g_iadd hX dL_law_1008 ?_
  refine g_sld (j := i + 2) hX hC (nI_add2 i 2) (by omega) dL_law_1009 ?_
  refine g_aload_n (i := 0) hX dL_law_1010 rfl rfl ?_
  refine g_iload_n (i := 3) hX dL_law_1011 rfl rfl ?_
  refine g_iconst hX dL_law_1012 ic3 ?_
  refine g_iadd hX dL_law_1013 ?_
  refine g_sld (j := i + 3) hX hC (nI_add2 i 3) (by omega) dL_law_1014 ?_
  refine eL_113 hX ⟨Nat.le_of_ble_eq_true rfl, Nat.le_of_ble_eq_true rfl⟩ (Nat.le_of_ble_eq_true rfl) dL_law_1015 ((hr S1 h1.2)) (fun r2 S2 h2 => ?_)
  refine g_icmp_eq (tgt := 1171) hX dL_law_1018 (by decide) (fun _ => ?_) (fun h9 => absurd ((by rw [h1.1, h2.1])) h9)
  exact next S2 h2.2
