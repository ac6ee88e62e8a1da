theorem law_loop {Γ : GG} {X : XT} (hX : Cx Γ R_law cL_law 4 (some .boolean) 12 434 X) {b L : Nat} {xs : Nat → Int32} (hC : ScX Γ b L xs X) (hL : L ≤ 3072) : ∀ n i S, L + 6 ≤ i + 6 * n → i ≤ L + 6 → Rel S → G Γ X S 18 (lsL Γ b i) [] := by
  intro n
  induction n with
  | zero =>
    intro i S h1 h2 hR
    have eL : (nI L - 6).toInt = L - 6 := by
      rw [i_sub, nI_toInt (by omega), show (6 : Int32).toInt = 6 by decide]
      · rw [nI_toInt (by omega), show (6 : Int32).toInt = 6 by decide]; omega
      · rw [nI_toInt (by omega), show (6 : Int32).toInt = 6 by decide]; omega
    have e : nI L - 6 < nI i := by rw [i_lt, eL, nI_toInt (by omega)]; omega
    refine g_iload_n (i := 3) hX dL_law_18 rfl rfl ?_
    refine g_aload_n (i := 0) hX dL_law_19 rfl rfl ?_
    refine g_slen hX hC dL_law_20 ?_
    refine g_bipush hX dL_law_21 bp6 ?_
    refine g_isub hX dL_law_23 ?_
    refine g_icmp_gt (tgt := 1177) hX dL_law_24 (by decide) (fun _ => ?_) (fun h9 => absurd (e) h9)
    refine g_iconst hX dL_law_1177 ic1 ?_
    exact g_end hC dL_law_1178
  | succ n ih =>
    intro i S h1 h2 hR
    have eL : (nI L - 6).toInt = L - 6 := by
      rw [i_sub, nI_toInt (by omega), show (6 : Int32).toInt = 6 by decide]
      · rw [nI_toInt (by omega), show (6 : Int32).toInt = 6 by decide]; omega
      · rw [nI_toInt (by omega), show (6 : Int32).toInt = 6 by decide]; omega
    by_cases q : i + 6 ≤ L
    · have next : ∀ S2, Rel S2 → G Γ X S2 1171 (lsL Γ b i) [] := by
        intro S2 hR2
        refine g_iinc hX dL_law_1171 rfl ic6 (by decide) rfl ?_
        refine g_goto (tgt := 18) hX dL_law_1174 (by decide) ?_
        rw [show (6 : Int32) = nI 6 from rfl, nI_add2]
        exact ih (i + 6) S2 (by omega) (by omega) hR2
      have hm := pk_and (xs i) (m := 31) 5 (by decide)
      have hv : (xs i).toBitVec.toNat % 2 ^ 5 < 32 := Nat.mod_lt _ (by decide)
      refine g_iload_n (i := 3) hX dL_law_18 rfl rfl ?_
      refine g_aload_n (i := 0) hX dL_law_19 rfl rfl ?_
      refine g_slen hX hC dL_law_20 ?_
      refine g_bipush hX dL_law_21 bp6 ?_
      refine g_isub hX dL_law_23 ?_
      refine g_icmp_gt (tgt := 1177) hX dL_law_24 (by decide) (fun h9 => absurd h9 ((by rw [i_lt, eL, nI_toInt (by omega)]; omega))) (fun _ => ?_)
      refine g_aload_n (i := 0) hX dL_law_27 rfl rfl ?_
      refine g_iload_n (i := 3) hX dL_law_28 rfl rfl ?_
      refine g_sld (j := i) hX hC rfl (by omega) dL_law_29 ?_
      refine g_bipush hX dL_law_30 bp31 ?_
      refine g_iand hX dL_law_32 ?_
      rw [hm]
      generalize (xs i).toBitVec.toNat % 2 ^ 5 = v at hv ⊢
      rcases (by omega : v = 0 ∨ v = 1 ∨ v = 2 ∨ v = 3 ∨ v = 4 ∨ v = 5 ∨ v = 6 ∨ v = 7 ∨ v = 8 ∨ v = 9 ∨ v = 10 ∨ v = 11 ∨ v = 12 ∨ v = 13 ∨ v = 14 ∨ v = 15 ∨ v = 16 ∨ v = 17 ∨ v = 18 ∨ v = 19 ∨ v = 20 ∨ v = 21 ∨ v = 22 ∨ v = 23 ∨ v = 24 ∨ v = 25 ∨ v = 26 ∨ v = 27 ∨ v = 28 ∨ 29 ≤ v) with rfl | rfl | rfl | rfl | rfl | rfl | rfl | rfl | rfl | rfl | rfl | rfl | rfl | rfl | rfl | rfl | rfl | rfl | rfl | rfl | rfl | rfl | rfl | rfl | rfl | rfl | rfl | rfl | rfl | hv2
      · refine g_tableIn (off := 131) (tgt := 164) hX dL_law_33 (by decide) (by decide) (by decide) (by decide) ?_
        exact law_sheet hX hC q next hR
      · refine g_tableIn (off := 174) (tgt := 207) hX dL_law_33 (by decide) (by decide) (by decide) (by decide) ?_
        exact law_set hX hC q next hR
      · refine g_tableIn (off := 217) (tgt := 250) hX dL_law_33 (by decide) (by decide) (by decide) (by decide) ?_
        exact law_copy hX hC q next hR
      · refine g_tableIn (off := 280) (tgt := 313) hX dL_law_33 (by decide) (by decide) (by decide) (by decide) ?_
        exact law_drop hX hC q next hR
      · refine g_tableIn (off := 303) (tgt := 336) hX dL_law_33 (by decide) (by decide) (by decide) (by decide) ?_
        exact law_asks hX hC q next hR
      · refine g_tableIn (off := 346) (tgt := 379) hX dL_law_33 (by decide) (by decide) (by decide) (by decide) ?_
        exact law_told hX hC q next hR
      · refine g_tableIn (off := 389) (tgt := 422) hX dL_law_33 (by decide) (by decide) (by decide) (by decide) ?_
        exact law_came hX hC q next hR
      · refine g_tableIn (off := 412) (tgt := 445) hX dL_law_33 (by decide) (by decide) (by decide) (by decide) ?_
        exact law_feed hX hC q next hR
      · refine g_tableIn (off := 475) (tgt := 508) hX dL_law_33 (by decide) (by decide) (by decide) (by decide) ?_
        exact law_model hX hC q next hR
      · refine g_tableIn (off := 488) (tgt := 521) hX dL_law_33 (by decide) (by decide) (by decide) (by decide) ?_
        exact law_fault hX hC q next hR
      · refine g_tableIn (off := 501) (tgt := 534) hX dL_law_33 (by decide) (by decide) (by decide) (by decide) ?_
        exact law_weight hX hC q next hR
      · refine g_tableIn (off := 534) (tgt := 567) hX dL_law_33 (by decide) (by decide) (by decide) (by decide) ?_
        exact law_leave hX hC q next hR
      · refine g_tableIn (off := 567) (tgt := 600) hX dL_law_33 (by decide) (by decide) (by decide) (by decide) ?_
        exact law_make hX hC q next hR
      · refine g_tableIn (off := 630) (tgt := 663) hX dL_law_33 (by decide) (by decide) (by decide) (by decide) ?_
        exact law_stretch hX hC q next hR
      · refine g_tableIn (off := 653) (tgt := 686) hX dL_law_33 (by decide) (by decide) (by decide) (by decide) ?_
        exact law_house hX hC q next hR
      · refine g_tableIn (off := 696) (tgt := 729) hX dL_law_33 (by decide) (by decide) (by decide) (by decide) ?_
        exact law_number hX hC q next hR
      · refine g_tableIn (off := 739) (tgt := 772) hX dL_law_33 (by decide) (by decide) (by decide) (by decide) ?_
        exact law_unlike hX hC q next hR
      · refine g_tableIn (off := 762) (tgt := 795) hX dL_law_33 (by decide) (by decide) (by decide) (by decide) ?_
        exact law_worth hX hC q next hR
      · refine g_tableIn (off := 795) (tgt := 828) hX dL_law_33 (by decide) (by decide) (by decide) (by decide) ?_
        exact law_cost hX hC q next hR
      · refine g_tableIn (off := 818) (tgt := 851) hX dL_law_33 (by decide) (by decide) (by decide) (by decide) ?_
        exact law_best hX hC q next hR
      · refine g_tableIn (off := 841) (tgt := 874) hX dL_law_33 (by decide) (by decide) (by decide) (by decide) ?_
        exact law_shape hX hC q next hR
      · refine g_tableIn (off := 874) (tgt := 907) hX dL_law_33 (by decide) (by decide) (by decide) (by decide) ?_
        exact law_learn hX hC q next hR
      · refine g_tableIn (off := 947) (tgt := 980) hX dL_law_33 (by decide) (by decide) (by decide) (by decide) ?_
        exact law_guess hX hC q next hR
      · refine g_tableIn (off := 990) (tgt := 1023) hX dL_law_33 (by decide) (by decide) (by decide) (by decide) ?_
        exact law_kind hX hC q next hR
      · refine g_tableIn (off := 1013) (tgt := 1046) hX dL_law_33 (by decide) (by decide) (by decide) (by decide) ?_
        exact law_as hX hC q next hR
      · refine g_tableIn (off := 1046) (tgt := 1079) hX dL_law_33 (by decide) (by decide) (by decide) (by decide) ?_
        exact law_ask hX hC q next hR
      · refine g_tableIn (off := 1079) (tgt := 1112) hX dL_law_33 (by decide) (by decide) (by decide) (by decide) ?_
        exact law_trace hX hC q next hR
      · refine g_tableIn (off := 1102) (tgt := 1135) hX dL_law_33 (by decide) (by decide) (by decide) (by decide) ?_
        exact law_count hX hC q next hR
      · refine g_tableIn (off := 1125) (tgt := 1158) hX dL_law_33 (by decide) (by decide) (by decide) (by decide) ?_
        exact law_status hX hC q next hR
      · refine g_tableOut (tgt := 1171) hX dL_law_33 ((by rw [nI_toInt (by omega)]; omega)) (by decide) ?_
        exact next S hR
    · refine g_iload_n (i := 3) hX dL_law_18 rfl rfl ?_
      refine g_aload_n (i := 0) hX dL_law_19 rfl rfl ?_
      refine g_slen hX hC dL_law_20 ?_
      refine g_bipush hX dL_law_21 bp6 ?_
      refine g_isub hX dL_law_23 ?_
      refine g_icmp_gt (tgt := 1177) hX dL_law_24 (by decide) (fun _ => ?_) (fun h9 => absurd ((by rw [i_lt, eL, nI_toInt (by omega)]; omega)) h9)
      refine g_iconst hX dL_law_1177 ic1 ?_
      exact g_end hC dL_law_1178
