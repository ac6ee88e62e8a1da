/-! the class's next token -/
theorem c_nextToken {Γ : GG} {S : St} {n i0 : Nat} {b : Nat → Nat} (hb : BtC S n b) (hi : i0 ≤ n) (h4 : S.1 50 4 = nI i0) :
    kX8_nextToken Γ [.ref (Γ.1 50)] S (eV (fun S1 => S1.1 50 3 = nI (tkG b n i0) ∧ S1.1 50 4 = nI (tkE b n (tkG b n i0)) ∧ S1.1 50 5 = nI (tkK b n (tkG b n i0)) ∧ (tkK b n (tkG b n i0) = 2 → S1.1 50 6 = nI (valN b (tkG b n i0) (tkE b n (tkG b n i0) - tkG b n i0))) ∧ Fq [] [(50, 3), (50, 4), (50, 5), (50, 6)] S S1)) := by
  refine oX8_nextToken (fun X hX hE => ?_)
  have h400 := hb.1
  have hg : tkG b n i0 ≤ n := by have := (runE_ok (u := spc) (b := b) (n - i0) i0).2; unfold tkG; omega
  have A60 : ∀ T, T.1 50 3 = nI (tkG b n i0) → Fq [] [(50, 3), (50, 4), (50, 5), (50, 6)] S T → G Γ X T 60 [(0, .ref (Γ.1 50))] [] := by
    intro T h3 hF
    generalize tkG b n i0 = g at *
    refine g_aload_n (i := 0) hX dX8_nextToken_60 rfl rfl ?_
    refine g_aload_n (i := 0) hX dX8_nextToken_61 rfl rfl ?_
    refine fX8_24 hX dX8_nextToken_62 ?_
    refine pX8_27 hX dX8_nextToken_65 ?_
    rw [h3]
    have hFU : Fq [] [(50, 3), (50, 4), (50, 5), (50, 6)] S (pI T 50 4 (nI g)) := hF.I (by decide)
    have u3 : (pI T 50 4 (nI g)).1 50 3 = nI g := by rw [pR_self, upd_ne _ _ (by decide)]; exact h3
    have u4 : (pI T 50 4 (nI g)).1 50 4 = nI g := by rw [pR_self, upd_self]
    generalize pI T 50 4 (nI g) = U at *
    have hbU := hb.q hFU (by decide)
    by_cases hn : n ≤ g
    · have eE : tkE b n g = g := if_pos hn
      have eK : tkK b n g = 0 := if_pos hn
      rw [eE, eK] at hE
      refine g_aload_n (i := 0) hX dX8_nextToken_68 rfl rfl ?_
      refine fX8_24 hX dX8_nextToken_69 ?_
      refine g_aload_n (i := 0) hX dX8_nextToken_72 rfl rfl ?_
      refine fX8_20 hX dX8_nextToken_73 ?_
      refine g_icmp_lt (tgt := 87) hX dX8_nextToken_76 (by decide) (fun h9 => absurd h9 ((by rw [u3, hbU.2.1]; exact nI_nlt hn (by omega)))) (fun _ => ?_)
      refine g_aload_n (i := 0) hX dX8_nextToken_79 rfl rfl ?_
      refine g_iconst hX dX8_nextToken_80 ic0 ?_
      refine pX8_30 hX dX8_nextToken_81 ?_
      refine g_goto (tgt := 164) hX dX8_nextToken_84 (by decide) ?_
      refine g_vret (st := []) hX hE rfl dX8_nextToken_164 (⟨rfl, ?_, ?_, ?_, fun q => absurd q (by decide), hFU.I (by decide)⟩)
      · rw [pR_self, upd_ne _ _ (by decide)]; exact u3
      · rw [pR_self, upd_ne _ _ (by decide)]; exact u4
      · rw [pR_self, upd_self]; rfl
    · obtain ⟨e1, e2⟩ := hbU.2.2 g (by omega)
      have cL := c_isLetter (Γ := Γ) (S := U) e2
      have cF := c_isFigure (Γ := Γ) (S := U) e2
      have hlt : U.1 50 3 < U.1 50 2 := by rw [u3, hbU.2.1]; exact (lt_nI (by omega) (by omega)).mpr (by omega)
      by_cases q1 : ltr (b g) = true
      · have eE : tkE b n g = runE ltr b (n - g) g := by unfold tkE; rw [if_neg hn, if_pos q1]
        have eK : tkK b n g = 1 := by unfold tkK; rw [if_neg hn, if_pos q1]
        rw [eE, eK] at hE
        rw [if_pos q1] at cL
        refine g_aload_n (i := 0) hX dX8_nextToken_68 rfl rfl ?_
        refine fX8_24 hX dX8_nextToken_69 ?_
        refine g_aload_n (i := 0) hX dX8_nextToken_72 rfl rfl ?_
        refine fX8_20 hX dX8_nextToken_73 ?_
        refine g_icmp_lt (tgt := 87) hX dX8_nextToken_76 (by decide) (fun _ => ?_) (fun h9 => absurd (hlt) h9)
        refine g_aload_n (i := 0) hX dX8_nextToken_87 rfl rfl ?_
        refine fX8_9 hX dX8_nextToken_88 ?_
        refine g_aload_n (i := 0) hX dX8_nextToken_91 rfl rfl ?_
        refine fX8_24 hX dX8_nextToken_92 ?_
        refine g_ialoadN hX (ia51) (u3) ((show g < 400 by omega)) (by first | decide | assumption | omega) dX8_nextToken_95 ?_
        refine sX8_94 hX ⟨Nat.le_of_ble_eq_true rfl, Nat.le_of_ble_eq_true rfl⟩ (Nat.le_of_ble_eq_true rfl) dX8_nextToken_96 ((by rw [e1]; exact cL)) ?_
        refine g_if_eq (tgt := 109) hX dX8_nextToken_99 (by decide) (fun h9 => absurd h9 ((by decide))) (fun _ => ?_)
        refine g_aload_n (i := 0) hX dX8_nextToken_102 rfl rfl ?_
        refine eX8_98 hX ⟨Nat.le_of_ble_eq_true rfl, Nat.le_of_ble_eq_true rfl⟩ (Nat.le_of_ble_eq_true rfl) dX8_nextToken_103 ((c_takeWord hbU (by omega) u4)) (fun V hV => ?_)
        refine g_goto (tgt := 164) hX dX8_nextToken_106 (by decide) ?_
        refine g_vret (st := []) hX hE rfl dX8_nextToken_164 (⟨rfl, ?_, hV.1, hV.2.1, fun q => absurd q (by decide), hFU.tr (hV.2.2.mono (fun _ z => z) (by decide))⟩)
        rw [(hV.2.2.s (k := 50) (j := 3) (by decide)).1]; exact u3
      · rw [if_neg q1] at cL
        by_cases q2 : fgr (b g) = true
        · have eE : tkE b n g = runE fgr b (n - g) g := by unfold tkE; rw [if_neg hn, if_neg q1, if_pos q2]
          have eK : tkK b n g = if runE fgr b (n - g) g - g ≤ 4 then 2 else 4 := by unfold tkK; rw [if_neg hn, if_neg q1, if_pos q2, eE]
          rw [eE, eK] at hE
          rw [if_pos q2] at cF
          refine g_aload_n (i := 0) hX dX8_nextToken_68 rfl rfl ?_
          refine fX8_24 hX dX8_nextToken_69 ?_
          refine g_aload_n (i := 0) hX dX8_nextToken_72 rfl rfl ?_
          refine fX8_20 hX dX8_nextToken_73 ?_
          refine g_icmp_lt (tgt := 87) hX dX8_nextToken_76 (by decide) (fun _ => ?_) (fun h9 => absurd (hlt) h9)
          refine g_aload_n (i := 0) hX dX8_nextToken_87 rfl rfl ?_
          refine fX8_9 hX dX8_nextToken_88 ?_
          refine g_aload_n (i := 0) hX dX8_nextToken_91 rfl rfl ?_
          refine fX8_24 hX dX8_nextToken_92 ?_
          refine g_ialoadN hX (ia51) (u3) ((show g < 400 by omega)) (by first | decide | assumption | omega) dX8_nextToken_95 ?_
          refine sX8_94 hX ⟨Nat.le_of_ble_eq_true rfl, Nat.le_of_ble_eq_true rfl⟩ (Nat.le_of_ble_eq_true rfl) dX8_nextToken_96 ((by rw [e1]; exact cL)) ?_
          refine g_if_eq (tgt := 109) hX dX8_nextToken_99 (by decide) (fun _ => ?_) (fun h9 => absurd (rfl) h9)
          refine g_aload_n (i := 0) hX dX8_nextToken_109 rfl rfl ?_
          refine fX8_9 hX dX8_nextToken_110 ?_
          refine g_aload_n (i := 0) hX dX8_nextToken_113 rfl rfl ?_
          refine fX8_24 hX dX8_nextToken_114 ?_
          refine g_ialoadN hX (ia51) (u3) ((show g < 400 by omega)) (by first | decide | assumption | omega) dX8_nextToken_117 ?_
          refine sX8_101 hX ⟨Nat.le_of_ble_eq_true rfl, Nat.le_of_ble_eq_true rfl⟩ (Nat.le_of_ble_eq_true rfl) dX8_nextToken_118 ((by rw [e1]; exact cF)) ?_
          refine g_if_eq (tgt := 131) hX dX8_nextToken_121 (by decide) (fun h9 => absurd h9 ((by decide))) (fun _ => ?_)
          refine g_aload_n (i := 0) hX dX8_nextToken_124 rfl rfl ?_
          refine eX8_104 hX ⟨Nat.le_of_ble_eq_true rfl, Nat.le_of_ble_eq_true rfl⟩ (Nat.le_of_ble_eq_true rfl) dX8_nextToken_125 ((c_takeFigures hbU (by omega) u3 u4)) (fun V hV => ?_)
          refine g_goto (tgt := 164) hX dX8_nextToken_128 (by decide) ?_
          refine g_vret (st := []) hX hE rfl dX8_nextToken_164 (⟨rfl, ?_, hV.1, hV.2.1, fun _ => hV.2.2.1, hFU.tr (hV.2.2.2.mono (fun _ z => z) (by decide))⟩)
          rw [(hV.2.2.2.s (k := 50) (j := 3) (by decide)).1]; exact u3
        · rw [if_neg q2] at cF
          have eE : tkE b n g = g + 1 := by unfold tkE; rw [if_neg hn, if_neg q1, if_neg q2]
          by_cases q3 : b g = 59
          · have eK : tkK b n g = 3 := by unfold tkK; rw [if_neg hn, if_neg q1, if_neg q2, if_pos q3]
            rw [eE, eK] at hE
            refine g_aload_n (i := 0) hX dX8_nextToken_68 rfl rfl ?_
            refine fX8_24 hX dX8_nextToken_69 ?_
            refine g_aload_n (i := 0) hX dX8_nextToken_72 rfl rfl ?_
            refine fX8_20 hX dX8_nextToken_73 ?_
            refine g_icmp_lt (tgt := 87) hX dX8_nextToken_76 (by decide) (fun _ => ?_) (fun h9 => absurd (hlt) h9)
            refine g_aload_n (i := 0) hX dX8_nextToken_87 rfl rfl ?_
            refine fX8_9 hX dX8_nextToken_88 ?_
            refine g_aload_n (i := 0) hX dX8_nextToken_91 rfl rfl ?_
            refine fX8_24 hX dX8_nextToken_92 ?_
            refine g_ialoadN hX (ia51) (u3) ((show g < 400 by omega)) (by first | decide | assumption | omega) dX8_nextToken_95 ?_
            refine sX8_94 hX ⟨Nat.le_of_ble_eq_true rfl, Nat.le_of_ble_eq_true rfl⟩ (Nat.le_of_ble_eq_true rfl) dX8_nextToken_96 ((by rw [e1]; exact cL)) ?_
            refine g_if_eq (tgt := 109) hX dX8_nextToken_99 (by decide) (fun _ => ?_) (fun h9 => absurd (rfl) h9)
            refine g_aload_n (i := 0) hX dX8_nextToken_109 rfl rfl ?_
            refine fX8_9 hX dX8_nextToken_110 ?_
            refine g_aload_n (i := 0) hX dX8_nextToken_113 rfl rfl ?_
            refine fX8_24 hX dX8_nextToken_114 ?_
            refine g_ialoadN hX (ia51) (u3) ((show g < 400 by omega)) (by first | decide | assumption | omega) dX8_nextToken_117 ?_
            refine sX8_101 hX ⟨Nat.le_of_ble_eq_true rfl, Nat.le_of_ble_eq_true rfl⟩ (Nat.le_of_ble_eq_true rfl) dX8_nextToken_118 ((by rw [e1]; exact cF)) ?_
            refine g_if_eq (tgt := 131) hX dX8_nextToken_121 (by decide) (fun _ => ?_) (fun h9 => absurd (rfl) h9)
            refine g_aload_n (i := 0) hX dX8_nextToken_131 rfl rfl ?_
            refine g_aload_n (i := 0) hX dX8_nextToken_132 rfl rfl ?_
            refine fX8_9 hX dX8_nextToken_133 ?_
            refine g_aload_n (i := 0) hX dX8_nextToken_136 rfl rfl ?_
            refine fX8_24 hX dX8_nextToken_137 ?_
            refine g_ialoadN hX (ia51) (u3) ((show g < 400 by omega)) (by first | decide | assumption | omega) dX8_nextToken_140 ?_
            refine g_bipush hX dX8_nextToken_141 bp59 ?_
            refine g_icmp_ne (tgt := 150) hX dX8_nextToken_143 (by decide) (fun h9 => absurd ((by rw [e1, q3]; rfl)) h9) (fun _ => ?_)
            refine g_iconst hX dX8_nextToken_146 ic3 ?_
            refine g_goto (tgt := 151) hX dX8_nextToken_147 (by decide) ?_
            refine pX8_30 hX dX8_nextToken_151 ?_
            have w3 : (pI U 50 5 3).1 50 3 = nI g := by rw [pR_self, upd_ne _ _ (by decide)]; exact u3
            refine g_aload_n (i := 0) hX dX8_nextToken_154 rfl rfl ?_
            refine g_aload_n (i := 0) hX dX8_nextToken_155 rfl rfl ?_
            refine fX8_24 hX dX8_nextToken_156 ?_
            refine g_iconst hX dX8_nextToken_159 ic1 ?_
            refine g_iadd hX dX8_nextToken_160 ?_
            refine pX8_27 hX dX8_nextToken_161 ?_
            refine g_vret (st := []) hX hE rfl dX8_nextToken_164 (⟨rfl, ?_, ?_, ?_, fun q => absurd q (by decide), (hFU.I (by decide)).I (by decide)⟩)
            · rw [pR_self, upd_ne _ _ (by decide)]; exact w3
            · rw [pR_self, upd_self, w3, nI_1]
            · rw [pR_self, upd_ne _ _ (by decide), pR_self, upd_self]; rfl
          · have eK : tkK b n g = 4 := by unfold tkK; rw [if_neg hn, if_neg q1, if_neg q2, if_neg q3]
            rw [eE, eK] at hE
            refine g_aload_n (i := 0) hX dX8_nextToken_68 rfl rfl ?_
            refine fX8_24 hX dX8_nextToken_69 ?_
            refine g_aload_n (i := 0) hX dX8_nextToken_72 rfl rfl ?_
            refine fX8_20 hX dX8_nextToken_73 ?_
            refine g_icmp_lt (tgt := 87) hX dX8_nextToken_76 (by decide) (fun _ => ?_) (fun h9 => absurd (hlt) h9)
            refine g_aload_n (i := 0) hX dX8_nextToken_87 rfl rfl ?_
            refine fX8_9 hX dX8_nextToken_88 ?_
            refine g_aload_n (i := 0) hX dX8_nextToken_91 rfl rfl ?_
            refine fX8_24 hX dX8_nextToken_92 ?_
            refine g_ialoadN hX (ia51) (u3) ((show g < 400 by omega)) (by first | decide | assumption | omega) dX8_nextToken_95 ?_
            refine sX8_94 hX ⟨Nat.le_of_ble_eq_true rfl, Nat.le_of_ble_eq_true rfl⟩ (Nat.le_of_ble_eq_true rfl) dX8_nextToken_96 ((by rw [e1]; exact cL)) ?_
            refine g_if_eq (tgt := 109) hX dX8_nextToken_99 (by decide) (fun _ => ?_) (fun h9 => absurd (rfl) h9)
            refine g_aload_n (i := 0) hX dX8_nextToken_109 rfl rfl ?_
            refine fX8_9 hX dX8_nextToken_110 ?_
            refine g_aload_n (i := 0) hX dX8_nextToken_113 rfl rfl ?_
            refine fX8_24 hX dX8_nextToken_114 ?_
            refine g_ialoadN hX (ia51) (u3) ((show g < 400 by omega)) (by first | decide | assumption | omega) dX8_nextToken_117 ?_
            refine sX8_101 hX ⟨Nat.le_of_ble_eq_true rfl, Nat.le_of_ble_eq_true rfl⟩ (Nat.le_of_ble_eq_true rfl) dX8_nextToken_118 ((by rw [e1]; exact cF)) ?_
            refine g_if_eq (tgt := 131) hX dX8_nextToken_121 (by decide) (fun _ => ?_) (fun h9 => absurd (rfl) h9)
            refine g_aload_n (i := 0) hX dX8_nextToken_131 rfl rfl ?_
            refine g_aload_n (i := 0) hX dX8_nextToken_132 rfl rfl ?_
            refine fX8_9 hX dX8_nextToken_133 ?_
            refine g_aload_n (i := 0) hX dX8_nextToken_136 rfl rfl ?_
            refine fX8_24 hX dX8_nextToken_137 ?_
            refine g_ialoadN hX (ia51) (u3) ((show g < 400 by omega)) (by first | decide | assumption | omega) dX8_nextToken_140 ?_
            refine g_bipush hX dX8_nextToken_141 bp59 ?_
            refine g_icmp_ne (tgt := 150) hX dX8_nextToken_143 (by decide) (fun _ => ?_) (fun h9 => absurd h9 ((by rw [e1]; exact nI_ne (b := 59) (by omega) (by decide) q3)))
            refine g_iconst hX dX8_nextToken_150 ic4 ?_
            refine pX8_30 hX dX8_nextToken_151 ?_
            have w3 : (pI U 50 5 4).1 50 3 = nI g := by rw [pR_self, upd_ne _ _ (by decide)]; exact u3
            refine g_aload_n (i := 0) hX dX8_nextToken_154 rfl rfl ?_
            refine g_aload_n (i := 0) hX dX8_nextToken_155 rfl rfl ?_
            refine fX8_24 hX dX8_nextToken_156 ?_
            refine g_iconst hX dX8_nextToken_159 ic1 ?_
            refine g_iadd hX dX8_nextToken_160 ?_
            refine pX8_27 hX dX8_nextToken_161 ?_
            refine g_vret (st := []) hX hE rfl dX8_nextToken_164 (⟨rfl, ?_, ?_, ?_, fun q => absurd q (by decide), (hFU.I (by decide)).I (by decide)⟩)
            · rw [pR_self, upd_ne _ _ (by decide)]; exact w3
            · rw [pR_self, upd_self, w3, nI_1]
            · rw [pR_self, upd_ne _ _ (by decide), pR_self, upd_self]; rfl
  have loop : ∀ d i T, i + d = n → T.1 50 3 = nI i → runE spc b d i = tkG b n i0 → Fq [] [(50, 3), (50, 4), (50, 5), (50, 6)] S T → G Γ X T 8 [(0, .ref (Γ.1 50))] [] := by
    intro d
    induction d with
    | zero =>
      intro i T hid h3 he hF
      obtain rfl : i = n := by omega
      have hbT := hb.q hF (by decide)
      rw [runE] at he
      refine g_aload_n (i := 0) hX dX8_nextToken_8 rfl rfl ?_
      refine fX8_24 hX dX8_nextToken_9 ?_
      refine g_aload_n (i := 0) hX dX8_nextToken_12 rfl rfl ?_
      refine fX8_20 hX dX8_nextToken_13 ?_
      refine g_icmp_ge (tgt := 60) hX dX8_nextToken_16 (by decide) (fun _ => ?_) (fun h9 => absurd ((by rw [h3, hbT.2.1]; exact Int32.le_refl _)) h9)
      exact A60 T (by rw [h3]; exact congrArg nI he) hF
    | succ d ih =>
      intro i T hid h3 he hF
      have hbT := hb.q hF (by decide)
      obtain ⟨e1, e2⟩ := hbT.2.2 i (by omega)
      rw [runE] at he
      by_cases q1 : b i = 32
      · rw [if_pos (by unfold spc; rw [decide_eq_true_iff]; exact Or.inl q1)] at he
        refine g_aload_n (i := 0) hX dX8_nextToken_8 rfl rfl ?_
        refine fX8_24 hX dX8_nextToken_9 ?_
        refine g_aload_n (i := 0) hX dX8_nextToken_12 rfl rfl ?_
        refine fX8_20 hX dX8_nextToken_13 ?_
        refine g_icmp_ge (tgt := 60) hX dX8_nextToken_16 (by decide) (fun h9 => absurd h9 ((by rw [h3, hbT.2.1]; exact nI_ge (by omega) (by omega)))) (fun _ => ?_)
        refine g_aload_n (i := 0) hX dX8_nextToken_19 rfl rfl ?_
        refine fX8_9 hX dX8_nextToken_20 ?_
        refine g_aload_n (i := 0) hX dX8_nextToken_23 rfl rfl ?_
        refine fX8_24 hX dX8_nextToken_24 ?_
        refine g_ialoadN hX (ia51) (h3) ((show i < 400 by omega)) (by first | decide | assumption | omega) dX8_nextToken_27 ?_
        refine g_bipush hX dX8_nextToken_28 bp32 ?_
        refine g_icmp_eq (tgt := 47) hX dX8_nextToken_30 (by decide) (fun _ => ?_) (fun h9 => absurd ((by rw [e1, q1]; rfl)) h9)
        refine g_aload_n (i := 0) hX dX8_nextToken_47 rfl rfl ?_
        refine g_dup hX dX8_nextToken_48 rfl ?_
        refine fX8_24 hX dX8_nextToken_49 ?_
        refine g_iconst hX dX8_nextToken_52 ic1 ?_
        refine g_iadd hX dX8_nextToken_53 ?_
        refine pX8_24 hX dX8_nextToken_54 ?_
        refine g_goto (tgt := 8) hX dX8_nextToken_57 (by decide) ?_
        rw [h3, nI_1]
        exact ih (i + 1) _ (by omega) (by rw [pR_self, upd_self]) he (hF.I (by decide))
      · have n1 : ¬ T.1 51 i = 32 := by rw [e1]; exact nI_ne (b := 32) (by omega) (by decide) q1
        by_cases q2 : b i = 10
        · rw [if_pos (by unfold spc; rw [decide_eq_true_iff]; exact Or.inr q2)] at he
          refine g_aload_n (i := 0) hX dX8_nextToken_8 rfl rfl ?_
          refine fX8_24 hX dX8_nextToken_9 ?_
          refine g_aload_n (i := 0) hX dX8_nextToken_12 rfl rfl ?_
          refine fX8_20 hX dX8_nextToken_13 ?_
          refine g_icmp_ge (tgt := 60) hX dX8_nextToken_16 (by decide) (fun h9 => absurd h9 ((by rw [h3, hbT.2.1]; exact nI_ge (by omega) (by omega)))) (fun _ => ?_)
          refine g_aload_n (i := 0) hX dX8_nextToken_19 rfl rfl ?_
          refine fX8_9 hX dX8_nextToken_20 ?_
          refine g_aload_n (i := 0) hX dX8_nextToken_23 rfl rfl ?_
          refine fX8_24 hX dX8_nextToken_24 ?_
          refine g_ialoadN hX (ia51) (h3) ((show i < 400 by omega)) (by first | decide | assumption | omega) dX8_nextToken_27 ?_
          refine g_bipush hX dX8_nextToken_28 bp32 ?_
          refine g_icmp_eq (tgt := 47) hX dX8_nextToken_30 (by decide) (fun h9 => absurd h9 (n1)) (fun _ => ?_)
          refine g_aload_n (i := 0) hX dX8_nextToken_33 rfl rfl ?_
          refine fX8_9 hX dX8_nextToken_34 ?_
          refine g_aload_n (i := 0) hX dX8_nextToken_37 rfl rfl ?_
          refine fX8_24 hX dX8_nextToken_38 ?_
          refine g_ialoadN hX (ia51) (h3) ((show i < 400 by omega)) (by first | decide | assumption | omega) dX8_nextToken_41 ?_
          refine g_bipush hX dX8_nextToken_42 bp10 ?_
          refine g_icmp_ne (tgt := 60) hX dX8_nextToken_44 (by decide) (fun h9 => absurd ((by rw [e1, q2]; rfl)) h9) (fun _ => ?_)
          refine g_aload_n (i := 0) hX dX8_nextToken_47 rfl rfl ?_
          refine g_dup hX dX8_nextToken_48 rfl ?_
          refine fX8_24 hX dX8_nextToken_49 ?_
          refine g_iconst hX dX8_nextToken_52 ic1 ?_
          refine g_iadd hX dX8_nextToken_53 ?_
          refine pX8_24 hX dX8_nextToken_54 ?_
          refine g_goto (tgt := 8) hX dX8_nextToken_57 (by decide) ?_
          rw [h3, nI_1]
          exact ih (i + 1) _ (by omega) (by rw [pR_self, upd_self]) he (hF.I (by decide))
        · rw [if_neg (by unfold spc; rw [decide_eq_true_iff]; exact fun z => z.elim q1 q2)] at he
          refine g_aload_n (i := 0) hX dX8_nextToken_8 rfl rfl ?_
          refine fX8_24 hX dX8_nextToken_9 ?_
          refine g_aload_n (i := 0) hX dX8_nextToken_12 rfl rfl ?_
          refine fX8_20 hX dX8_nextToken_13 ?_
          refine g_icmp_ge (tgt := 60) hX dX8_nextToken_16 (by decide) (fun h9 => absurd h9 ((by rw [h3, hbT.2.1]; exact nI_ge (by omega) (by omega)))) (fun _ => ?_)
          refine g_aload_n (i := 0) hX dX8_nextToken_19 rfl rfl ?_
          refine fX8_9 hX dX8_nextToken_20 ?_
          refine g_aload_n (i := 0) hX dX8_nextToken_23 rfl rfl ?_
          refine fX8_24 hX dX8_nextToken_24 ?_
          refine g_ialoadN hX (ia51) (h3) ((show i < 400 by omega)) (by first | decide | assumption | omega) dX8_nextToken_27 ?_
          refine g_bipush hX dX8_nextToken_28 bp32 ?_
          refine g_icmp_eq (tgt := 47) hX dX8_nextToken_30 (by decide) (fun h9 => absurd h9 (n1)) (fun _ => ?_)
          refine g_aload_n (i := 0) hX dX8_nextToken_33 rfl rfl ?_
          refine fX8_9 hX dX8_nextToken_34 ?_
          refine g_aload_n (i := 0) hX dX8_nextToken_37 rfl rfl ?_
          refine fX8_24 hX dX8_nextToken_38 ?_
          refine g_ialoadN hX (ia51) (h3) ((show i < 400 by omega)) (by first | decide | assumption | omega) dX8_nextToken_41 ?_
          refine g_bipush hX dX8_nextToken_42 bp10 ?_
          refine g_icmp_ne (tgt := 60) hX dX8_nextToken_44 (by decide) (fun _ => ?_) (fun h9 => absurd h9 ((by rw [e1]; exact nI_ne (b := 10) (by omega) (by decide) q2)))
          exact A60 T (by rw [h3]; exact congrArg nI he) hF
  refine g_aload_n (i := 0) hX dX8_nextToken_0 rfl rfl ?_
  refine g_aload_n (i := 0) hX dX8_nextToken_1 rfl rfl ?_
  refine fX8_27 hX dX8_nextToken_2 ?_
  refine pX8_24 hX dX8_nextToken_5 ?_
  exact loop (n - i0) i0 _ (by omega) (by rw [pR_self, upd_self]; exact h4) rfl (Fq.rf.I (by decide))
