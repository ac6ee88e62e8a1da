/-! the reference's next token: the walk -/
def kiR (k : Nat) : Nat := (k + 1) % 5
theorem c_nextR {Γ : GG} {S : St} {n i0 : Nat} {b : Nat → Nat} (hb : BtR S n b) (hi : i0 ≤ n) (h16 : S.1 67 16 = nI i0) :
    kX10_next Γ [.ref (Γ.1 67)] S (eV (fun S1 => S1.1 67 18 = nI (tkG b n i0) ∧ S1.1 67 16 = nI (tkE b n (tkG b n i0)) ∧ S1.1 67 19 = nI (tkE b n (tkG b n i0)) ∧ S1.1 67 17 = nI (kiR (tkK b n (tkG b n i0))) ∧ Fq [] [(67, 16), (67, 17), (67, 18), (67, 19)] S S1)) := by
  refine oX10_next (fun X hX hE => ?_)
  have h400 := hb.1
  have hg : tkG b n i0 ≤ n := by have := (runE_ok (u := spc) (b := b) (n - i0) i0).2; unfold tkG; omega
  have A196 : ∀ T v, T.1 67 18 = nI (tkG b n i0) → T.1 67 16 = nI (tkE b n (tkG b n i0)) → T.1 67 17 = nI (kiR (tkK b n (tkG b n i0))) → Fq [] [(67, 16), (67, 17), (67, 18), (67, 19)] S T → G Γ X T 196 [(0, .ref (Γ.1 67)), (1, .int v)] [] := by
    intro T v t1 t2 t3 hF
    refine g_aload_n (i := 0) hX dX10_next_196 rfl rfl ?_
    refine g_aload_n (i := 0) hX dX10_next_197 rfl rfl ?_
    refine fX10_140 hX dX10_next_198 ?_
    refine pX10_158 hX dX10_next_201 ?_
    refine g_vret (st := []) hX hE rfl dX10_next_204 (⟨rfl, ?_, ?_, ?_, ?_, hF.I (by decide)⟩)
    · rw [pR_self, upd_ne _ _ (by decide)]; exact t1
    · rw [pR_self, upd_ne _ _ (by decide)]; exact t2
    · rw [pR_self, upd_self]; exact t2
    · rw [pR_self, upd_ne _ _ (by decide)]; exact t3
  have A39 : ∀ T, T.1 67 16 = nI (tkG b n i0) → Fq [] [(67, 16), (67, 17), (67, 18), (67, 19)] S T → G Γ X T 39 [(0, .ref (Γ.1 67))] [] := by
    intro T h16 hF
    generalize tkG b n i0 = g at *
    refine g_aload_n (i := 0) hX dX10_next_39 rfl rfl ?_
    refine g_aload_n (i := 0) hX dX10_next_40 rfl rfl ?_
    refine fX10_140 hX dX10_next_41 ?_
    refine pX10_146 hX dX10_next_44 ?_
    rw [h16]
    have hFU : Fq [] [(67, 16), (67, 17), (67, 18), (67, 19)] S (pI T 67 18 (nI g)) := hF.I (by decide)
    have u16 : (pI T 67 18 (nI g)).1 67 16 = nI g := by rw [pR_self, upd_ne _ _ (by decide)]; exact h16
    have u18 : (pI T 67 18 (nI g)).1 67 18 = nI g := by rw [pR_self, upd_self]
    generalize pI T 67 18 (nI g) = U at *
    have hbU := hb.q hFU (by decide)
    have cb := c_byteAt (Γ := Γ) hbU hg
    by_cases hn : n ≤ g
    · have eE : tkE b n g = g := if_pos hn
      have eK : kiR (tkK b n g) = 1 := by rw [show tkK b n g = 0 from if_pos hn]; rfl
      rw [eE, eK] at A196
      rw [if_neg (by omega)] at cb
      refine g_aload_n (i := 0) hX dX10_next_47 rfl rfl ?_
      refine g_aload_n (i := 0) hX dX10_next_48 rfl rfl ?_
      refine fX10_140 hX dX10_next_49 ?_
      refine sX10_143 hX ⟨Nat.le_of_ble_eq_true rfl, Nat.le_of_ble_eq_true rfl⟩ (Nat.le_of_ble_eq_true rfl) dX10_next_52 ((by rw [u16]; exact cb)) ?_
      refine g_istore_n (i := 1) hX dX10_next_55 rfl (by decide) rfl ?_
      refine g_iload_n (i := 1) hX dX10_next_56 rfl rfl ?_
      refine g_ldc hX ccX10_106 dX10_next_57 ?_
      refine g_icmp_ne (tgt := 70) hX dX10_next_59 (by decide) (fun h9 => absurd (rfl) h9) (fun _ => ?_)
      refine g_aload_n (i := 0) hX dX10_next_62 rfl rfl ?_
      refine g_iconst hX dX10_next_63 ic1 ?_
      refine pX10_149 hX dX10_next_64 ?_
      refine g_goto (tgt := 196) hX dX10_next_67 (by decide) ?_
      refine A196 _ _ ?_ ?_ ?_ (hFU.I (by decide))
      · rw [pR_self, upd_ne _ _ (by decide)]; exact u18
      · rw [pR_self, upd_ne _ _ (by decide)]; exact u16
      · rw [pR_self, upd_self]; rfl
    · obtain ⟨e1, e2⟩ := hbU.2.2 g (by omega)
      rw [if_pos (by omega)] at cb
      have cL := c_isLetterR (Γ := Γ) (S := U) e2
      have cF := c_isFigureR (Γ := Γ) (S := U) e2
      by_cases q1 : ltr (b g) = true
      · have eE : tkE b n g = runE ltr b (n - g) g := by unfold tkE; rw [if_neg hn, if_pos q1]
        have eK : kiR (tkK b n g) = 2 := by rw [show tkK b n g = 1 by unfold tkK; rw [if_neg hn, if_pos q1]]; rfl
        rw [eE, eK] at A196
        rw [if_pos q1] at cL
        have fin : ∀ V v, V.1 67 18 = nI g → V.1 67 16 = nI (runE ltr b (n - g) g) → Fq [] [(67, 16), (67, 17), (67, 18), (67, 19)] S V → G Γ X V 104 [(0, .ref (Γ.1 67)), (1, .int v)] [] := by
          intro V v t1 t2 hFV
          refine g_aload_n (i := 0) hX dX10_next_104 rfl rfl ?_
          refine g_iconst hX dX10_next_105 ic2 ?_
          refine pX10_149 hX dX10_next_106 ?_
          refine g_goto (tgt := 196) hX dX10_next_109 (by decide) ?_
          refine A196 _ _ ?_ ?_ ?_ (hFV.I (by decide))
          · rw [pR_self, upd_ne _ _ (by decide)]; exact t1
          · rw [pR_self, upd_ne _ _ (by decide)]; exact t2
          · rw [pR_self, upd_self]; rfl
        have loop : ∀ d i V v, i + d = n → V.1 67 16 = nI i → V.1 67 18 = nI g → runE ltr b d i = runE ltr b (n - g) g → Fq [] [(67, 16), (67, 17), (67, 18), (67, 19)] S V → G Γ X V 77 [(0, .ref (Γ.1 67)), (1, .int v)] [] := by
          intro d
          induction d with
          | zero =>
            intro i V v hid v16 v18 he hFV
            have hbV := hb.q hFV (by decide)
            have cb2 := c_byteAt (Γ := Γ) hbV (show i ≤ n by omega)
            rw [if_neg (by omega)] at cb2
            rw [runE] at he
            refine g_aload_n (i := 0) hX dX10_next_77 rfl rfl ?_
            refine g_aload_n (i := 0) hX dX10_next_78 rfl rfl ?_
            refine fX10_140 hX dX10_next_79 ?_
            refine sX10_143 hX ⟨Nat.le_of_ble_eq_true rfl, Nat.le_of_ble_eq_true rfl⟩ (Nat.le_of_ble_eq_true rfl) dX10_next_82 ((by rw [v16]; exact cb2)) ?_
            refine sX10_152 hX ⟨Nat.le_of_ble_eq_true rfl, Nat.le_of_ble_eq_true rfl⟩ (Nat.le_of_ble_eq_true rfl) dX10_next_85 (c_isLetterN) ?_
            refine g_if_eq (tgt := 104) hX dX10_next_88 (by decide) (fun _ => ?_) (fun h9 => absurd (rfl) h9)
            exact fin V v v18 (by rw [v16]; exact congrArg nI he) hFV
          | succ d ih =>
            intro i V v hid v16 v18 he hFV
            have hbV := hb.q hFV (by decide)
            have cb2 := c_byteAt (Γ := Γ) hbV (show i ≤ n by omega)
            rw [if_pos (by omega)] at cb2
            have cL2 := c_isLetterR (Γ := Γ) (S := V) (hbV.2.2 i (by omega)).2
            rw [runE] at he
            by_cases q : ltr (b i) = true
            · rw [if_pos q] at he cL2
              refine g_aload_n (i := 0) hX dX10_next_77 rfl rfl ?_
              refine g_aload_n (i := 0) hX dX10_next_78 rfl rfl ?_
              refine fX10_140 hX dX10_next_79 ?_
              refine sX10_143 hX ⟨Nat.le_of_ble_eq_true rfl, Nat.le_of_ble_eq_true rfl⟩ (Nat.le_of_ble_eq_true rfl) dX10_next_82 ((by rw [v16]; exact cb2)) ?_
              refine sX10_152 hX ⟨Nat.le_of_ble_eq_true rfl, Nat.le_of_ble_eq_true rfl⟩ (Nat.le_of_ble_eq_true rfl) dX10_next_85 (cL2) ?_
              refine g_if_eq (tgt := 104) hX dX10_next_88 (by decide) (fun h9 => absurd h9 ((by decide))) (fun _ => ?_)
              refine g_aload_n (i := 0) hX dX10_next_91 rfl rfl ?_
              refine g_dup hX dX10_next_92 rfl ?_
              refine fX10_140 hX dX10_next_93 ?_
              refine g_iconst hX dX10_next_96 ic1 ?_
              refine g_iadd hX dX10_next_97 ?_
              refine pX10_140 hX dX10_next_98 ?_
              refine g_goto (tgt := 77) hX dX10_next_101 (by decide) ?_
              rw [v16, nI_1]
              exact ih (i + 1) _ _ (by omega) (by rw [pR_self, upd_self]) (by rw [pR_self, upd_ne _ _ (by decide)]; exact v18) he (hFV.I (by decide))
            · rw [if_neg q] at he cL2
              refine g_aload_n (i := 0) hX dX10_next_77 rfl rfl ?_
              refine g_aload_n (i := 0) hX dX10_next_78 rfl rfl ?_
              refine fX10_140 hX dX10_next_79 ?_
              refine sX10_143 hX ⟨Nat.le_of_ble_eq_true rfl, Nat.le_of_ble_eq_true rfl⟩ (Nat.le_of_ble_eq_true rfl) dX10_next_82 ((by rw [v16]; exact cb2)) ?_
              refine sX10_152 hX ⟨Nat.le_of_ble_eq_true rfl, Nat.le_of_ble_eq_true rfl⟩ (Nat.le_of_ble_eq_true rfl) dX10_next_85 (cL2) ?_
              refine g_if_eq (tgt := 104) hX dX10_next_88 (by decide) (fun _ => ?_) (fun h9 => absurd (rfl) h9)
              exact fin V v v18 (by rw [v16]; exact congrArg nI he) hFV
        refine g_aload_n (i := 0) hX dX10_next_47 rfl rfl ?_
        refine g_aload_n (i := 0) hX dX10_next_48 rfl rfl ?_
        refine fX10_140 hX dX10_next_49 ?_
        refine sX10_143 hX ⟨Nat.le_of_ble_eq_true rfl, Nat.le_of_ble_eq_true rfl⟩ (Nat.le_of_ble_eq_true rfl) dX10_next_52 ((by rw [u16]; exact cb)) ?_
        refine g_istore_n (i := 1) hX dX10_next_55 rfl (by decide) rfl ?_
        refine g_iload_n (i := 1) hX dX10_next_56 rfl rfl ?_
        refine g_ldc hX ccX10_106 dX10_next_57 ?_
        refine g_icmp_ne (tgt := 70) hX dX10_next_59 (by decide) (fun _ => ?_) (fun h9 => absurd h9 (nI_nN (by omega)))
        refine g_iload_n (i := 1) hX dX10_next_70 rfl rfl ?_
        refine sX10_152 hX ⟨Nat.le_of_ble_eq_true rfl, Nat.le_of_ble_eq_true rfl⟩ (Nat.le_of_ble_eq_true rfl) dX10_next_71 (cL) ?_
        refine g_if_eq (tgt := 112) hX dX10_next_74 (by decide) (fun h9 => absurd h9 ((by decide))) (fun _ => ?_)
        exact loop (n - g) g U _ (by omega) u16 u18 rfl hFU
      · rw [if_neg q1] at cL
        by_cases q2 : fgr (b g) = true
        · have eE : tkE b n g = runE fgr b (n - g) g := by unfold tkE; rw [if_neg hn, if_neg q1, if_pos q2]
          have eK : tkK b n g = if runE fgr b (n - g) g - g ≤ 4 then 2 else 4 := by unfold tkK; rw [if_neg hn, if_neg q1, if_pos q2, eE]
          rw [eE, eK] at A196
          rw [if_pos q2] at cF
          have hro := runE_ok (u := fgr) (b := b) (n - g) g
          have fin : ∀ V v, V.1 67 18 = nI g → V.1 67 16 = nI (runE fgr b (n - g) g) → Fq [] [(67, 16), (67, 17), (67, 18), (67, 19)] S V → G Γ X V 146 [(0, .ref (Γ.1 67)), (1, .int v)] [] := by
            intro V v t1 t2 hFV
            have es : V.1 67 16 - V.1 67 18 = nI (runE fgr b (n - g) g - g) := by rw [t1, t2, nI_sub (by omega)]
            by_cases q : runE fgr b (n - g) g - g ≤ 4
            · rw [if_pos q] at A196
              refine g_aload_n (i := 0) hX dX10_next_146 rfl rfl ?_
              refine g_aload_n (i := 0) hX dX10_next_147 rfl rfl ?_
              refine fX10_140 hX dX10_next_148 ?_
              refine g_aload_n (i := 0) hX dX10_next_151 rfl rfl ?_
              refine fX10_146 hX dX10_next_152 ?_
              refine g_isub hX dX10_next_155 ?_
              refine g_iconst hX dX10_next_156 ic4 ?_
              refine g_icmp_le (tgt := 164) hX dX10_next_157 (by decide) (fun _ => ?_) (fun h9 => absurd ((by rw [es]; exact nI_le (b := 4) q (by decide))) h9)
              refine g_iconst hX dX10_next_164 ic3 ?_
              refine pX10_149 hX dX10_next_165 ?_
              refine g_goto (tgt := 196) hX dX10_next_168 (by decide) ?_
              refine A196 _ _ ?_ ?_ ?_ (hFV.I (by decide))
              · rw [pR_self, upd_ne _ _ (by decide)]; exact t1
              · rw [pR_self, upd_ne _ _ (by decide)]; exact t2
              · rw [pR_self, upd_self]; rfl
            · rw [if_neg q] at A196
              refine g_aload_n (i := 0) hX dX10_next_146 rfl rfl ?_
              refine g_aload_n (i := 0) hX dX10_next_147 rfl rfl ?_
              refine fX10_140 hX dX10_next_148 ?_
              refine g_aload_n (i := 0) hX dX10_next_151 rfl rfl ?_
              refine fX10_146 hX dX10_next_152 ?_
              refine g_isub hX dX10_next_155 ?_
              refine g_iconst hX dX10_next_156 ic4 ?_
              refine g_icmp_le (tgt := 164) hX dX10_next_157 (by decide) (fun h9 => absurd h9 ((by rw [es, i_le, nI_toInt (by omega), show (4 : Int32).toInt = 4 by decide]; omega))) (fun _ => ?_)
              refine g_iconst hX dX10_next_160 ic0 ?_
              refine g_goto (tgt := 165) hX dX10_next_161 (by decide) ?_
              refine pX10_149 hX dX10_next_165 ?_
              refine g_goto (tgt := 196) hX dX10_next_168 (by decide) ?_
              refine A196 _ _ ?_ ?_ ?_ (hFV.I (by decide))
              · rw [pR_self, upd_ne _ _ (by decide)]; exact t1
              · rw [pR_self, upd_ne _ _ (by decide)]; exact t2
              · rw [pR_self, upd_self]; rfl
          have loop : ∀ d i V v, i + d = n → V.1 67 16 = nI i → V.1 67 18 = nI g → runE fgr b d i = runE fgr b (n - g) g → Fq [] [(67, 16), (67, 17), (67, 18), (67, 19)] S V → G Γ X V 119 [(0, .ref (Γ.1 67)), (1, .int v)] [] := by
            intro d
            induction d with
            | zero =>
              intro i V v hid v16 v18 he hFV
              have hbV := hb.q hFV (by decide)
              have cb2 := c_byteAt (Γ := Γ) hbV (show i ≤ n by omega)
              rw [if_neg (by omega)] at cb2
              rw [runE] at he
              refine g_aload_n (i := 0) hX dX10_next_119 rfl rfl ?_
              refine g_aload_n (i := 0) hX dX10_next_120 rfl rfl ?_
              refine fX10_140 hX dX10_next_121 ?_
              refine sX10_143 hX ⟨Nat.le_of_ble_eq_true rfl, Nat.le_of_ble_eq_true rfl⟩ (Nat.le_of_ble_eq_true rfl) dX10_next_124 ((by rw [v16]; exact cb2)) ?_
              refine sX10_155 hX ⟨Nat.le_of_ble_eq_true rfl, Nat.le_of_ble_eq_true rfl⟩ (Nat.le_of_ble_eq_true rfl) dX10_next_127 (c_isFigureN) ?_
              refine g_if_eq (tgt := 146) hX dX10_next_130 (by decide) (fun _ => ?_) (fun h9 => absurd (rfl) h9)
              exact fin V v v18 (by rw [v16]; exact congrArg nI he) hFV
            | succ d ih =>
              intro i V v hid v16 v18 he hFV
              have hbV := hb.q hFV (by decide)
              have cb2 := c_byteAt (Γ := Γ) hbV (show i ≤ n by omega)
              rw [if_pos (by omega)] at cb2
              have cF2 := c_isFigureR (Γ := Γ) (S := V) (hbV.2.2 i (by omega)).2
              rw [runE] at he
              by_cases q : fgr (b i) = true
              · rw [if_pos q] at he cF2
                refine g_aload_n (i := 0) hX dX10_next_119 rfl rfl ?_
                refine g_aload_n (i := 0) hX dX10_next_120 rfl rfl ?_
                refine fX10_140 hX dX10_next_121 ?_
                refine sX10_143 hX ⟨Nat.le_of_ble_eq_true rfl, Nat.le_of_ble_eq_true rfl⟩ (Nat.le_of_ble_eq_true rfl) dX10_next_124 ((by rw [v16]; exact cb2)) ?_
                refine sX10_155 hX ⟨Nat.le_of_ble_eq_true rfl, Nat.le_of_ble_eq_true rfl⟩ (Nat.le_of_ble_eq_true rfl) dX10_next_127 (cF2) ?_
                refine g_if_eq (tgt := 146) hX dX10_next_130 (by decide) (fun h9 => absurd h9 ((by decide))) (fun _ => ?_)
                refine g_aload_n (i := 0) hX dX10_next_133 rfl rfl ?_
                refine g_dup hX dX10_next_134 rfl ?_
                refine fX10_140 hX dX10_next_135 ?_
                refine g_iconst hX dX10_next_138 ic1 ?_
                refine g_iadd hX dX10_next_139 ?_
                refine pX10_140 hX dX10_next_140 ?_
                refine g_goto (tgt := 119) hX dX10_next_143 (by decide) ?_
                rw [v16, nI_1]
                exact ih (i + 1) _ _ (by omega) (by rw [pR_self, upd_self]) (by rw [pR_self, upd_ne _ _ (by decide)]; exact v18) he (hFV.I (by decide))
              · rw [if_neg q] at he cF2
                refine g_aload_n (i := 0) hX dX10_next_119 rfl rfl ?_
                refine g_aload_n (i := 0) hX dX10_next_120 rfl rfl ?_
                refine fX10_140 hX dX10_next_121 ?_
                refine sX10_143 hX ⟨Nat.le_of_ble_eq_true rfl, Nat.le_of_ble_eq_true rfl⟩ (Nat.le_of_ble_eq_true rfl) dX10_next_124 ((by rw [v16]; exact cb2)) ?_
                refine sX10_155 hX ⟨Nat.le_of_ble_eq_true rfl, Nat.le_of_ble_eq_true rfl⟩ (Nat.le_of_ble_eq_true rfl) dX10_next_127 (cF2) ?_
                refine g_if_eq (tgt := 146) hX dX10_next_130 (by decide) (fun _ => ?_) (fun h9 => absurd (rfl) h9)
                exact fin V v v18 (by rw [v16]; exact congrArg nI he) hFV
          refine g_aload_n (i := 0) hX dX10_next_47 rfl rfl ?_
          refine g_aload_n (i := 0) hX dX10_next_48 rfl rfl ?_
          refine fX10_140 hX dX10_next_49 ?_
          refine sX10_143 hX ⟨Nat.le_of_ble_eq_true rfl, Nat.le_of_ble_eq_true rfl⟩ (Nat.le_of_ble_eq_true rfl) dX10_next_52 ((by rw [u16]; exact cb)) ?_
          refine g_istore_n (i := 1) hX dX10_next_55 rfl (by decide) rfl ?_
          refine g_iload_n (i := 1) hX dX10_next_56 rfl rfl ?_
          refine g_ldc hX ccX10_106 dX10_next_57 ?_
          refine g_icmp_ne (tgt := 70) hX dX10_next_59 (by decide) (fun _ => ?_) (fun h9 => absurd h9 (nI_nN (by omega)))
          refine g_iload_n (i := 1) hX dX10_next_70 rfl rfl ?_
          refine sX10_152 hX ⟨Nat.le_of_ble_eq_true rfl, Nat.le_of_ble_eq_true rfl⟩ (Nat.le_of_ble_eq_true rfl) dX10_next_71 (cL) ?_
          refine g_if_eq (tgt := 112) hX dX10_next_74 (by decide) (fun _ => ?_) (fun h9 => absurd (rfl) h9)
          refine g_iload_n (i := 1) hX dX10_next_112 rfl rfl ?_
          refine sX10_155 hX ⟨Nat.le_of_ble_eq_true rfl, Nat.le_of_ble_eq_true rfl⟩ (Nat.le_of_ble_eq_true rfl) dX10_next_113 (cF) ?_
          refine g_if_eq (tgt := 171) hX dX10_next_116 (by decide) (fun h9 => absurd h9 ((by decide))) (fun _ => ?_)
          exact loop (n - g) g U _ (by omega) u16 u18 rfl hFU
        · rw [if_neg q2] at cF
          have eE : tkE b n g = g + 1 := by unfold tkE; rw [if_neg hn, if_neg q1, if_neg q2]
          have go : ∀ k, (pI (pI U 67 16 (nI (g + 1))) 67 17 k).1 67 18 = nI g ∧ (pI (pI U 67 16 (nI (g + 1))) 67 17 k).1 67 16 = nI (g + 1) ∧ (pI (pI U 67 16 (nI (g + 1))) 67 17 k).1 67 17 = k := by
            intro k
            refine ⟨?_, ?_, ?_⟩
            · rw [pR_self, upd_ne _ _ (by decide), pR_self, upd_ne _ _ (by decide)]; exact u18
            · rw [pR_self, upd_ne _ _ (by decide), pR_self, upd_self]
            · rw [pR_self, upd_self]
          by_cases q3 : b g = 59
          · have eK : kiR (tkK b n g) = 4 := by rw [show tkK b n g = 3 by unfold tkK; rw [if_neg hn, if_neg q1, if_neg q2, if_pos q3]]; rfl
            rw [eE, eK] at A196
            refine g_aload_n (i := 0) hX dX10_next_47 rfl rfl ?_
            refine g_aload_n (i := 0) hX dX10_next_48 rfl rfl ?_
            refine fX10_140 hX dX10_next_49 ?_
            refine sX10_143 hX ⟨Nat.le_of_ble_eq_true rfl, Nat.le_of_ble_eq_true rfl⟩ (Nat.le_of_ble_eq_true rfl) dX10_next_52 ((by rw [u16]; exact cb)) ?_
            refine g_istore_n (i := 1) hX dX10_next_55 rfl (by decide) rfl ?_
            refine g_iload_n (i := 1) hX dX10_next_56 rfl rfl ?_
            refine g_ldc hX ccX10_106 dX10_next_57 ?_
            refine g_icmp_ne (tgt := 70) hX dX10_next_59 (by decide) (fun _ => ?_) (fun h9 => absurd h9 (nI_nN (by omega)))
            refine g_iload_n (i := 1) hX dX10_next_70 rfl rfl ?_
            refine sX10_152 hX ⟨Nat.le_of_ble_eq_true rfl, Nat.le_of_ble_eq_true rfl⟩ (Nat.le_of_ble_eq_true rfl) dX10_next_71 (cL) ?_
            refine g_if_eq (tgt := 112) hX dX10_next_74 (by decide) (fun _ => ?_) (fun h9 => absurd (rfl) h9)
            refine g_iload_n (i := 1) hX dX10_next_112 rfl rfl ?_
            refine sX10_155 hX ⟨Nat.le_of_ble_eq_true rfl, Nat.le_of_ble_eq_true rfl⟩ (Nat.le_of_ble_eq_true rfl) dX10_next_113 (cF) ?_
            refine g_if_eq (tgt := 171) hX dX10_next_116 (by decide) (fun _ => ?_) (fun h9 => absurd (rfl) h9)
            refine g_aload_n (i := 0) hX dX10_next_171 rfl rfl ?_
            refine g_dup hX dX10_next_172 rfl ?_
            refine fX10_140 hX dX10_next_173 ?_
            refine g_iconst hX dX10_next_176 ic1 ?_
            refine g_iadd hX dX10_next_177 ?_
            refine pX10_140 hX dX10_next_178 ?_
            refine g_aload_n (i := 0) hX dX10_next_181 rfl rfl ?_
            refine g_iload_n (i := 1) hX dX10_next_182 rfl rfl ?_
            refine g_bipush hX dX10_next_183 bp59 ?_
            refine g_icmp_ne (tgt := 192) hX dX10_next_185 (by decide) (fun h9 => absurd ((by rw [q3]; rfl)) h9) (fun _ => ?_)
            refine g_iconst hX dX10_next_188 ic4 ?_
            refine g_goto (tgt := 193) hX dX10_next_189 (by decide) ?_
            refine pX10_149 hX dX10_next_193 ?_
            rw [u16, nI_1]
            exact A196 _ _ (go _).1 (go _).2.1 (go _).2.2 ((hFU.I (by decide)).I (by decide))
          · have eK : kiR (tkK b n g) = 0 := by rw [show tkK b n g = 4 by unfold tkK; rw [if_neg hn, if_neg q1, if_neg q2, if_neg q3]]; rfl
            rw [eE, eK] at A196
            refine g_aload_n (i := 0) hX dX10_next_47 rfl rfl ?_
            refine g_aload_n (i := 0) hX dX10_next_48 rfl rfl ?_
            refine fX10_140 hX dX10_next_49 ?_
            refine sX10_143 hX ⟨Nat.le_of_ble_eq_true rfl, Nat.le_of_ble_eq_true rfl⟩ (Nat.le_of_ble_eq_true rfl) dX10_next_52 ((by rw [u16]; exact cb)) ?_
            refine g_istore_n (i := 1) hX dX10_next_55 rfl (by decide) rfl ?_
            refine g_iload_n (i := 1) hX dX10_next_56 rfl rfl ?_
            refine g_ldc hX ccX10_106 dX10_next_57 ?_
            refine g_icmp_ne (tgt := 70) hX dX10_next_59 (by decide) (fun _ => ?_) (fun h9 => absurd h9 (nI_nN (by omega)))
            refine g_iload_n (i := 1) hX dX10_next_70 rfl rfl ?_
            refine sX10_152 hX ⟨Nat.le_of_ble_eq_true rfl, Nat.le_of_ble_eq_true rfl⟩ (Nat.le_of_ble_eq_true rfl) dX10_next_71 (cL) ?_
            refine g_if_eq (tgt := 112) hX dX10_next_74 (by decide) (fun _ => ?_) (fun h9 => absurd (rfl) h9)
            refine g_iload_n (i := 1) hX dX10_next_112 rfl rfl ?_
            refine sX10_155 hX ⟨Nat.le_of_ble_eq_true rfl, Nat.le_of_ble_eq_true rfl⟩ (Nat.le_of_ble_eq_true rfl) dX10_next_113 (cF) ?_
            refine g_if_eq (tgt := 171) hX dX10_next_116 (by decide) (fun _ => ?_) (fun h9 => absurd (rfl) h9)
            refine g_aload_n (i := 0) hX dX10_next_171 rfl rfl ?_
            refine g_dup hX dX10_next_172 rfl ?_
            refine fX10_140 hX dX10_next_173 ?_
            refine g_iconst hX dX10_next_176 ic1 ?_
            refine g_iadd hX dX10_next_177 ?_
            refine pX10_140 hX dX10_next_178 ?_
            refine g_aload_n (i := 0) hX dX10_next_181 rfl rfl ?_
            refine g_iload_n (i := 1) hX dX10_next_182 rfl rfl ?_
            refine g_bipush hX dX10_next_183 bp59 ?_
            refine g_icmp_ne (tgt := 192) hX dX10_next_185 (by decide) (fun _ => ?_) (fun h9 => absurd h9 (nI_ne (b := 59) (by omega) (by decide) q3))
            refine g_iconst hX dX10_next_192 ic0 ?_
            refine pX10_149 hX dX10_next_193 ?_
            rw [u16, nI_1]
            exact A196 _ _ (go _).1 (go _).2.1 (go _).2.2 ((hFU.I (by decide)).I (by decide))
  have loop : ∀ d i T, i + d = n → T.1 67 16 = nI i → runE spc b d i = tkG b n i0 → Fq [] [(67, 16), (67, 17), (67, 18), (67, 19)] S T → G Γ X T 0 [(0, .ref (Γ.1 67))] [] := by
    intro d
    induction d with
    | zero =>
      intro i T hid t16 he hF
      have hbT := hb.q hF (by decide)
      have cb2 := c_byteAt (Γ := Γ) hbT (show i ≤ n by omega)
      rw [if_neg (by omega)] at cb2
      rw [runE] at he
      refine g_aload_n (i := 0) hX dX10_next_0 rfl rfl ?_
      refine g_aload_n (i := 0) hX dX10_next_1 rfl rfl ?_
      refine fX10_140 hX dX10_next_2 ?_
      refine sX10_143 hX ⟨Nat.le_of_ble_eq_true rfl, Nat.le_of_ble_eq_true rfl⟩ (Nat.le_of_ble_eq_true rfl) dX10_next_5 ((by rw [t16]; exact cb2)) ?_
      refine g_bipush hX dX10_next_8 bp32 ?_
      refine g_icmp_eq (tgt := 26) hX dX10_next_10 (by decide) (fun h9 => absurd h9 ((by decide))) (fun _ => ?_)
      refine g_aload_n (i := 0) hX dX10_next_13 rfl rfl ?_
      refine g_aload_n (i := 0) hX dX10_next_14 rfl rfl ?_
      refine fX10_140 hX dX10_next_15 ?_
      refine sX10_143 hX ⟨Nat.le_of_ble_eq_true rfl, Nat.le_of_ble_eq_true rfl⟩ (Nat.le_of_ble_eq_true rfl) dX10_next_18 ((by rw [t16]; exact cb2)) ?_
      refine g_bipush hX dX10_next_21 bp10 ?_
      refine g_icmp_ne (tgt := 39) hX dX10_next_23 (by decide) (fun _ => ?_) (fun h9 => absurd h9 ((by decide)))
      exact A39 T (by rw [t16]; exact congrArg nI he) hF
    | succ d ih =>
      intro i T hid t16 he hF
      have hbT := hb.q hF (by decide)
      have cb2 := c_byteAt (Γ := Γ) hbT (show i ≤ n by omega)
      have e2 := (hbT.2.2 i (by omega)).2
      rw [if_pos (by omega)] at cb2
      rw [runE] at he
      by_cases q1 : b i = 32
      · rw [if_pos (by unfold spc; rw [decide_eq_true_iff]; exact Or.inl q1)] at he
        refine g_aload_n (i := 0) hX dX10_next_0 rfl rfl ?_
        refine g_aload_n (i := 0) hX dX10_next_1 rfl rfl ?_
        refine fX10_140 hX dX10_next_2 ?_
        refine sX10_143 hX ⟨Nat.le_of_ble_eq_true rfl, Nat.le_of_ble_eq_true rfl⟩ (Nat.le_of_ble_eq_true rfl) dX10_next_5 ((by rw [t16]; exact cb2)) ?_
        refine g_bipush hX dX10_next_8 bp32 ?_
        refine g_icmp_eq (tgt := 26) hX dX10_next_10 (by decide) (fun _ => ?_) (fun h9 => absurd ((by rw [q1]; rfl)) h9)
        refine g_aload_n (i := 0) hX dX10_next_26 rfl rfl ?_
        refine g_dup hX dX10_next_27 rfl ?_
        refine fX10_140 hX dX10_next_28 ?_
        refine g_iconst hX dX10_next_31 ic1 ?_
        refine g_iadd hX dX10_next_32 ?_
        refine pX10_140 hX dX10_next_33 ?_
        refine g_goto (tgt := 0) hX dX10_next_36 (by decide) ?_
        rw [t16, nI_1]
        exact ih (i + 1) _ (by omega) (by rw [pR_self, upd_self]) he (hF.I (by decide))
      · have n1 : ¬ nI (b i) = 32 := nI_ne (b := 32) (by omega) (by decide) q1
        by_cases q2 : b i = 10
        · rw [if_pos (by unfold spc; rw [decide_eq_true_iff]; exact Or.inr q2)] at he
          refine g_aload_n (i := 0) hX dX10_next_0 rfl rfl ?_
          refine g_aload_n (i := 0) hX dX10_next_1 rfl rfl ?_
          refine fX10_140 hX dX10_next_2 ?_
          refine sX10_143 hX ⟨Nat.le_of_ble_eq_true rfl, Nat.le_of_ble_eq_true rfl⟩ (Nat.le_of_ble_eq_true rfl) dX10_next_5 ((by rw [t16]; exact cb2)) ?_
          refine g_bipush hX dX10_next_8 bp32 ?_
          refine g_icmp_eq (tgt := 26) hX dX10_next_10 (by decide) (fun h9 => absurd h9 (n1)) (fun _ => ?_)
          refine g_aload_n (i := 0) hX dX10_next_13 rfl rfl ?_
          refine g_aload_n (i := 0) hX dX10_next_14 rfl rfl ?_
          refine fX10_140 hX dX10_next_15 ?_
          refine sX10_143 hX ⟨Nat.le_of_ble_eq_true rfl, Nat.le_of_ble_eq_true rfl⟩ (Nat.le_of_ble_eq_true rfl) dX10_next_18 ((by rw [t16]; exact cb2)) ?_
          refine g_bipush hX dX10_next_21 bp10 ?_
          refine g_icmp_ne (tgt := 39) hX dX10_next_23 (by decide) (fun h9 => absurd ((by rw [q2]; rfl)) h9) (fun _ => ?_)
          refine g_aload_n (i := 0) hX dX10_next_26 rfl rfl ?_
          refine g_dup hX dX10_next_27 rfl ?_
          refine fX10_140 hX dX10_next_28 ?_
          refine g_iconst hX dX10_next_31 ic1 ?_
          refine g_iadd hX dX10_next_32 ?_
          refine pX10_140 hX dX10_next_33 ?_
          refine g_goto (tgt := 0) hX dX10_next_36 (by decide) ?_
          rw [t16, nI_1]
          exact ih (i + 1) _ (by omega) (by rw [pR_self, upd_self]) he (hF.I (by decide))
        · rw [if_neg (by unfold spc; rw [decide_eq_true_iff]; exact fun z => z.elim q1 q2)] at he
          refine g_aload_n (i := 0) hX dX10_next_0 rfl rfl ?_
          refine g_aload_n (i := 0) hX dX10_next_1 rfl rfl ?_
          refine fX10_140 hX dX10_next_2 ?_
          refine sX10_143 hX ⟨Nat.le_of_ble_eq_true rfl, Nat.le_of_ble_eq_true rfl⟩ (Nat.le_of_ble_eq_true rfl) dX10_next_5 ((by rw [t16]; exact cb2)) ?_
          refine g_bipush hX dX10_next_8 bp32 ?_
          refine g_icmp_eq (tgt := 26) hX dX10_next_10 (by decide) (fun h9 => absurd h9 (n1)) (fun _ => ?_)
          refine g_aload_n (i := 0) hX dX10_next_13 rfl rfl ?_
          refine g_aload_n (i := 0) hX dX10_next_14 rfl rfl ?_
          refine fX10_140 hX dX10_next_15 ?_
          refine sX10_143 hX ⟨Nat.le_of_ble_eq_true rfl, Nat.le_of_ble_eq_true rfl⟩ (Nat.le_of_ble_eq_true rfl) dX10_next_18 ((by rw [t16]; exact cb2)) ?_
          refine g_bipush hX dX10_next_21 bp10 ?_
          refine g_icmp_ne (tgt := 39) hX dX10_next_23 (by decide) (fun _ => ?_) (fun h9 => absurd h9 (nI_ne (b := 10) (by omega) (by decide) q2))
          exact A39 T (by rw [t16]; exact congrArg nI he) hF
  exact loop (n - i0) i0 S (by omega) h16 rfl Fq.rf
