/-- the grid, point by point: the best so far and its cost -/
def bq (cv : Nat → Int32) : Nat → Int32 × Int32
  | 0 => (-1000000, -1000000)
  | q + 1 => if ¬ cv q = -1000000 ∧ ((bq cv q).2 = -1000000 ∨ cv q < (bq cv q).2) then (nI (10 * (q / 9) + (q % 9 + 1)), cv q) else bq cv q
theorem nI_nN {n : Nat} (h : n < 2 ^ 31) : ¬ nI n = (-1000000 : Int32) := by
  rw [i_eq, nI_toInt h, show (-1000000 : Int32).toInt = -1000000 by decide]; omega
theorem bq_none (cv : Nat → Int32) : ∀ q, q ≤ 36 → ((bq cv q).1 = -1000000 ↔ (bq cv q).2 = -1000000) := by
  intro q
  induction q with
  | zero => intro _; exact Iff.rfl
  | succ q ih =>
    intro hq
    rw [bq]
    split
    · rename_i h
      exact ⟨fun z => absurd z (nI_nN (by omega)), fun z => absurd z h.1⟩
    · exact ih (by omega)
def grG (q : Nat) : Nat → Nat := fun i => if i < 10 then shV (q / 9) i else q % 9 + 1
theorem grid {q s f : Nat} (hs : s < 4) (hf1 : 1 ≤ f) (hf : f ≤ 9) (hq : q = 9 * s + (f - 1)) : q / 9 = s ∧ q % 9 + 1 = f ∧ q < 36 := by omega
theorem best_class {Γ : GG} {S : St} {c : Nat → Nat} {cv : Nat → Int32} {wh : Nat} (hw : wh < 2) (hc : ∀ i, i < 11 → S.1 65 i = nI (c i)) (hc4 : ∀ i, c i ≤ 40) (hcv : ∀ q, q < 36 → (cbBad c (grG q) ∧ cv q = -1000000) ∨ (¬ cbBad c (grG q) ∧ cv q = nI (costN c (grG q) 11))) {Q : St → Prop} (hQ : ∀ T, Fq [66] [] S T → Q T) {X : XT} (hX : Cx Γ RX9 cX9_best 7 (some .int) 3 67 X) (hE : En Γ (eI (fun r1 S1 => r1 = (if wh = 0 then (bq cv 36).1 else (bq cv 36).2) ∧ Q S1)) X) :
    ∀ d s T, s + d = 4 → Fq [66] [] S T → G Γ X T 45 [(0, .ref (Γ.1 48)), (1, .int (nI wh)), (2, .int (bq cv (9 * s)).1), (3, .int (bq cv (9 * s)).2), (4, .int (nI s))] [] := by
  intro d
  induction d with
  | zero =>
    intro s T hs hF
    obtain rfl : s = 4 := by omega
    rcases (by omega : wh = 0 ∨ wh = 1) with rfl | rfl
    · refine g_iload hX dX9_best_45 rfl ?_
      refine g_iconst hX dX9_best_47 ic4 ?_
      refine g_icmp_ge (tgt := 128) hX dX9_best_48 (by decide) (fun _ => ?_) (fun h9 => absurd (Int32.le_refl _) h9)
      refine g_iload_n (i := 1) hX dX9_best_128 rfl rfl ?_
      refine g_if_ne (tgt := 136) hX dX9_best_129 (by decide) (fun h9 => absurd (rfl) h9) (fun _ => ?_)
      refine g_iload_n (i := 2) hX dX9_best_132 rfl rfl ?_
      refine g_goto (tgt := 137) hX dX9_best_133 (by decide) ?_
      refine g_iret (st := []) hX hE rfl dX9_best_137 (⟨_, rfl, rfl, hQ T hF⟩)
    · refine g_iload hX dX9_best_45 rfl ?_
      refine g_iconst hX dX9_best_47 ic4 ?_
      refine g_icmp_ge (tgt := 128) hX dX9_best_48 (by decide) (fun _ => ?_) (fun h9 => absurd (Int32.le_refl _) h9)
      refine g_iload_n (i := 1) hX dX9_best_128 rfl rfl ?_
      refine g_if_ne (tgt := 136) hX dX9_best_129 (by decide) (fun _ => ?_) (fun h9 => absurd h9 ((by decide)))
      refine g_iload_n (i := 3) hX dX9_best_136 rfl rfl ?_
      refine g_iret (st := []) hX hE rfl dX9_best_137 (⟨_, rfl, rfl, hQ T hF⟩)
  | succ d ih =>
    intro s T hs hF
    have inner : ∀ e f T, f + e = 10 → 1 ≤ f → Fq [66] [] S T → G Γ X T 54 [(0, .ref (Γ.1 48)), (1, .int (nI wh)), (2, .int (bq cv (9 * s + (f - 1))).1), (3, .int (bq cv (9 * s + (f - 1))).2), (4, .int (nI s)), (5, .int (nI f))] [] := by
      intro e
      induction e with
      | zero =>
        intro f T hf h1 hF
        obtain rfl : f = 10 := by omega
        refine g_iload hX dX9_best_54 rfl ?_
        refine g_bipush hX dX9_best_56 bp9 ?_
        refine g_icmp_gt (tgt := 122) hX dX9_best_58 (by decide) (fun _ => ?_) (fun h9 => absurd ((by decide)) h9)
        refine g_iinc hX dX9_best_122 rfl ic1 (by decide) rfl ?_
        refine g_goto (tgt := 45) hX dX9_best_125 (by decide) ?_
        rw [nI_1]
        have h2 := ih (s + 1) T (by omega) hF
        rw [show 9 * (s + 1) = 9 * s + (10 - 1) by omega] at h2
        exact g_weak h2 (as_c rfl (as_c rfl (as_c rfl (as_c rfl (as_c rfl (as_n))))))
      | succ e ih2 =>
        intro f T hf h1 hF
        obtain ⟨g1, g2, g3⟩ := grid (show s < 4 by omega) h1 (show f ≤ 9 by omega) (q := 9 * s + (f - 1)) rfl
        generalize hq : 9 * s + (f - 1) = q at *
        have h2 := fun T hF => ih2 (f + 1) T (by omega) (by omega) hF
        rw [show 9 * s + (f + 1 - 1) = q + 1 by omega] at h2
        have hlay := c_layShape (Γ := Γ) (S := T) (k := 66) (s := s) (fr := nI f) (by omega) ia66
        have hgT : ∀ i, i < 11 → (pR T 66 (lyE s (nI f) 0 (T.1 66))).1 66 i = nI (grG q i) ∧ grG q i ≤ 99 := by
          intro i hi
          rw [pR_self]
          unfold lyE grG
          rw [g1, g2]
          by_cases e : i < 10
          · rw [if_pos e, upd_ne _ _ (by omega)]
            unfold lyP
            rw [if_pos (by omega), Nat.sub_zero]
            exact ⟨rfl, shV_99 (by omega) e⟩
          · obtain rfl : i = 10 := by omega
            rw [if_neg (by omega), upd_self]
            exact ⟨rfl, by omega⟩
        have hcb := c_costBy (Γ := Γ) (S := pR T 66 (lyE s (nI f) 0 (T.1 66))) (k1 := 66) (k2 := 65) (c := c) (g := grG q) (r := cv q) ia66 ia65 hgT (fun i hi => by show T.1 65 i = _; rw [hF.r (k := 65) (by decide)]; exact hc i hi) hc4 (hcv q g3)
        have hF' : Fq [66] [] S (pR T 66 (lyE s (nI f) 0 (T.1 66))) := hF.R (by decide)
        have h3 := h2 _ hF'
        have take : (¬ cv q = -1000000 ∧ ((bq cv q).2 = -1000000 ∨ cv q < (bq cv q).2)) → G Γ X (pR T 66 (lyE s (nI f) 0 (T.1 66))) 104 [(0, .ref (Γ.1 48)), (1, .int (nI wh)), (2, .int (bq cv q).1), (3, .int (bq cv q).2), (4, .int (nI s)), (5, .int (nI f)), (6, .int (cv q))] [] := by
          intro hyes
          rw [bq, if_pos hyes, g1, g2] at h3
          refine g_bipush hX dX9_best_104 bp10 ?_
          refine g_iload hX dX9_best_106 rfl ?_
          refine g_imul hX dX9_best_108 ?_
          refine g_iload hX dX9_best_109 rfl ?_
          refine g_iadd hX dX9_best_111 ?_
          refine g_istore_n (i := 2) hX dX9_best_112 rfl (by decide) rfl ?_
          refine g_iload hX dX9_best_113 rfl ?_
          refine g_istore_n (i := 3) hX dX9_best_115 rfl (by decide) rfl ?_
          refine g_iinc hX dX9_best_116 rfl ic1 (by decide) rfl ?_
          refine g_goto (tgt := 54) hX dX9_best_119 (by decide) ?_
          rw [nI_1, show (10 : Int32) * nI s + nI f = nI (10 * s + f) from by rw [show (10 : Int32) = nI 10 from rfl, nI_mul, nI_add2]]
          exact g_weak h3 (as_c rfl (as_c rfl (as_c rfl (as_c rfl (as_c rfl (as_c rfl (as_n)))))))
        have skip : ¬ (¬ cv q = -1000000 ∧ ((bq cv q).2 = -1000000 ∨ cv q < (bq cv q).2)) → G Γ X (pR T 66 (lyE s (nI f) 0 (T.1 66))) 116 [(0, .ref (Γ.1 48)), (1, .int (nI wh)), (2, .int (bq cv q).1), (3, .int (bq cv q).2), (4, .int (nI s)), (5, .int (nI f)), (6, .int (cv q))] [] := by
          intro hno
          rw [bq, if_neg hno] at h3
          refine g_iinc hX dX9_best_116 rfl ic1 (by decide) rfl ?_
          refine g_goto (tgt := 54) hX dX9_best_119 (by decide) ?_
          rw [nI_1]
          exact g_weak h3 (as_c rfl (as_c rfl (as_c rfl (as_c rfl (as_c rfl (as_c rfl (as_n)))))))
        refine g_iload hX dX9_best_54 rfl ?_
        refine g_bipush hX dX9_best_56 bp9 ?_
        refine g_icmp_gt (tgt := 122) hX dX9_best_58 (by decide) (fun h9 => absurd h9 (nI_nlt (b := f) (a := 9) (by omega) (by decide))) (fun _ => ?_)
        refine g_iload hX dX9_best_61 rfl ?_
        refine g_iload hX dX9_best_63 rfl ?_
        refine g_aload_n (i := 0) hX dX9_best_65 rfl rfl ?_
        refine fX9_74 hX dX9_best_66 ?_
        refine sX9_250 hX ⟨Nat.le_of_ble_eq_true rfl, Nat.le_of_ble_eq_true rfl⟩ (Nat.le_of_ble_eq_true rfl) dX9_best_69 (hlay) ?_
        refine g_aload_n (i := 0) hX dX9_best_72 rfl rfl ?_
        refine fX9_74 hX dX9_best_73 ?_
        refine g_aload_n (i := 0) hX dX9_best_76 rfl rfl ?_
        refine fX9_70 hX dX9_best_77 ?_
        refine sX9_246 hX ⟨Nat.le_of_ble_eq_true rfl, Nat.le_of_ble_eq_true rfl⟩ (Nat.le_of_ble_eq_true rfl) dX9_best_80 (hcb) ?_
        refine g_istore hX dX9_best_83 (by decide) rfl ?_
        refine g_iload hX dX9_best_85 rfl ?_
        refine g_ldc hX ccX9_153 dX9_best_87 ?_
        refine g_icmp_eq (tgt := 116) hX dX9_best_89 (by decide) (fun q1 => ?_) (fun q1 => ?_)
        · exact skip (fun z => z.1 q1)
        refine g_iload_n (i := 3) hX dX9_best_92 rfl rfl ?_
        refine g_ldc hX ccX9_153 dX9_best_93 ?_
        refine g_icmp_eq (tgt := 104) hX dX9_best_95 (by decide) (fun q2 => ?_) (fun q2 => ?_)
        · exact take ⟨q1, Or.inl q2⟩
        refine g_iload hX dX9_best_98 rfl ?_
        refine g_iload_n (i := 3) hX dX9_best_100 rfl rfl ?_
        refine g_icmp_ge (tgt := 116) hX dX9_best_101 (by decide) (fun q3 => ?_) (fun q3 => ?_)
        · exact skip (fun z => z.2.elim q2 (fun y => by rw [i_lt] at y; rw [i_le] at q3; omega))
        · exact take ⟨q1, Or.inr (by rw [i_lt]; rw [i_le] at q3; omega)⟩
    refine g_iload hX dX9_best_45 rfl ?_
    refine g_iconst hX dX9_best_47 ic4 ?_
    refine g_icmp_ge (tgt := 128) hX dX9_best_48 (by decide) (fun h9 => absurd h9 (nI_ge (show s < 4 by omega) (by decide))) (fun _ => ?_)
    refine g_iconst hX dX9_best_51 ic1 ?_
    refine g_istore hX dX9_best_52 (by decide) rfl ?_
    exact inner 9 1 T (by omega) (by omega) hF
theorem best_ref {Γ : GG} {S : St} {n wh : Nat} {tk : Nat → Int32} {nm : Nat → Nat} {gr : Nat → Int32} {s : Nat → Nat} {cv : Nat → Int32} (hw : wh < 2) (hn : n ≤ 40) (rr : RwR S 0 n tk nm gr) (hnm : ∀ i, i < n → nm i < 10) (tok : TrOk n tk gr) (hs : ∀ k, k < n → slotP tk nm gr 1 k = nI (s k) ∧ s k < 11)
    (hcv : ∀ q, q < 36 → (crBad (grG q) s n ∧ cv q = -1000000) ∨ (¬ crBad (grG q) s n ∧ cv q = nI (crN (grG q) s n))) {X : XT} {P : St → Prop} (hP : ∀ T, Fq [76] [] S T → P T) (hX : Cx Γ RX10 cX10_best 7 (some .int) 2 55 X) (hE : En Γ (eI (fun r1 S1 => r1 = (if wh = 0 then (bq cv 36).1 else (bq cv 36).2) ∧ P S1)) X) :
    ∀ d sh T, sh + d = 4 → Fq [76] [] S T → G Γ X T 40 [(0, .ref (Γ.1 67)), (1, .int (nI wh)), (2, .int (bq cv (9 * sh)).1), (3, .int (bq cv (9 * sh)).2), (4, .int (nI sh))] [] := by
  intro d
  induction d with
  | zero =>
    intro sh T hs hF
    obtain rfl : sh = 4 := by omega
    rcases (by omega : wh = 0 ∨ wh = 1) with rfl | rfl
    · refine g_iload hX dX10_best_40 rfl ?_
      refine g_iconst hX dX10_best_42 ic4 ?_
      refine g_icmp_ge (tgt := 123) hX dX10_best_43 (by decide) (fun _ => ?_) (fun h9 => absurd (Int32.le_refl _) h9)
      refine g_iload_n (i := 1) hX dX10_best_123 rfl rfl ?_
      refine g_if_ne (tgt := 131) hX dX10_best_124 (by decide) (fun h9 => absurd (rfl) h9) (fun _ => ?_)
      refine g_iload_n (i := 2) hX dX10_best_127 rfl rfl ?_
      refine g_goto (tgt := 132) hX dX10_best_128 (by decide) ?_
      refine g_iret (st := []) hX hE rfl dX10_best_132 (⟨_, rfl, rfl, hP T hF⟩)
    · refine g_iload hX dX10_best_40 rfl ?_
      refine g_iconst hX dX10_best_42 ic4 ?_
      refine g_icmp_ge (tgt := 123) hX dX10_best_43 (by decide) (fun _ => ?_) (fun h9 => absurd (Int32.le_refl _) h9)
      refine g_iload_n (i := 1) hX dX10_best_123 rfl rfl ?_
      refine g_if_ne (tgt := 131) hX dX10_best_124 (by decide) (fun _ => ?_) (fun h9 => absurd h9 ((by decide)))
      refine g_iload_n (i := 3) hX dX10_best_131 rfl rfl ?_
      refine g_iret (st := []) hX hE rfl dX10_best_132 (⟨_, rfl, rfl, hP T hF⟩)
  | succ d ih =>
    intro sh T hsh hF
    have inner : ∀ e f T, f + e = 10 → 1 ≤ f → Fq [76] [] S T → G Γ X T 49 [(0, .ref (Γ.1 67)), (1, .int (nI wh)), (2, .int (bq cv (9 * sh + (f - 1))).1), (3, .int (bq cv (9 * sh + (f - 1))).2), (4, .int (nI sh)), (5, .int (nI f))] [] := by
      intro e
      induction e with
      | zero =>
        intro f T hf h1 hF
        obtain rfl : f = 10 := by omega
        refine g_iload hX dX10_best_49 rfl ?_
        refine g_bipush hX dX10_best_51 bp10 ?_
        refine g_icmp_ge (tgt := 117) hX dX10_best_53 (by decide) (fun _ => ?_) (fun h9 => absurd (Int32.le_refl _) h9)
        refine g_iinc hX dX10_best_117 rfl ic1 (by decide) rfl ?_
        refine g_goto (tgt := 40) hX dX10_best_120 (by decide) ?_
        rw [nI_1]
        have h2 := ih (sh + 1) T (by omega) hF
        rw [show 9 * (sh + 1) = 9 * sh + (10 - 1) by omega] at h2
        exact g_weak h2 (as_c rfl (as_c rfl (as_c rfl (as_c rfl (as_c rfl (as_n))))))
      | succ e ih2 =>
        intro f T hf h1 hF
        obtain ⟨g1, g2, g3⟩ := grid (show sh < 4 by omega) h1 (show f ≤ 9 by omega) (q := 9 * sh + (f - 1)) rfl
        generalize hq : 9 * sh + (f - 1) = q at *
        have hbn := bq_none cv q (by omega)
        have h2 := fun T hF => ih2 (f + 1) T (by omega) (by omega) hF
        rw [show 9 * sh + (f + 1 - 1) = q + 1 by omega] at h2
        have hlay := c_shapeTo (Γ := Γ) (S := T) (k := 76) (s := sh) (fr := nI f) (by omega) ia76
        have hF' : Fq [76] [] S (pR T 76 (lyE sh (nI f) 10 (T.1 76))) := hF.R (by decide)
        have hgT : ∀ i, i < 11 → (pR T 76 (lyE sh (nI f) 10 (T.1 76))).1 76 (10 + i) = nI (grG q i) ∧ grG q i ≤ 99 := by
          intro i hi
          rw [pR_self]
          unfold lyE grG
          rw [g1, g2]
          by_cases e : i < 10
          · rw [if_pos e, upd_ne _ _ (by omega)]
            unfold lyP
            rw [if_pos (by omega), Nat.add_sub_cancel_left]
            exact ⟨rfl, shV_99 (by omega) e⟩
          · obtain rfl : i = 10 := by omega
            rw [if_neg (by omega), upd_self]
            exact ⟨rfl, by omega⟩
        have hco := c_costOf (Γ := Γ) (S := pR T 76 (lyE sh (nI f) 10 (T.1 76))) (K := 76) (p := 1) (n := n) (n' := n) (lf := 0) (w := grG q) (g := grG q) (s := s) (r := cv q) (by decide) ia76 (by decide) hn (rr.q hF' (by decide)) hnm tok (fun i _ h2 => hgT i h2) (fun i _ => rfl) (fun i hi q => absurd ⟨Nat.zero_le _, hi⟩ q) rfl (fun _ k hk => ⟨(hs k hk).1, (hs k hk).2, fun z => absurd z (by decide)⟩) (hcv q g3)
        have h3 := h2 _ hF'
        have take : (¬ cv q = -1000000 ∧ ((bq cv q).2 = -1000000 ∨ cv q < (bq cv q).2)) → G Γ X (pR T 76 (lyE sh (nI f) 10 (T.1 76))) 99 [(0, .ref (Γ.1 67)), (1, .int (nI wh)), (2, .int (bq cv q).1), (3, .int (bq cv q).2), (4, .int (nI sh)), (5, .int (nI f)), (6, .int (cv q))] [] := by
          intro hyes
          rw [bq, if_pos hyes, g1, g2] at h3
          refine g_bipush hX dX10_best_99 bp10 ?_
          refine g_iload hX dX10_best_101 rfl ?_
          refine g_imul hX dX10_best_103 ?_
          refine g_iload hX dX10_best_104 rfl ?_
          refine g_iadd hX dX10_best_106 ?_
          refine g_istore_n (i := 2) hX dX10_best_107 rfl (by decide) rfl ?_
          refine g_iload hX dX10_best_108 rfl ?_
          refine g_istore_n (i := 3) hX dX10_best_110 rfl (by decide) rfl ?_
          refine g_iinc hX dX10_best_111 rfl ic1 (by decide) rfl ?_
          refine g_goto (tgt := 49) hX dX10_best_114 (by decide) ?_
          rw [nI_1, show (10 : Int32) * nI sh + nI f = nI (10 * sh + f) from by rw [show (10 : Int32) = nI 10 from rfl, nI_mul, nI_add2]]
          exact g_weak h3 (as_c rfl (as_c rfl (as_c rfl (as_c rfl (as_c rfl (as_c rfl (as_n)))))))
        have skip : ¬ (¬ cv q = -1000000 ∧ ((bq cv q).2 = -1000000 ∨ cv q < (bq cv q).2)) → G Γ X (pR T 76 (lyE sh (nI f) 10 (T.1 76))) 111 [(0, .ref (Γ.1 67)), (1, .int (nI wh)), (2, .int (bq cv q).1), (3, .int (bq cv q).2), (4, .int (nI sh)), (5, .int (nI f)), (6, .int (cv q))] [] := by
          intro hno
          rw [bq, if_neg hno] at h3
          refine g_iinc hX dX10_best_111 rfl ic1 (by decide) rfl ?_
          refine g_goto (tgt := 49) hX dX10_best_114 (by decide) ?_
          rw [nI_1]
          exact g_weak h3 (as_c rfl (as_c rfl (as_c rfl (as_c rfl (as_c rfl (as_c rfl (as_n)))))))
        refine g_iload hX dX10_best_49 rfl ?_
        refine g_bipush hX dX10_best_51 bp10 ?_
        refine g_icmp_ge (tgt := 117) hX dX10_best_53 (by decide) (fun h9 => absurd h9 (nI_ge (a := f) (b := 10) (by omega) (by decide))) (fun _ => ?_)
        refine g_aload_n (i := 0) hX dX10_best_56 rfl rfl ?_
        refine g_aload_n (i := 0) hX dX10_best_57 rfl rfl ?_
        refine fX10_34 hX dX10_best_58 ?_
        refine g_iload hX dX10_best_61 rfl ?_
        refine g_iload hX dX10_best_63 rfl ?_
        refine sX10_286 hX ⟨Nat.le_of_ble_eq_true rfl, Nat.le_of_ble_eq_true rfl⟩ (Nat.le_of_ble_eq_true rfl) dX10_best_65 (hlay) ?_
        refine g_aload_n (i := 0) hX dX10_best_68 rfl rfl ?_
        refine g_iconst hX dX10_best_69 ic1 ?_
        refine g_aload_n (i := 0) hX dX10_best_70 rfl rfl ?_
        refine fX10_34 hX dX10_best_71 ?_
        refine g_iconst hX dX10_best_74 ic0 ?_
        refine sX10_282 hX ⟨Nat.le_of_ble_eq_true rfl, Nat.le_of_ble_eq_true rfl⟩ (Nat.le_of_ble_eq_true rfl) dX10_best_75 (hco) ?_
        refine g_istore hX dX10_best_78 (by decide) rfl ?_
        refine g_iload hX dX10_best_80 rfl ?_
        refine g_ldc hX ccX10_106 dX10_best_82 ?_
        refine g_icmp_eq (tgt := 111) hX dX10_best_84 (by decide) (fun q1 => ?_) (fun q1 => ?_)
        · exact skip (fun z => z.1 q1)
        refine g_iload_n (i := 2) hX dX10_best_87 rfl rfl ?_
        refine g_ldc hX ccX10_106 dX10_best_88 ?_
        refine g_icmp_eq (tgt := 99) hX dX10_best_90 (by decide) (fun q2 => ?_) (fun q2 => ?_)
        · exact take ⟨q1, Or.inl (hbn.mp q2)⟩
        refine g_iload hX dX10_best_93 rfl ?_
        refine g_iload_n (i := 3) hX dX10_best_95 rfl rfl ?_
        refine g_icmp_ge (tgt := 111) hX dX10_best_96 (by decide) (fun q3 => ?_) (fun q3 => ?_)
        · exact skip (fun z => z.2.elim (fun y => q2 (hbn.mpr y)) (fun y => by rw [i_lt] at y; rw [i_le] at q3; omega))
        · exact take ⟨q1, Or.inr (by rw [i_lt]; rw [i_le] at q3; omega)⟩
    refine g_iload hX dX10_best_40 rfl ?_
    refine g_iconst hX dX10_best_42 ic4 ?_
    refine g_icmp_ge (tgt := 123) hX dX10_best_43 (by decide) (fun h9 => absurd h9 (nI_ge (show sh < 4 by omega) (by decide))) (fun _ => ?_)
    refine g_iconst hX dX10_best_46 ic1 ?_
    refine g_istore hX dX10_best_47 (by decide) rfl ?_
    exact inner 9 1 T (by omega) (by omega) hF
theorem step_best {Γ : GG} (x1 : Int32) : Step (fun S P => kX9_best Γ [.ref (Γ.1 48), .int x1] S P) (fun S P => kX10_best Γ [.ref (Γ.1 67), .int x1] S P) := by
  intro S hR
  have l1 : (1 : Int64).toInt = 1 := by decide
  by_cases h1 : inB x1 2
  case neg =>
    refine ⟨-1000001, fun S1 => S1 = S, ?_, ?_⟩
    · refine oX9_best (fun X hX hE => ?_)
      refine g_iload_n (i := 1) hX dX9_best_0 rfl rfl ?_
      refine g_iconst hX dX9_best_1 ic2 ?_
      refine sX9_96 hX ⟨Nat.le_of_ble_eq_true rfl, Nat.le_of_ble_eq_true rfl⟩ (Nat.le_of_ble_eq_true rfl) dX9_best_2 (isB_f (n := 2) (by decide) h1) ?_
      refine g_if_ne (tgt := 11) hX dX9_best_5 (by decide) (fun h9 => absurd (rfl) h9) (fun _ => ?_)
      refine g_ldc hX ccX9_100 dX9_best_8 ?_
      refine g_iret (st := []) hX hE rfl dX9_best_10 (⟨_, rfl, rfl, rfl⟩)
    · rintro S1 rfl
      refine oX10_best (fun X hX hE => ?_)
      rw [inB_iff (by decide)] at h1
      refine g_aload_n (i := 0) hX dX10_best_0 rfl rfl ?_
      refine g_iconst hX dX10_best_1 ic0 ?_
      refine pX10_78 hX dX10_best_2 ?_
      refine g_iload_n (i := 1) hX dX10_best_5 rfl rfl ?_
      refine g_i2l hX dX10_best_6 ?_
      refine g_lconst (v := 0) hX dX10_best_7 (by decide) ?_
      refine g_lconst (v := 1) hX dX10_best_8 (by decide) ?_
      refine sX10_87 hX ⟨Nat.le_of_ble_eq_true rfl, Nat.le_of_ble_eq_true rfl⟩ (Nat.le_of_ble_eq_true rfl) dX10_best_9 (c_inI_f (by rw [L0, l1]; omega)) ?_
      refine g_if_ne (tgt := 18) hX dX10_best_12 (by decide) (fun h9 => absurd (rfl) h9) (fun _ => ?_)
      refine g_ldc hX ccX10_97 dX10_best_15 ?_
      refine g_iret (st := []) hX hE rfl dX10_best_17 (⟨_, rfl, rfl, hR.thrown⟩)
  obtain ⟨wh, hw, rfl⟩ := h1
  have cW : ∀ T : St, kX10_in Γ [.long (nI wh).toInt64, .long 0, .long 1] T (rI 1 T) := fun T => c_inI_t (by rw [nI_toInt (by omega), L0]; omega) (by rw [nI_toInt (by omega), l1]; omega)
  obtain ⟨n, tk, nm, gr, a, b, tok⟩ := hR.2.1
  have hnm : ∀ i, i < n → nm i < 10 := fun i hi => (a.2.2 i hi).2.2.1
  by_cases hn0 : n = 0
  · subst hn0
    refine ⟨-1000002, fun S1 => S1 = S, ?_, ?_⟩
    · refine oX9_best (fun X hX hE => ?_)
      refine g_iload_n (i := 1) hX dX9_best_0 rfl rfl ?_
      refine g_iconst hX dX9_best_1 ic2 ?_
      refine sX9_96 hX ⟨Nat.le_of_ble_eq_true rfl, Nat.le_of_ble_eq_true rfl⟩ (Nat.le_of_ble_eq_true rfl) dX9_best_2 (isB_t (n := 2) hw (by decide)) ?_
      refine g_if_ne (tgt := 11) hX dX9_best_5 (by decide) (fun _ => ?_) (fun h9 => absurd h9 ((by decide)))
      refine g_aload_n (i := 0) hX dX9_best_11 rfl rfl ?_
      refine fX9_18 hX dX9_best_12 ?_
      refine fX9_137 hX ir16 dX9_best_15 ?_
      refine g_if_ne (tgt := 24) hX dX9_best_18 (by decide) (fun h9 => absurd (a.2.1) h9) (fun _ => ?_)
      refine g_ldc hX ccX9_241 dX9_best_21 ?_
      refine g_iret (st := []) hX hE rfl dX9_best_23 (⟨_, rfl, rfl, rfl⟩)
    · rintro S1 rfl
      refine oX10_best (fun X hX hE => ?_)
      refine g_aload_n (i := 0) hX dX10_best_0 rfl rfl ?_
      refine g_iconst hX dX10_best_1 ic0 ?_
      refine pX10_78 hX dX10_best_2 ?_
      refine g_iload_n (i := 1) hX dX10_best_5 rfl rfl ?_
      refine g_i2l hX dX10_best_6 ?_
      refine g_lconst (v := 0) hX dX10_best_7 (by decide) ?_
      refine g_lconst (v := 1) hX dX10_best_8 (by decide) ?_
      refine sX10_87 hX ⟨Nat.le_of_ble_eq_true rfl, Nat.le_of_ble_eq_true rfl⟩ (Nat.le_of_ble_eq_true rfl) dX10_best_9 (cW _) ?_
      refine g_if_ne (tgt := 18) hX dX10_best_12 (by decide) (fun _ => ?_) (fun h9 => absurd h9 ((by decide)))
      refine g_aload_n (i := 0) hX dX10_best_18 rfl rfl ?_
      refine fX10_19 hX dX10_best_19 ?_
      refine g_iconst hX dX10_best_22 ic0 ?_
      refine g_ialoadN (i := 0) hX (ia71) rfl (by decide) (by first | decide | assumption | omega) dX10_best_23 ?_
      refine g_if_ne (tgt := 31) hX dX10_best_24 (by decide) (fun h9 => absurd (b.1) h9) (fun _ => ?_)
      refine g_ldc_w hX ccX10_278 dX10_best_27 ?_
      refine g_iret (st := []) hX hE rfl dX10_best_30 (⟨_, rfl, rfl, hR.thrown⟩)
  have hn := a.1
  obtain ⟨s, hs⟩ := slots_ok tok hnm (p := 1) (by decide)
  have hs' : ∀ k, k < n → slotP tk nm gr 1 k = nI (s k) ∧ s k < 11 := fun k hk => ⟨(hs k hk).1, (hs k hk).2.1⟩
  have hc4 : ∀ i, cntE (slotP tk nm gr 1) n i ≤ 40 := fun i => Nat.le_trans (cntE_le _ _ _) hn
  have key : ∀ q : Nat, ∃ r : Int32, ((cbBad (cntE (slotP tk nm gr 1) n) (grG q) ∧ r = -1000000) ∨ (¬ cbBad (cntE (slotP tk nm gr 1) n) (grG q) ∧ r = nI (costN (cntE (slotP tk nm gr 1) n) (grG q) 11))) ∧ ((crBad (grG q) s n ∧ r = -1000000) ∨ (¬ crBad (grG q) s n ∧ r = nI (crN (grG q) s n))) := by
    intro q
    have hbad := bad_slots (g := grG q) hs'
    have hval : costN (cntE (slotP tk nm gr 1) n) (grG q) 11 = crN (grG q) s n := by
      unfold costN crN
      rw [sum_slots (b := fun d => bitF 30 (grG q d) (sumW (grG q) 11)) n hs']
    by_cases z : cbBad (cntE (slotP tk nm gr 1) n) (grG q)
    · exact ⟨-1000000, Or.inl ⟨z, rfl⟩, Or.inl ⟨hbad.mp z, rfl⟩⟩
    · exact ⟨nI (costN (cntE (slotP tk nm gr 1) n) (grG q) 11), Or.inr ⟨z, rfl⟩, Or.inr ⟨fun y => z (hbad.mpr y), by rw [hval]⟩⟩
  obtain ⟨cv, hcv⟩ := Classical.axiomOfChoice key
  refine ⟨if wh = 0 then (bq cv 36).1 else (bq cv 36).2, fun S1 => Fq [65, 66] [] S S1, ?_, ?_⟩
  · refine oX9_best (fun X hX hE => ?_)
    have hE' : En Γ (eI (fun r1 S1 => r1 = (if wh = 0 then (bq cv 36).1 else (bq cv 36).2) ∧ Fq [65, 66] [] S S1)) X := hE
    refine g_iload_n (i := 1) hX dX9_best_0 rfl rfl ?_
    refine g_iconst hX dX9_best_1 ic2 ?_
    refine sX9_96 hX ⟨Nat.le_of_ble_eq_true rfl, Nat.le_of_ble_eq_true rfl⟩ (Nat.le_of_ble_eq_true rfl) dX9_best_2 (isB_t (n := 2) hw (by decide)) ?_
    refine g_if_ne (tgt := 11) hX dX9_best_5 (by decide) (fun _ => ?_) (fun h9 => absurd h9 ((by decide)))
    refine g_aload_n (i := 0) hX dX9_best_11 rfl rfl ?_
    refine fX9_18 hX dX9_best_12 ?_
    refine fX9_137 hX ir16 dX9_best_15 ?_
    refine g_if_ne (tgt := 24) hX dX9_best_18 (by decide) (fun _ => ?_) (fun h9 => absurd h9 ((by rw [a.2.1]; exact nI_ne0 (by omega) (by omega))))
    refine g_aload_n (i := 0) hX dX9_best_24 rfl rfl ?_
    refine fX9_18 hX dX9_best_25 ?_
    refine g_iconst hX dX9_best_28 ic1 ?_
    refine g_aload_n (i := 0) hX dX9_best_29 rfl rfl ?_
    refine fX9_70 hX dX9_best_30 ?_
    refine sX9_169 hX ir16 ⟨Nat.le_of_ble_eq_true rfl, Nat.le_of_ble_eq_true rfl⟩ (Nat.le_of_ble_eq_true rfl) dX9_best_33 (c_countSlots (p := 1) ir16 a (by decide) ia65 (by decide)) ?_
    refine g_ldc hX ccX9_153 dX9_best_36 ?_
    refine g_istore_n (i := 2) hX dX9_best_38 rfl (by decide) rfl ?_
    refine g_ldc hX ccX9_153 dX9_best_39 ?_
    refine g_istore_n (i := 3) hX dX9_best_41 rfl (by decide) rfl ?_
    refine g_iconst hX dX9_best_42 ic0 ?_
    refine g_istore hX dX9_best_43 (by decide) rfl ?_
    refine best_class (S := pR S 65 (cntF (slotP tk nm gr 1) n (S.1 65))) (cv := cv) (wh := wh) (c := cntE (slotP tk nm gr 1) n) (Q := fun T => Fq [65, 66] [] S T) hw (fun i hi => by rw [pR_self]; exact if_pos hi) hc4 (fun q _ => (hcv q).1) (fun T hT => (Fq.rf.R (by decide)).tr (hT.mono (by decide) (fun _ z => by cases z))) hX hE' 4 0 _ (by omega) Fq.rf
  · intro S1 hF1
    have hR1 : Rel S1 := hR.q hF1 (by decide)
    refine oX10_best (fun X hX hE => ?_)
    have rr : RwR (S0 S1) 0 n tk nm gr := (b.q hF1 (by decide)).q (K := []) (O := [(67, 0)]) (Fq.rf.I (by decide)) (by decide)
    refine g_aload_n (i := 0) hX dX10_best_0 rfl rfl ?_
    refine g_iconst hX dX10_best_1 ic0 ?_
    refine pX10_78 hX dX10_best_2 ?_
    refine g_iload_n (i := 1) hX dX10_best_5 rfl rfl ?_
    refine g_i2l hX dX10_best_6 ?_
    refine g_lconst (v := 0) hX dX10_best_7 (by decide) ?_
    refine g_lconst (v := 1) hX dX10_best_8 (by decide) ?_
    refine sX10_87 hX ⟨Nat.le_of_ble_eq_true rfl, Nat.le_of_ble_eq_true rfl⟩ (Nat.le_of_ble_eq_true rfl) dX10_best_9 (cW _) ?_
    refine g_if_ne (tgt := 18) hX dX10_best_12 (by decide) (fun _ => ?_) (fun h9 => absurd h9 ((by decide)))
    refine g_aload_n (i := 0) hX dX10_best_18 rfl rfl ?_
    refine fX10_19 hX dX10_best_19 ?_
    refine g_iconst hX dX10_best_22 ic0 ?_
    refine g_ialoadN (i := 0) hX (ia71) rfl (by decide) (by first | decide | assumption | omega) dX10_best_23 ?_
    refine g_if_ne (tgt := 31) hX dX10_best_24 (by decide) (fun _ => ?_) (fun h9 => absurd h9 ((by rw [rr.1]; exact nI_ne0 (by omega) (by omega))))
    refine g_ldc hX ccX10_106 dX10_best_31 ?_
    refine g_istore_n (i := 2) hX dX10_best_33 rfl (by decide) rfl ?_
    refine g_ldc hX ccX10_106 dX10_best_34 ?_
    refine g_istore_n (i := 3) hX dX10_best_36 rfl (by decide) rfl ?_
    refine g_iconst hX dX10_best_37 ic0 ?_
    refine g_istore hX dX10_best_38 (by decide) rfl ?_
    exact best_ref (S := S0 S1) (cv := cv) (wh := wh) (s := s) (P := Rel) hw hn rr hnm tok hs' (fun q _ => (hcv q).2) (fun T hT => hR1.thrown.q hT (by decide)) hX hE 4 0 _ (by omega) Fq.rf
