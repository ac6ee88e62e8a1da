/-! promise 15: stretch -/
def stT (tk : Nat → Int32) (f : Nat) : Nat → Int32 := fun k => tk (k / f)
def stN (nm : Nat → Nat) (f : Nat) : Nat → Nat := fun k => (nm (k / f) + k % f) % 10
theorem st_div {f i j : Nat} (hj : j < f) : (i * f + j) / f = i ∧ (i * f + j) % f = j := by
  have hf : 0 < f := by omega
  rw [Nat.mul_comm i f, Nat.mul_add_div hf, Nat.mul_add_mod, Nat.mod_eq_of_lt hj, Nat.div_eq_of_lt hj]
  exact ⟨Nat.add_zero i, rfl⟩
theorem stOk {n f : Nat} {tk gr : Nat → Int32} (hf : 1 ≤ f) (h : TrOk n tk gr) : TrOk (min 40 (n * f)) (stT tk f) (stT gr f) := by
  have hd : ∀ i, i < min 40 (n * f) → i / f < n := fun i hi => by rw [Nat.div_lt_iff_lt_mul (by omega)]; omega
  refine ⟨fun i hi => h.1 (i / f) (hd i hi), fun i hi => ?_⟩
  unfold stT
  have h2 := hd (i + 1) hi
  rcases (show (i + 1) / f = i / f ∨ (i + 1) / f = i / f + 1 by
    rw [Nat.succ_div]; split <;> omega) with e | e
  · rw [e]; exact Int.le_refl _
  · rw [e] at h2 ⊢; exact h.2 (i / f) h2
/-- a new made row on both sides, and whose seed it is -/
theorem Rel.made {K : List Nat} {O : List (Nat × Nat)} {S S2 : St} {m : Nat} {tk : Nat → Int32} {nm : Nat → Nat} {gr : Nat → Int32} (hR : Rel S) (hF : Fq K O S S2)
    (c : (((List.range 16).all (okR K O) && okR K O 68 && okR K O 69 && okR K O 70) && (okR K O 36 && okR K O 37 && okR K O 38 && okR K O 39 && okR K O 75) && (okR K O 55 && okR K O 56 && okR K O 77) && (okS K O 50 2 && okR K O 51 && okS K O 67 13 && okR K O 78) && (okS K O 60 0 && okS K O 60 1 && okS K O 60 2 && okS K O 67 28 && okS K O 67 29 && okS K O 67 30) && (okS K O 48 15 && okS K O 48 14 && okS K O 48 16 && okS K O 67 1 && okS K O 67 14 && okS K O 67 36) && (okS K O 63 1 && okR K O 64 && okS K O 67 38 && okR K O 85)) = true)
    (hc : RwC S2 21 m tk nm gr) (hr : RwR S2 1 m tk nm gr) (hok : TrOk m tk gr) (ht : TrRel S2) (hm : S2.1 48 12 = S2.1 67 26 ∧ (S2.1 67 26 = 0 ∨ S2.1 67 26 = 1) ∧ S2.2 48 13 = S2.2 67 27) : Rel S2 := by
  obtain ⟨r1, r2, r3, r4, r5, r6, r7, r8, r9⟩ := hR
  obtain ⟨c, c8⟩ := and_split c
  obtain ⟨c, c7⟩ := and_split c
  obtain ⟨c, c6⟩ := and_split c
  obtain ⟨c, c5⟩ := and_split c
  obtain ⟨c, c4⟩ := and_split c
  obtain ⟨c1, c3⟩ := and_split c
  refine ⟨r1.q hF c1, ht, ⟨_, _, _, _, hc, hr, hok⟩, r4.q hF c3, r5.q hF c4, r6.q hF c5, r7.q hF c6, ?_, r9.q hF c8⟩
  · obtain ⟨m1, m2, m3, -, -, -⟩ := r8
    simp only [Bool.and_eq_true] at c7
    obtain ⟨⟨⟨⟨⟨d1, d2⟩, d3⟩, d4⟩, d5⟩, d6⟩ := c7
    refine ⟨?_, ?_, ?_, hm.1, hm.2.1, hm.2.2⟩
    · rw [(hF.s d1).1, (hF.s d4).1]; exact m1
    · rw [(hF.s d2).1, (hF.s d5).1]; exact m2
    · rw [(hF.s d3).1, (hF.s d6).1]; exact m3
theorem RwR.zero {S : St} {r : Nat} {tk : Nat → Int32} {nm : Nat → Nat} {gr : Nat → Int32} : RwR (pI S 71 r 0) r 0 tk nm gr := ⟨by rw [pR_self, upd_self]; rfl, fun i hi => absurd hi (by omega)⟩
theorem RwR.keep71 {S : St} {r r' n : Nat} {x : Int32} {tk : Nat → Int32} {nm : Nat → Nat} {gr : Nat → Int32} (h : RwR S r' n tk nm gr) (hr : r' ≠ r) : RwR (pI S 71 r x) r' n tk nm gr := ⟨by rw [pR_self, upd_ne _ _ hr]; exact h.1, h.2⟩
theorem step_stretch {Γ : GG} (x1 : Int32) : Step (fun S P => kX9_stretch Γ [.ref (Γ.1 48), .int x1] S P) (fun S P => kX10_stretch Γ [.ref (Γ.1 67), .int x1] S P) := by
  intro S hR
  have l1 : (1 : Int64).toInt = 1 := by decide
  have l4 : (4 : Int64).toInt = 4 := by decide
  have t4 : (4 : Int32).toInt = 4 := by decide
  by_cases h2 : 1 ≤ x1.toInt ∧ x1.toInt ≤ 4
  case neg =>
    refine ⟨-1000001, fun S1 => S1 = S, ?_, ?_⟩
    · refine oX9_stretch (fun X hX hE => ?_)
      by_cases q : x1 < 1
      · refine g_iload_n (i := 1) hX dX9_stretch_0 rfl rfl ?_
        refine g_iconst hX dX9_stretch_1 ic1 ?_
        refine g_icmp_lt (tgt := 10) hX dX9_stretch_2 (by decide) (fun _ => ?_) (fun h9 => absurd (q) h9)
        refine g_ldc hX ccX9_100 dX9_stretch_10 ?_
        refine g_iret (st := []) hX hE rfl dX9_stretch_12 (⟨_, rfl, rfl, rfl⟩)
      · refine g_iload_n (i := 1) hX dX9_stretch_0 rfl rfl ?_
        refine g_iconst hX dX9_stretch_1 ic1 ?_
        refine g_icmp_lt (tgt := 10) hX dX9_stretch_2 (by decide) (fun h9 => absurd h9 (q)) (fun _ => ?_)
        refine g_iload_n (i := 1) hX dX9_stretch_5 rfl rfl ?_
        refine g_iconst hX dX9_stretch_6 ic4 ?_
        refine g_icmp_le (tgt := 13) hX dX9_stretch_7 (by decide) (fun h9 => absurd h9 ((by rw [i_lt, t1] at q; rw [i_le, t4]; omega))) (fun _ => ?_)
        refine g_ldc hX ccX9_100 dX9_stretch_10 ?_
        refine g_iret (st := []) hX hE rfl dX9_stretch_12 (⟨_, rfl, rfl, rfl⟩)
    · rintro S1 rfl
      refine oX10_stretch (fun X hX hE => ?_)
      refine g_aload_n (i := 0) hX dX10_stretch_0 rfl rfl ?_
      refine g_iconst hX dX10_stretch_1 ic0 ?_
      refine pX10_78 hX dX10_stretch_2 ?_
      refine g_iload_n (i := 1) hX dX10_stretch_5 rfl rfl ?_
      refine g_i2l hX dX10_stretch_6 ?_
      refine g_lconst (v := 1) hX dX10_stretch_7 (by decide) ?_
      refine g_ldc2_w hX ccX10_114 dX10_stretch_8 ?_
      refine sX10_87 hX ⟨Nat.le_of_ble_eq_true rfl, Nat.le_of_ble_eq_true rfl⟩ (Nat.le_of_ble_eq_true rfl) dX10_stretch_11 (c_inI_f (by rw [l1, l4]; exact h2)) ?_
      refine g_if_ne (tgt := 20) hX dX10_stretch_14 (by decide) (fun h9 => absurd (rfl) h9) (fun _ => ?_)
      refine g_ldc hX ccX10_97 dX10_stretch_17 ?_
      refine g_iret (st := []) hX hE rfl dX10_stretch_19 (⟨_, rfl, rfl, hR.thrown⟩)
  obtain ⟨f, hf1, hf4, rfl⟩ : ∃ n, 1 ≤ n ∧ n ≤ 4 ∧ x1 = nI n := ⟨x1.toInt.toNat, by omega, by omega, nI_nat (by omega)⟩
  clear h2
  obtain ⟨n, tk, nm, gr, a, b, tok⟩ := hR.2.1
  have hn := a.1
  have hnf : n * f ≤ 160 := Nat.mul_le_mul hn hf4
  refine ⟨nI (min 40 (n * f)), fun S1 => RwC S1 21 (min 40 (n * f)) (stT tk f) (stN nm f) (stT gr f) ∧ Fq [21, 22, 23, 24, 25] [(48, 12)] S S1 ∧ S1.1 48 12 = 0, ?_, ?_⟩
  · refine oX9_stretch (fun X hX hE => ?_)
    have hTa : ∀ T, Fq [21, 22, 23, 24, 25] [(48, 12)] S T → RwC T 16 n tk nm gr := fun T hF => a.q hF (by decide)
    have inner : ∀ i, i < n → (∀ T, RwC T 21 (min 40 ((i + 1) * f)) (stT tk f) (stN nm f) (stT gr f) → Fq [21, 22, 23, 24, 25] [(48, 12)] S T → T.1 48 12 = 0 → G Γ X T 28 [(0, .ref (Γ.1 48)), (1, .int (nI f)), (2, .int (nI (i + 1)))] []) → ∀ d j T, j + d = f → RwC T 21 (min 40 (i * f + j)) (stT tk f) (stN nm f) (stT gr f) → Fq [21, 22, 23, 24, 25] [(48, 12)] S T → T.1 48 12 = 0 → G Γ X T 41 [(0, .ref (Γ.1 48)), (1, .int (nI f)), (2, .int (nI i)), (3, .int (nI j))] [] := by
      intro i hin next d
      induction d with
      | zero =>
        intro j T hj hT hF h48
        obtain rfl : j = f := by omega
        rw [← Nat.succ_mul] at hT
        refine g_iload_n (i := 3) hX dX9_stretch_41 rfl rfl ?_
        refine g_iload_n (i := 1) hX dX9_stretch_42 rfl rfl ?_
        refine g_icmp_ge (tgt := 95) hX dX9_stretch_43 (by decide) (fun _ => ?_) (fun h9 => absurd (nI_le (Nat.le_refl _) (by omega)) h9)
        refine g_iinc hX dX9_stretch_95 rfl ic1 (by decide) rfl ?_
        refine g_goto (tgt := 28) hX dX9_stretch_98 (by decide) ?_
        rw [nI_1]
        exact g_weak (next T hT hF h48) (as_c rfl (as_c rfl (as_c rfl (as_n))))
      | succ d ih =>
        intro j T hj hT hF h48
        have hTr := hTa T hF
        obtain ⟨q1, q2, q3, q4, -⟩ := hTr.2.2 i hin
        obtain ⟨d1, d2⟩ := st_div (f := f) (i := i) (j := j) (by omega)
        have en : jrem (nI (nm i) + nI j) 10 = nI ((nm i + j) % 10) := by rw [nI_add2, show (10 : Int32) = nI 10 from rfl, jrem_nI (by omega) (by decide) (by decide)]
        by_cases hfull : i * f + j < 40
        · rw [Nat.min_eq_right (by omega)] at hT
          have hap := c_append_t (Γ := Γ) ir21 hT hfull (Nat.mod_lt _ (by decide))
          rw [show stT tk f (i * f + j) = tk i from by unfold stT; rw [d1], show stN nm f (i * f + j) = (nm i + j) % 10 from by unfold stN; rw [d1, d2], show stT gr f (i * f + j) = gr i from by unfold stT; rw [d1]] at hap
          refine g_iload_n (i := 3) hX dX9_stretch_41 rfl rfl ?_
          refine g_iload_n (i := 1) hX dX9_stretch_42 rfl rfl ?_
          refine g_icmp_ge (tgt := 95) hX dX9_stretch_43 (by decide) (fun h9 => absurd h9 (nI_ge (by omega) (by omega))) (fun _ => ?_)
          refine g_aload_n (i := 0) hX dX9_stretch_46 rfl rfl ?_
          refine fX9_18 hX dX9_stretch_47 ?_
          refine fX9_157 hX ir16 dX9_stretch_50 ?_
          refine g_iload_n (i := 2) hX dX9_stretch_53 rfl rfl ?_
          refine g_ialoadN hX ((ir16).a2) rfl ((show i < 40 by omega)) (by first | decide | assumption | omega) dX9_stretch_54 ?_
          refine g_iload_n (i := 3) hX dX9_stretch_55 rfl rfl ?_
          refine g_iadd hX dX9_stretch_56 ?_
          refine g_bipush hX dX9_stretch_57 bp10 ?_
          refine g_irem hX dX9_stretch_59 (by decide) ?_
          refine g_istore hX dX9_stretch_60 (by decide) rfl ?_
          refine g_aload_n (i := 0) hX dX9_stretch_62 rfl rfl ?_
          refine fX9_22 hX dX9_stretch_63 ?_
          refine g_aload_n (i := 0) hX dX9_stretch_66 rfl rfl ?_
          refine fX9_18 hX dX9_stretch_67 ?_
          refine fX9_154 hX ir16 dX9_stretch_70 ?_
          refine g_iload_n (i := 2) hX dX9_stretch_73 rfl rfl ?_
          refine g_ialoadN hX ((ir16).a1) rfl ((show i < 40 by omega)) (by first | decide | assumption | omega) dX9_stretch_74 ?_
          refine g_iload hX dX9_stretch_75 rfl ?_
          refine g_aload_n (i := 0) hX dX9_stretch_77 rfl rfl ?_
          refine fX9_18 hX dX9_stretch_78 ?_
          refine fX9_160 hX ir16 dX9_stretch_81 ?_
          refine g_iload_n (i := 2) hX dX9_stretch_84 rfl rfl ?_
          refine g_ialoadN hX ((ir16).a3) rfl ((show i < 40 by omega)) (by first | decide | assumption | omega) dX9_stretch_85 ?_
          refine eX9_149 hX ir21 ⟨Nat.le_of_ble_eq_true rfl, Nat.le_of_ble_eq_true rfl⟩ (Nat.le_of_ble_eq_true rfl) dX9_stretch_86 ((by rw [q1, q2, q4, en]; exact hap)) (fun T1 hT1 => ?_)
          refine g_iinc hX dX9_stretch_89 rfl ic1 (by decide) rfl ?_
          refine g_goto (tgt := 41) hX dX9_stretch_92 (by decide) ?_
          rw [nI_1]
          refine g_weak (ih (j + 1) T1 (by omega) ?_ (hF.tr (hT1.2.mono (by decide) (fun _ h => by cases h))) ?_) (as_c rfl (as_c rfl (as_c rfl (as_c rfl (as_n)))))
          · rw [Nat.min_eq_right (by omega)]; exact hT1.1
          · rw [(hT1.2.s (k := 48) (j := 12) (by decide)).1]; exact h48
        · rw [Nat.min_eq_left (by omega)] at hT
          refine g_iload_n (i := 3) hX dX9_stretch_41 rfl rfl ?_
          refine g_iload_n (i := 1) hX dX9_stretch_42 rfl rfl ?_
          refine g_icmp_ge (tgt := 95) hX dX9_stretch_43 (by decide) (fun h9 => absurd h9 (nI_ge (by omega) (by omega))) (fun _ => ?_)
          refine g_aload_n (i := 0) hX dX9_stretch_46 rfl rfl ?_
          refine fX9_18 hX dX9_stretch_47 ?_
          refine fX9_157 hX ir16 dX9_stretch_50 ?_
          refine g_iload_n (i := 2) hX dX9_stretch_53 rfl rfl ?_
          refine g_ialoadN hX ((ir16).a2) rfl ((show i < 40 by omega)) (by first | decide | assumption | omega) dX9_stretch_54 ?_
          refine g_iload_n (i := 3) hX dX9_stretch_55 rfl rfl ?_
          refine g_iadd hX dX9_stretch_56 ?_
          refine g_bipush hX dX9_stretch_57 bp10 ?_
          refine g_irem hX dX9_stretch_59 (by decide) ?_
          refine g_istore hX dX9_stretch_60 (by decide) rfl ?_
          refine g_aload_n (i := 0) hX dX9_stretch_62 rfl rfl ?_
          refine fX9_22 hX dX9_stretch_63 ?_
          refine g_aload_n (i := 0) hX dX9_stretch_66 rfl rfl ?_
          refine fX9_18 hX dX9_stretch_67 ?_
          refine fX9_154 hX ir16 dX9_stretch_70 ?_
          refine g_iload_n (i := 2) hX dX9_stretch_73 rfl rfl ?_
          refine g_ialoadN hX ((ir16).a1) rfl ((show i < 40 by omega)) (by first | decide | assumption | omega) dX9_stretch_74 ?_
          refine g_iload hX dX9_stretch_75 rfl ?_
          refine g_aload_n (i := 0) hX dX9_stretch_77 rfl rfl ?_
          refine fX9_18 hX dX9_stretch_78 ?_
          refine fX9_160 hX ir16 dX9_stretch_81 ?_
          refine g_iload_n (i := 2) hX dX9_stretch_84 rfl rfl ?_
          refine g_ialoadN hX ((ir16).a3) rfl ((show i < 40 by omega)) (by first | decide | assumption | omega) dX9_stretch_85 ?_
          refine sX9_149 hX ir21 ⟨Nat.le_of_ble_eq_true rfl, Nat.le_of_ble_eq_true rfl⟩ (Nat.le_of_ble_eq_true rfl) dX9_stretch_86 (c_append_f ir21 hT.2.1) ?_
          refine g_iinc hX dX9_stretch_89 rfl ic1 (by decide) rfl ?_
          refine g_goto (tgt := 41) hX dX9_stretch_92 (by decide) ?_
          rw [nI_1]
          exact g_weak (ih (j + 1) T (by omega) (by rw [Nat.min_eq_left (by omega)]; exact hT) hF h48) (as_c rfl (as_c rfl (as_c rfl (as_c rfl (as_n)))))
    have outer : ∀ d i T, i + d = n → RwC T 21 (min 40 (i * f)) (stT tk f) (stN nm f) (stT gr f) → Fq [21, 22, 23, 24, 25] [(48, 12)] S T → T.1 48 12 = 0 → G Γ X T 28 [(0, .ref (Γ.1 48)), (1, .int (nI f)), (2, .int (nI i))] [] := by
      intro d
      induction d with
      | zero =>
        intro i T hi hT hF h48
        obtain rfl : i = n := by omega
        have hTr := hTa T hF
        refine g_iload_n (i := 2) hX dX9_stretch_28 rfl rfl ?_
        refine g_aload_n (i := 0) hX dX9_stretch_29 rfl rfl ?_
        refine fX9_18 hX dX9_stretch_30 ?_
        refine fX9_137 hX ir16 dX9_stretch_33 ?_
        refine g_icmp_ge (tgt := 101) hX dX9_stretch_36 (by decide) (fun _ => ?_) (fun h9 => absurd ((by rw [hTr.2.1]; exact nI_le (Nat.le_refl _) (by omega))) h9)
        refine g_aload_n (i := 0) hX dX9_stretch_101 rfl rfl ?_
        refine fX9_22 hX dX9_stretch_102 ?_
        refine fX9_137 hX ir21 dX9_stretch_105 ?_
        refine g_iret (st := []) hX hE rfl dX9_stretch_108 (⟨_, rfl, hT.2.1, hT, hF, h48⟩)
      | succ d ih =>
        intro i T hi hT hF h48
        have hTr := hTa T hF
        refine g_iload_n (i := 2) hX dX9_stretch_28 rfl rfl ?_
        refine g_aload_n (i := 0) hX dX9_stretch_29 rfl rfl ?_
        refine fX9_18 hX dX9_stretch_30 ?_
        refine fX9_137 hX ir16 dX9_stretch_33 ?_
        refine g_icmp_ge (tgt := 101) hX dX9_stretch_36 (by decide) (fun h9 => absurd h9 ((by rw [hTr.2.1]; exact nI_ge (by omega) (by omega)))) (fun _ => ?_)
        refine g_iconst hX dX9_stretch_39 ic0 ?_
        refine g_istore_n (i := 3) hX dX9_stretch_40 rfl (by decide) rfl ?_
        exact inner i (by omega) (fun T1 a1 a2 a3 => ih (i + 1) T1 (by omega) a1 a2 a3) f 0 T (by omega) (by rw [Nat.add_zero]; exact hT) hF h48
    refine g_iload_n (i := 1) hX dX9_stretch_0 rfl rfl ?_
    refine g_iconst hX dX9_stretch_1 ic1 ?_
    refine g_icmp_lt (tgt := 10) hX dX9_stretch_2 (by decide) (fun h9 => absurd h9 ((by rw [i_lt, t1, nI_toInt (by omega)]; omega))) (fun _ => ?_)
    refine g_iload_n (i := 1) hX dX9_stretch_5 rfl rfl ?_
    refine g_iconst hX dX9_stretch_6 ic4 ?_
    refine g_icmp_le (tgt := 13) hX dX9_stretch_7 (by decide) (fun _ => ?_) (fun h9 => absurd ((by rw [i_le, t4, nI_toInt (by omega)]; omega)) h9)
    refine g_aload_n (i := 0) hX dX9_stretch_13 rfl rfl ?_
    refine g_iconst hX dX9_stretch_14 ic0 ?_
    refine pX9_77 hX (Or.inl rfl) dX9_stretch_15 ?_
    refine g_aload_n (i := 0) hX dX9_stretch_18 rfl rfl ?_
    refine fX9_22 hX dX9_stretch_19 ?_
    refine g_iconst hX dX9_stretch_22 ic0 ?_
    refine pX9_137 hX ir21 dX9_stretch_23 ?_
    refine g_iconst hX dX9_stretch_26 ic0 ?_
    refine g_istore_n (i := 2) hX dX9_stretch_27 rfl (by decide) rfl ?_
    exact outer n 0 _ (by omega) ⟨by omega, by rw [Nat.zero_mul]; rfl, fun i hi => absurd hi (by rw [Nat.zero_mul]; omega)⟩ ((Fq.rf.I (by decide)).R (by decide)) rfl
  · rintro S1 ⟨rc, hF1, e48⟩
    have rr : RwR S1 0 n tk nm gr := b.q hF1 (by decide)
    refine oX10_stretch (fun X hX hE => ?_)
    have loop : ∀ d k T, k + d = min 40 (n * f) → RwR T 1 k (stT tk f) (stN nm f) (stT gr f) → RwR T 0 n tk nm gr → Fq [71, 72, 73, 74] [(67, 0), (67, 26)] S1 T → T.1 67 26 = 0 → G Γ X T 34 [(0, .ref (Γ.1 67)), (1, .int (nI f)), (2, .int (nI k))] [] := by
      intro d
      induction d with
      | zero =>
        intro k T hk hT hT0 hF h26
        have hfin : G Γ X T 92 [(0, .ref (Γ.1 67)), (1, .int (nI f)), (2, .int (nI k))] [] := by
          obtain rfl : k = min 40 (n * f) := by omega
          refine g_aload_n (i := 0) hX dX10_stretch_92 rfl rfl ?_
          refine fX10_19 hX dX10_stretch_93 ?_
          refine g_iconst hX dX10_stretch_96 ic1 ?_
          refine g_ialoadN (i := 1) hX (ia71) rfl (by decide) (by first | decide | assumption | omega) dX10_stretch_97 ?_
          refine g_iret (st := []) hX hE rfl dX10_stretch_98 (⟨_, rfl, hT.1, ?_⟩)
          have hFF : Fq [21, 22, 23, 24, 25, 71, 72, 73, 74] [(48, 12), (67, 0), (67, 26)] S T := (hF1.mono (by decide) (by decide)).tr (hF.mono (by decide) (by decide))
          refine hR.made hFF (by decide) (rc.q hF (by decide)) hT (stOk hf1 tok) ⟨n, tk, nm, gr, a.q hFF (by decide), hT0, tok⟩ ⟨?_, Or.inl h26, ?_⟩
          · rw [(hF.s (k := 48) (j := 12) (by decide)).1, e48, h26]
          · rw [(hFF.s (k := 48) (j := 13) (by decide)).2, (hFF.s (k := 67) (j := 27) (by decide)).2]
            exact hR.2.2.2.2.2.2.2.1.2.2.2.2.2
        by_cases hle : n * f ≤ 40
        · refine g_iload_n (i := 2) hX dX10_stretch_34 rfl rfl ?_
          refine g_iload_n (i := 1) hX dX10_stretch_35 rfl rfl ?_
          refine g_aload_n (i := 0) hX dX10_stretch_36 rfl rfl ?_
          refine fX10_19 hX dX10_stretch_37 ?_
          refine g_iconst hX dX10_stretch_40 ic0 ?_
          refine g_ialoadN (i := 0) hX (ia71) rfl (by decide) (by first | decide | assumption | omega) dX10_stretch_41 ?_
          refine g_imul hX dX10_stretch_42 ?_
          refine g_icmp_ge (tgt := 92) hX dX10_stretch_43 (by decide) (fun _ => ?_) (fun h9 => absurd ((by rw [hT0.1, nI_mul, Nat.mul_comm f n]; exact nI_le (by omega) (by omega))) h9)
          exact hfin
        · refine g_iload_n (i := 2) hX dX10_stretch_34 rfl rfl ?_
          refine g_iload_n (i := 1) hX dX10_stretch_35 rfl rfl ?_
          refine g_aload_n (i := 0) hX dX10_stretch_36 rfl rfl ?_
          refine fX10_19 hX dX10_stretch_37 ?_
          refine g_iconst hX dX10_stretch_40 ic0 ?_
          refine g_ialoadN (i := 0) hX (ia71) rfl (by decide) (by first | decide | assumption | omega) dX10_stretch_41 ?_
          refine g_imul hX dX10_stretch_42 ?_
          refine g_icmp_ge (tgt := 92) hX dX10_stretch_43 (by decide) (fun h9 => absurd h9 ((by rw [hT0.1, nI_mul, Nat.mul_comm f n]; exact nI_ge (by omega) (by omega)))) (fun _ => ?_)
          refine g_iload_n (i := 2) hX dX10_stretch_46 rfl rfl ?_
          refine g_bipush hX dX10_stretch_47 bp40 ?_
          refine g_icmp_ge (tgt := 92) hX dX10_stretch_49 (by decide) (fun _ => ?_) (fun h9 => absurd ((nI_le (a := 40) (by omega) (by omega))) h9)
          exact hfin
      | succ d ih =>
        intro k T hk hT hT0 hF h26
        have hq : k / f < n := by
          rw [Nat.div_lt_iff_lt_mul (by omega)]; omega
        have hmod : k % f < f := Nat.mod_lt _ (by omega)
        obtain ⟨q1, q2, q3⟩ := hT0.2 (k / f) hq
        rw [Nat.mul_zero, Nat.zero_add] at q1 q2 q3
        have q4 := (a.2.2 (k / f) hq).2.2.1
        have ed : nI k / nI f = nI (k / f) := div_nI (by omega) (by omega) (by omega)
        have en : jrem (T.1 73 (k / f) + jrem (nI k) (nI f)) 10 = nI (stN nm f k) := by
          rw [q2, jrem_nI (by omega) (by omega) (by omega), nI_add2, show (10 : Int32) = nI 10 from rfl, jrem_nI (by omega) (by decide) (by decide)]; rfl
        refine g_iload_n (i := 2) hX dX10_stretch_34 rfl rfl ?_
        refine g_iload_n (i := 1) hX dX10_stretch_35 rfl rfl ?_
        refine g_aload_n (i := 0) hX dX10_stretch_36 rfl rfl ?_
        refine fX10_19 hX dX10_stretch_37 ?_
        refine g_iconst hX dX10_stretch_40 ic0 ?_
        refine g_ialoadN (i := 0) hX (ia71) rfl (by decide) (by first | decide | assumption | omega) dX10_stretch_41 ?_
        refine g_imul hX dX10_stretch_42 ?_
        refine g_icmp_ge (tgt := 92) hX dX10_stretch_43 (by decide) (fun h9 => absurd h9 ((by rw [hT0.1, nI_mul, Nat.mul_comm f n]; exact nI_ge (by omega) (by omega)))) (fun _ => ?_)
        refine g_iload_n (i := 2) hX dX10_stretch_46 rfl rfl ?_
        refine g_bipush hX dX10_stretch_47 bp40 ?_
        refine g_icmp_ge (tgt := 92) hX dX10_stretch_49 (by decide) (fun h9 => absurd h9 ((nI_ge (b := 40) (by omega) (by decide)))) (fun _ => ?_)
        refine g_iload_n (i := 2) hX dX10_stretch_52 rfl rfl ?_
        refine g_iload_n (i := 1) hX dX10_stretch_53 rfl rfl ?_
        refine g_idiv hX dX10_stretch_54 (nI_ne0 (by omega) (by omega)) ?_
        refine g_istore_n (i := 3) hX dX10_stretch_55 rfl (by decide) rfl ?_
        refine g_aload_n (i := 0) hX dX10_stretch_56 rfl rfl ?_
        refine g_iconst hX dX10_stretch_57 ic1 ?_
        refine g_aload_n (i := 0) hX dX10_stretch_58 rfl rfl ?_
        refine fX10_22 hX dX10_stretch_59 ?_
        refine g_iload_n (i := 3) hX dX10_stretch_62 rfl rfl ?_
        refine g_ialoadN hX (ia72) (ed) ((show k / f < 200 by omega)) (by first | decide | assumption | omega) dX10_stretch_63 ?_
        refine g_aload_n (i := 0) hX dX10_stretch_64 rfl rfl ?_
        refine fX10_25 hX dX10_stretch_65 ?_
        refine g_iload_n (i := 3) hX dX10_stretch_68 rfl rfl ?_
        refine g_ialoadN hX (ia73) (ed) ((show k / f < 200 by omega)) (by first | decide | assumption | omega) dX10_stretch_69 ?_
        refine g_iload_n (i := 2) hX dX10_stretch_70 rfl rfl ?_
        refine g_iload_n (i := 1) hX dX10_stretch_71 rfl rfl ?_
        refine g_irem hX dX10_stretch_72 (nI_ne0 (by omega) (by omega)) ?_
        refine g_iadd hX dX10_stretch_73 ?_
        refine g_bipush hX dX10_stretch_74 bp10 ?_
        refine g_irem hX dX10_stretch_76 (by decide) ?_
        refine g_aload_n (i := 0) hX dX10_stretch_77 rfl rfl ?_
        refine fX10_28 hX dX10_stretch_78 ?_
        refine g_iload_n (i := 3) hX dX10_stretch_81 rfl rfl ?_
        refine g_ialoadN hX (ia74) (ed) ((show k / f < 200 by omega)) (by first | decide | assumption | omega) dX10_stretch_82 ?_
        refine sX10_102 hX ⟨Nat.le_of_ble_eq_true rfl, Nat.le_of_ble_eq_true rfl⟩ (Nat.le_of_ble_eq_true rfl) dX10_stretch_83 (c_add (r := 1) (n := k) (by decide) (by omega) hT.1) ?_
        refine g_iinc hX dX10_stretch_86 rfl ic1 (by decide) rfl ?_
        refine g_goto (tgt := 34) hX dX10_stretch_89 (by decide) ?_
        rw [nI_1, q1, en, q3]
        exact g_weak (ih (k + 1) _ (by omega) hT.push (hT0.other (by decide) (by omega) hn) (hF.tr (addS_F.mono (by decide) (fun _ h => by cases h))) (by rw [(addS_F.s (k := 67) (j := 26) (by decide)).1]; exact h26)) (as_c rfl (as_c rfl (as_c rfl (as_n))))
    refine g_aload_n (i := 0) hX dX10_stretch_0 rfl rfl ?_
    refine g_iconst hX dX10_stretch_1 ic0 ?_
    refine pX10_78 hX dX10_stretch_2 ?_
    refine g_iload_n (i := 1) hX dX10_stretch_5 rfl rfl ?_
    refine g_i2l hX dX10_stretch_6 ?_
    refine g_lconst (v := 1) hX dX10_stretch_7 (by decide) ?_
    refine g_ldc2_w hX ccX10_114 dX10_stretch_8 ?_
    refine sX10_87 hX ⟨Nat.le_of_ble_eq_true rfl, Nat.le_of_ble_eq_true rfl⟩ (Nat.le_of_ble_eq_true rfl) dX10_stretch_11 (c_inI_t (by rw [nI_toInt (by omega), l1]; omega) (by rw [nI_toInt (by omega), l4]; omega)) ?_
    refine g_if_ne (tgt := 20) hX dX10_stretch_14 (by decide) (fun _ => ?_) (fun h9 => absurd h9 ((by decide)))
    refine g_aload_n (i := 0) hX dX10_stretch_20 rfl rfl ?_
    refine fX10_19 hX dX10_stretch_21 ?_
    refine g_iconst hX dX10_stretch_24 ic1 ?_
    refine g_iconst hX dX10_stretch_25 ic0 ?_
    refine g_iastoreN (i := 1) hX (ia71) rfl (by decide) (by first | decide | assumption | omega) dX10_stretch_26 ?_
    refine g_aload_n (i := 0) hX dX10_stretch_27 rfl rfl ?_
    refine g_iconst hX dX10_stretch_28 ic0 ?_
    refine pX10_248 hX (Or.inl rfl) dX10_stretch_29 ?_
    refine g_iconst hX dX10_stretch_32 ic0 ?_
    refine g_istore_n (i := 2) hX dX10_stretch_33 rfl (by decide) rfl ?_
    exact loop (min 40 (n * f)) 0 _ (by omega) ((RwR.zero (S := S0 S1) (r := 1)).q (K := []) (O := [(67, 26)]) (Fq.rf.I (by decide)) (by decide)) (((rr.q (K := []) (O := [(67, 0)]) (Fq.rf.I (by decide)) (by decide)).keep71 (r := 1) (x := 0) (by decide)).q (K := []) (O := [(67, 26)]) (Fq.rf.I (by decide)) (by decide)) (((Fq.rf.I (by decide)).R (by decide)).I (by decide)) rfl
