/-! promise 19: worth -/
theorem Rel.laid3 {S S1 : St} (h : Rel S) (hk : ∀ r' n' tk' nm' gr', r' ≠ 4 → n' ≤ 40 → RwR S r' n' tk' nm' gr' → RwR S1 r' n' tk' nm' gr') (hF : Fq [71, 72, 73, 74, 79] [(67, 22), (67, 23), (67, 25)] S S1) : Rel S1 := by
  obtain ⟨h1, h2, h3, h4, h5, h6, h7, h8, h9⟩ := h
  refine ⟨h1.q hF (by decide), ?_, ?_, h4.q hF (by decide), h5.q hF (by decide), h6.q hF (by decide), h7.q hF (by decide), h8.q hF (by decide), h9.q hF (by decide)⟩
  · obtain ⟨n, tk, nm, gr, a, b, d⟩ := h2
    exact ⟨n, tk, nm, gr, a.q hF (by decide), hk _ _ _ _ _ (by decide) a.1 b, d⟩
  · obtain ⟨n, tk, nm, gr, a, b, d⟩ := h3
    exact ⟨n, tk, nm, gr, a.q hF (by decide), hk _ _ _ _ _ (by decide) a.1 b, d⟩
theorem bits6b : ∀ b0 b1 b2 b3 b4 b5 : Bool, bN (fun w => !((fun w => match w with | 0 => b0 | 1 => b1 | 2 => b2 | 3 => b3 | 4 => b4 | _ => b5) w)) 6 = 63 ^^^ bN (fun w => match w with | 0 => b0 | 1 => b1 | 2 => b2 | 3 => b3 | 4 => b4 | _ => b5) 6 ∧ bN (fun w => match w with | 0 => b0 | 1 => b1 | 2 => b2 | 3 => b3 | 4 => b4 | _ => b5) 6 < 64 := by decide +kernel
theorem bN_not (u : Nat → Bool) : bN (fun w => !u w) 6 = 63 ^^^ bN u 6 ∧ bN u 6 < 64 := bits6b (u 0) (u 1) (u 2) (u 3) (u 4) (u 5)
theorem and_not6 : ∀ a, a < 64 → ∀ b, b < 64 → nI (63 ^^^ a) &&& (nI (63 ^^^ b) ^^^ (-1 : Int32)) = nI b &&& (nI a ^^^ (-1 : Int32)) := by decide +kernel
theorem step_worth {Γ : GG} (x1 x2 : Int32) : Step (fun S P => kX9_worth Γ [.ref (Γ.1 48), .int x1, .int x2] S P) (fun S P => kX10_worth Γ [.ref (Γ.1 67), .int x1, .int x2] S P) := by
  intro S hR
  have l4 : (4 : Int64).toInt = 4 := by decide
  by_cases h1 : inB x1 4
  case neg =>
    refine ⟨-1000001, fun S1 => S1 = S, ?_, ?_⟩
    · refine oX9_worth (fun X hX hE => ?_)
      refine g_iload_n (i := 1) hX dX9_worth_0 rfl rfl ?_
      refine g_iconst hX dX9_worth_1 ic4 ?_
      refine sX9_96 hX ⟨Nat.le_of_ble_eq_true rfl, Nat.le_of_ble_eq_true rfl⟩ (Nat.le_of_ble_eq_true rfl) dX9_worth_2 (isB_f (n := 4) (by decide) h1) ?_
      refine g_if_eq (tgt := 15) hX dX9_worth_5 (by decide) (fun _ => ?_) (fun h9 => absurd (rfl) h9)
      refine g_ldc hX ccX9_100 dX9_worth_15 ?_
      refine g_iret (st := []) hX hE rfl dX9_worth_17 (⟨_, rfl, rfl, rfl⟩)
    · rintro S1 rfl
      refine oX10_worth (fun X hX hE => ?_)
      refine g_aload_n (i := 0) hX dX10_worth_0 rfl rfl ?_
      refine g_iconst hX dX10_worth_1 ic0 ?_
      refine pX10_78 hX dX10_worth_2 ?_
      refine g_iload_n (i := 1) hX dX10_worth_5 rfl rfl ?_
      refine sX10_202 hX ⟨Nat.le_of_ble_eq_true rfl, Nat.le_of_ble_eq_true rfl⟩ (Nat.le_of_ble_eq_true rfl) dX10_worth_6 (c_isPart_f h1) ?_
      refine g_if_eq (tgt := 24) hX dX10_worth_9 (by decide) (fun _ => ?_) (fun h9 => absurd (rfl) h9)
      refine g_ldc hX ccX10_97 dX10_worth_24 ?_
      refine g_iret (st := []) hX hE rfl dX10_worth_26 (⟨_, rfl, rfl, hR.thrown⟩)
  obtain ⟨p, hp, rfl⟩ := h1
  by_cases h3 : inB x2 5
  case neg =>
    refine ⟨-1000001, fun S1 => S1 = S, ?_, ?_⟩
    · refine oX9_worth (fun X hX hE => ?_)
      refine g_iload_n (i := 1) hX dX9_worth_0 rfl rfl ?_
      refine g_iconst hX dX9_worth_1 ic4 ?_
      refine sX9_96 hX ⟨Nat.le_of_ble_eq_true rfl, Nat.le_of_ble_eq_true rfl⟩ (Nat.le_of_ble_eq_true rfl) dX9_worth_2 (isB_t (n := 4) hp (by decide)) ?_
      refine g_if_eq (tgt := 15) hX dX9_worth_5 (by decide) (fun h9 => absurd h9 ((by decide))) (fun _ => ?_)
      refine g_iload_n (i := 2) hX dX9_worth_8 rfl rfl ?_
      refine sX9_221 hX ⟨Nat.le_of_ble_eq_true rfl, Nat.le_of_ble_eq_true rfl⟩ (Nat.le_of_ble_eq_true rfl) dX9_worth_9 (isC_f h3) ?_
      refine g_if_ne (tgt := 18) hX dX9_worth_12 (by decide) (fun h9 => absurd (rfl) h9) (fun _ => ?_)
      refine g_ldc hX ccX9_100 dX9_worth_15 ?_
      refine g_iret (st := []) hX hE rfl dX9_worth_17 (⟨_, rfl, rfl, rfl⟩)
    · rintro S1 rfl
      refine oX10_worth (fun X hX hE => ?_)
      rw [inB_iff (by decide)] at h3
      refine g_aload_n (i := 0) hX dX10_worth_0 rfl rfl ?_
      refine g_iconst hX dX10_worth_1 ic0 ?_
      refine pX10_78 hX dX10_worth_2 ?_
      refine g_iload_n (i := 1) hX dX10_worth_5 rfl rfl ?_
      refine sX10_202 hX ⟨Nat.le_of_ble_eq_true rfl, Nat.le_of_ble_eq_true rfl⟩ (Nat.le_of_ble_eq_true rfl) dX10_worth_6 (c_isPart_t hp) ?_
      refine g_if_eq (tgt := 24) hX dX10_worth_9 (by decide) (fun h9 => absurd h9 ((by decide))) (fun _ => ?_)
      refine g_iload_n (i := 2) hX dX10_worth_12 rfl rfl ?_
      refine g_i2l hX dX10_worth_13 ?_
      refine g_lconst (v := 0) hX dX10_worth_14 (by decide) ?_
      refine g_ldc2_w hX ccX10_114 dX10_worth_15 ?_
      refine sX10_87 hX ⟨Nat.le_of_ble_eq_true rfl, Nat.le_of_ble_eq_true rfl⟩ (Nat.le_of_ble_eq_true rfl) dX10_worth_18 (c_inI_f (by rw [L0, l4]; omega)) ?_
      refine g_if_ne (tgt := 27) hX dX10_worth_21 (by decide) (fun h9 => absurd (rfl) h9) (fun _ => ?_)
      refine g_ldc hX ccX10_97 dX10_worth_24 ?_
      refine g_iret (st := []) hX hE rfl dX10_worth_26 (⟨_, rfl, rfl, hR.thrown⟩)
  obtain ⟨k, hk, rfl⟩ := h3
  have c3 : ∀ T : St, kX10_in Γ [.long (nI k).toInt64, .long 0, .long 4] T (rI 1 T) := fun T => c_inI_t (by rw [nI_toInt (by omega), L0]; omega) (by rw [nI_toInt (by omega), l4]; omega)
  obtain ⟨ms1, ms2, ms3, ms4, ms5, ms6⟩ := hR.2.2.2.2.2.2.2.1
  by_cases hby : S.1 67 26 = 0
  · refine ⟨-1000002, fun S1 => S1 = S, ?_, ?_⟩
    · refine oX9_worth (fun X hX hE => ?_)
      refine g_iload_n (i := 1) hX dX9_worth_0 rfl rfl ?_
      refine g_iconst hX dX9_worth_1 ic4 ?_
      refine sX9_96 hX ⟨Nat.le_of_ble_eq_true rfl, Nat.le_of_ble_eq_true rfl⟩ (Nat.le_of_ble_eq_true rfl) dX9_worth_2 (isB_t (n := 4) hp (by decide)) ?_
      refine g_if_eq (tgt := 15) hX dX9_worth_5 (by decide) (fun h9 => absurd h9 ((by decide))) (fun _ => ?_)
      refine g_iload_n (i := 2) hX dX9_worth_8 rfl rfl ?_
      refine sX9_221 hX ⟨Nat.le_of_ble_eq_true rfl, Nat.le_of_ble_eq_true rfl⟩ (Nat.le_of_ble_eq_true rfl) dX9_worth_9 (isC_t hk) ?_
      refine g_if_ne (tgt := 18) hX dX9_worth_12 (by decide) (fun _ => ?_) (fun h9 => absurd h9 ((by decide)))
      refine g_aload_n (i := 0) hX dX9_worth_18 rfl rfl ?_
      refine fX9_77 hX dX9_worth_19 ?_
      refine g_if_ne (tgt := 28) hX dX9_worth_22 (by decide) (fun h9 => absurd ((by rw [ms4]; exact hby)) h9) (fun _ => ?_)
      refine g_ldc hX ccX9_241 dX9_worth_25 ?_
      refine g_iret (st := []) hX hE rfl dX9_worth_27 (⟨_, rfl, rfl, rfl⟩)
    · rintro S1 rfl
      refine oX10_worth (fun X hX hE => ?_)
      refine g_aload_n (i := 0) hX dX10_worth_0 rfl rfl ?_
      refine g_iconst hX dX10_worth_1 ic0 ?_
      refine pX10_78 hX dX10_worth_2 ?_
      refine g_iload_n (i := 1) hX dX10_worth_5 rfl rfl ?_
      refine sX10_202 hX ⟨Nat.le_of_ble_eq_true rfl, Nat.le_of_ble_eq_true rfl⟩ (Nat.le_of_ble_eq_true rfl) dX10_worth_6 (c_isPart_t hp) ?_
      refine g_if_eq (tgt := 24) hX dX10_worth_9 (by decide) (fun h9 => absurd h9 ((by decide))) (fun _ => ?_)
      refine g_iload_n (i := 2) hX dX10_worth_12 rfl rfl ?_
      refine g_i2l hX dX10_worth_13 ?_
      refine g_lconst (v := 0) hX dX10_worth_14 (by decide) ?_
      refine g_ldc2_w hX ccX10_114 dX10_worth_15 ?_
      refine sX10_87 hX ⟨Nat.le_of_ble_eq_true rfl, Nat.le_of_ble_eq_true rfl⟩ (Nat.le_of_ble_eq_true rfl) dX10_worth_18 (c3 _) ?_
      refine g_if_ne (tgt := 27) hX dX10_worth_21 (by decide) (fun _ => ?_) (fun h9 => absurd h9 ((by decide)))
      refine g_aload_n (i := 0) hX dX10_worth_27 rfl rfl ?_
      refine fX10_248 hX dX10_worth_28 ?_
      refine g_if_ne (tgt := 38) hX dX10_worth_31 (by decide) (fun h9 => absurd (hby) h9) (fun _ => ?_)
      refine g_ldc_w hX ccX10_278 dX10_worth_34 ?_
      refine g_iret (st := []) hX hE rfl dX10_worth_37 (⟨_, rfl, rfl, hR.thrown⟩)
  obtain ⟨hs0, hs1, hs2, ⟨c, hc1, hc6, hc⟩, hh, hm⟩ := hR.2.2.2.2.2.2.1
  obtain ⟨n, tk, nm, gr, a, b, tok⟩ := hR.2.1
  obtain ⟨n2, tk2, nm2, gr2, a2, b2, tok2⟩ := hR.2.2.1
  have hnm : ∀ i, i < n → nm i < 10 := fun i hi => (a.2.2 i hi).2.2.1
  have hnm2 : ∀ i, i < n2 → nm2 i < 10 := fun i hi => (a2.2.2 i hi).2.2.1
  have h40 := a.1
  have hnf : ∀ f, f < 2 → hfN n f ≤ 40 ∧ ∀ i, i < hfN n f → nm (f + 2 * i) < 10 := fun f hf => ⟨by unfold hfN; omega, fun i hi => hnm _ (by unfold hfN at hi; omega)⟩
  obtain ⟨w, w1, w2, w3, w4⟩ := hR.2.2.2.1
  obtain ⟨o1, o2⟩ := hR.2.2.2.2.1
  obtain ⟨W, hWd⟩ : ∃ W : Nat → Nat → Nat, ∀ q i, W q i = if S.1 77 q = 0 ∧ q ≠ p then w q i else 0 := ⟨_, fun _ _ => rfl⟩
  obtain ⟨kp, hkd⟩ : ∃ kp : Nat → Nat, ∀ q, kp q = if S.1 55 q = 0 ∧ ¬ nI q = nI p then 36 + q else 56 := ⟨_, fun _ => rfl⟩
  have hw99 : ∀ p, p < 4 → ∀ i, i < 11 → w p i ≤ 99 := fun p hp i hi => (w1 p hp i hi).2
  have hW20 : W 2 0 = 0 := by rw [hWd, w3 2 (by decide) 0 (by decide) (by decide), ite_self]
  have hnp : ∀ q, q < 4 → (¬ nI q = nI p ↔ q ≠ p) := fun q hq => ⟨fun h e => h (by rw [e]), fun h => nI_ne (by omega) (by omega) h⟩
  have hkW : ∀ q, q < 4 → ∀ j, j < 11 → S.1 (kp q) j = nI (W q j) ∧ W q j ≤ 99 := by
    intro q hq j hj
    by_cases e : S.1 55 q = 0 ∧ ¬ nI q = nI p
    · rw [hkd, if_pos e, hWd, if_pos ⟨by rw [← (o1 q hq).1]; exact e.1, (hnp q hq).mp e.2⟩]
      exact w1 q hq j hj
    · rw [hkd, if_neg e, hWd, if_neg (fun z => e ⟨by rw [(o1 q hq).1]; exact z.1, (hnp q hq).mpr z.2⟩)]
      exact ⟨o2 j hj, by decide⟩
  have hkk : ∀ q, kp q = 36 + q ∨ kp q = 56 := fun q => by rw [hkd]; split <;> simp
  obtain ⟨z, hz⟩ : ∃ z, z = S.2 48 13 := ⟨_, rfl⟩
  have tokO : TrOk n2 (tkM W z) (grM W z) := mk_tr z n2 hW20
  have hnmO : ∀ i, i < n2 → nmM W z i < 10 := fun i _ => nm_mk i
  have pX := fun w => six_bd (c := c) (k := k) tok2 hh hm a2.1 hnm2 w
  have pY := fun w => six_bd (c := c) (k := k) tokO hh hm a2.1 hnmO w
  have pT := fun w => six_bd (c := c) (k := k) tok hh hm a.1 hnm w
  have pE := fun w => six_bd (c := c) (k := k) (nm := fun i => nm (0 + 2 * i)) (tok.half (f := 0) (by decide)) hh hm (hnf 0 (by decide)).1 (hnf 0 (by decide)).2 w
  have pO := fun w => six_bd (c := c) (k := k) (nm := fun i => nm (1 + 2 * i)) (tok.half (f := 1) (by decide)) hh hm (hnf 1 (by decide)).1 (hnf 1 (by decide)).2 w
  obtain ⟨vX, hvX⟩ : ∃ v, v = sixN tk2 nm2 gr2 c (S.1 60 1) (S.1 60 2) k n2 := ⟨_, rfl⟩
  obtain ⟨vY, hvY⟩ : ∃ v, v = sixN (tkM W z) (nmM W z) (grM W z) c (S.1 60 1) (S.1 60 2) k n2 := ⟨_, rfl⟩
  obtain ⟨vT, hvT⟩ : ∃ v, v = sixN tk nm gr c (S.1 60 1) (S.1 60 2) k n := ⟨_, rfl⟩
  obtain ⟨vE, hvE⟩ : ∃ v, v = sixN (fun i => tk (0 + 2 * i)) (fun i => nm (0 + 2 * i)) (fun i => gr (0 + 2 * i)) c (S.1 60 1) (S.1 60 2) k (hfN n 0) := ⟨_, rfl⟩
  obtain ⟨vO, hvO⟩ : ∃ v, v = sixN (fun i => tk (1 + 2 * i)) (fun i => nm (1 + 2 * i)) (fun i => gr (1 + 2 * i)) c (S.1 60 1) (S.1 60 2) k (hfN n 1) := ⟨_, rfl⟩
  rw [← hvX] at pX
  rw [← hvY] at pY
  rw [← hvT] at pT
  rw [← hvE] at pE
  rw [← hvO] at pO
  refine ⟨nI (bN (unB vY vT vE vO) 6) &&& (nI (bN (unB vX vT vE vO) 6) ^^^ (-1 : Int32)), fun S1 => Fq [26, 27, 28, 29, 30, 31, 32, 33, 34, 35, 44, 45, 46, 47, 59, 61] [(58, 0), (58, 1)] S S1, ?_, ?_⟩
  · refine oX9_worth (fun X hX hE => ?_)
    have hmk := c_makeRow (Γ := Γ) (S := S) (b := 26) (n := n2) (x := nI p) (z := z) (W := W) (kp := kp) ir26 (by decide) a2.1 (fun q _ => hkd q) (fun q hq => by rw [(o1 q hq).1]; exact (o1 q hq).2) hkW
    rw [hz, ← a2.2.1] at hmk
    refine g_iload_n (i := 1) hX dX9_worth_0 rfl rfl ?_
    refine g_iconst hX dX9_worth_1 ic4 ?_
    refine sX9_96 hX ⟨Nat.le_of_ble_eq_true rfl, Nat.le_of_ble_eq_true rfl⟩ (Nat.le_of_ble_eq_true rfl) dX9_worth_2 (isB_t (n := 4) hp (by decide)) ?_
    refine g_if_eq (tgt := 15) hX dX9_worth_5 (by decide) (fun h9 => absurd h9 ((by decide))) (fun _ => ?_)
    refine g_iload_n (i := 2) hX dX9_worth_8 rfl rfl ?_
    refine sX9_221 hX ⟨Nat.le_of_ble_eq_true rfl, Nat.le_of_ble_eq_true rfl⟩ (Nat.le_of_ble_eq_true rfl) dX9_worth_9 (isC_t hk) ?_
    refine g_if_ne (tgt := 18) hX dX9_worth_12 (by decide) (fun _ => ?_) (fun h9 => absurd h9 ((by decide)))
    refine g_aload_n (i := 0) hX dX9_worth_18 rfl rfl ?_
    refine fX9_77 hX dX9_worth_19 ?_
    refine g_if_ne (tgt := 28) hX dX9_worth_22 (by decide) (fun _ => ?_) (fun h9 => absurd h9 ((by rw [ms4]; exact hby)))
    refine g_aload_n (i := 0) hX dX9_worth_28 rfl rfl ?_
    refine fX9_45 hX dX9_worth_29 ?_
    refine g_aload_n (i := 0) hX dX9_worth_32 rfl rfl ?_
    refine fX9_25 hX dX9_worth_33 ?_
    refine g_aload_n (i := 0) hX dX9_worth_36 rfl rfl ?_
    refine fX9_38 hX dX9_worth_37 ?_
    refine g_aload_n (i := 0) hX dX9_worth_40 rfl rfl ?_
    refine fX9_81 hX dX9_worth_41 ?_
    refine g_aload_n (i := 0) hX dX9_worth_44 rfl rfl ?_
    refine fX9_22 hX dX9_worth_45 ?_
    refine fX9_137 hX ir21 dX9_worth_48 ?_
    refine g_iload_n (i := 1) hX dX9_worth_51 rfl rfl ?_
    refine eX9_208 hX ⟨Nat.le_of_ble_eq_true rfl, Nat.le_of_ble_eq_true rfl⟩ (Nat.le_of_ble_eq_true rfl) dX9_worth_52 (hmk) (fun v1 T1 hT1 => ?_)
    refine g_pop hX dX9_worth_55 rfl ?_
    rw [← hz] at hT1
    obtain ⟨-, r1, F1⟩ := hT1
    have e60 : T1.1 60 = S.1 60 := F1.r (by decide)
    have hst := c_stepTrue (Γ := Γ) (S := T1) (k := k) (c := c) (a.q F1 (by decide)) hk (by rw [e60]; exact hc) hc6
    rw [e60, ← hvT, ← hvE, ← hvO] at hst
    refine g_aload_n (i := 0) hX dX9_worth_56 rfl rfl ?_
    refine fX9_59 hX dX9_worth_57 ?_
    refine g_aload_n (i := 0) hX dX9_worth_60 rfl rfl ?_
    refine fX9_18 hX dX9_worth_61 ?_
    refine g_aload_n (i := 0) hX dX9_worth_64 rfl rfl ?_
    refine fX9_52 hX dX9_worth_65 ?_
    refine g_iload_n (i := 2) hX dX9_worth_68 rfl rfl ?_
    refine eX9_233 hX ⟨Nat.le_of_ble_eq_true rfl, Nat.le_of_ble_eq_true rfl⟩ (Nat.le_of_ble_eq_true rfl) dX9_worth_69 (hst) (fun T2 hT2 => ?_)
    obtain ⟨g1, g2, g3, F2⟩ := hT2
    have f60 : T2.1 60 = S.1 60 := (F2.r (by decide)).trans e60
    have hun := c_unlikeIn (Γ := Γ) (S := T2) (c := c) (k := k) (vX := vX) ir21 ((a2.q F1 (by decide)).q F2 (by decide)) (by decide) hk (by rw [f60]; exact hc) hc6 (fun w _ => by rw [f60, hvX]) g1 g2 g3 (fun w hw => ⟨pX w, pT w, pE w, pO w⟩)
    refine g_aload_n (i := 0) hX dX9_worth_72 rfl rfl ?_
    refine fX9_59 hX dX9_worth_73 ?_
    refine g_aload_n (i := 0) hX dX9_worth_76 rfl rfl ?_
    refine fX9_22 hX dX9_worth_77 ?_
    refine g_aload_n (i := 0) hX dX9_worth_80 rfl rfl ?_
    refine fX9_52 hX dX9_worth_81 ?_
    refine g_iload_n (i := 2) hX dX9_worth_84 rfl rfl ?_
    refine eX9_237 hX ⟨Nat.le_of_ble_eq_true rfl, Nat.le_of_ble_eq_true rfl⟩ (Nat.le_of_ble_eq_true rfl) dX9_worth_85 (hun) (fun v3 T3 hT3 => ?_)
    refine g_istore_n (i := 3) hX dX9_worth_88 rfl (by decide) rfl ?_
    obtain ⟨ev3, F3⟩ := hT3
    have i60 : T3.1 60 = S.1 60 := (F3.r (by decide)).trans f60
    have hun2 := c_unlikeIn (Γ := Γ) (S := T3) (c := c) (k := k) (vX := vY) ir26 ((r1.q F2 (by decide)).q F3 (by decide)) (by decide) hk (by rw [i60]; exact hc) hc6 (fun w _ => by rw [i60, hvY]) (by rw [F3.r (k := 44) (by decide)]; exact g1) (by rw [F3.r (k := 45) (by decide)]; exact g2) (by rw [F3.r (k := 46) (by decide)]; exact g3) (fun w hw => ⟨pY w, pT w, pE w, pO w⟩)
    refine g_aload_n (i := 0) hX dX9_worth_89 rfl rfl ?_
    refine fX9_59 hX dX9_worth_90 ?_
    refine g_aload_n (i := 0) hX dX9_worth_93 rfl rfl ?_
    refine fX9_25 hX dX9_worth_94 ?_
    refine g_aload_n (i := 0) hX dX9_worth_97 rfl rfl ?_
    refine fX9_52 hX dX9_worth_98 ?_
    refine g_iload_n (i := 2) hX dX9_worth_101 rfl rfl ?_
    refine eX9_237 hX ⟨Nat.le_of_ble_eq_true rfl, Nat.le_of_ble_eq_true rfl⟩ (Nat.le_of_ble_eq_true rfl) dX9_worth_102 (hun2) (fun v4 T4 hT4 => ?_)
    refine g_iload_n (i := 3) hX dX9_worth_105 rfl rfl ?_
    refine g_iconst hX dX9_worth_106 icm1 ?_
    refine g_ixor hX dX9_worth_107 ?_
    refine g_iand hX dX9_worth_108 ?_
    refine g_iret (st := []) hX hE rfl dX9_worth_109 (⟨_, rfl, by rw [hT4.1, ev3], ?_⟩)
    exact (((F1.mono (by decide) (by decide)).tr (F2.mono (by decide) (fun _ z => by cases z))).tr (F3.mono (by decide) (fun _ z => by cases z))).tr (hT4.2.mono (by decide) (fun _ z => by cases z))
  · intro S1 hF1
    have hR1 : Rel S1 := hR.q hF1 (by decide)
    have hR0 : Rel (S0 S1) := hR1.thrown
    have hF0 : Fq [26, 27, 28, 29, 30, 31, 32, 33, 34, 35, 44, 45, 46, 47, 59, 61] [(58, 0), (58, 1), (67, 0)] S (S0 S1) := (hF1.mono (fun _ z => z) (by decide)).I (by decide)
    have e28 : (S0 S1).1 67 28 = nI c := by rw [(hF0.s (k := 67) (j := 28) (by decide)).1, ← hs0]; exact hc
    have e29 : (S0 S1).1 67 29 = S.1 60 1 := by rw [(hF0.s (k := 67) (j := 29) (by decide)).1, hs1]
    have e30 : (S0 S1).1 67 30 = S.1 60 2 := by rw [(hF0.s (k := 67) (j := 30) (by decide)).1, hs2]
    have e77 : (S0 S1).1 77 = S.1 77 := hF0.r (by decide)
    have e75 : (S0 S1).1 75 = S.1 75 := hF0.r (by decide)
    have hls := c_likeSet (Γ := Γ) (S := S0 S1) (r := 1) (c := c) (k := k) (vX := vX) (vT := vT) (vE := vE) (vO := vO) (by decide) (by decide) (by decide) h40 a2.1 (b.q hF0 (by decide)) (b2.q hF0 (by decide)) hnm hnm2 hk e28 hc6 (fun w _ => by rw [e29, e30, hvX]) (fun w _ => by rw [e29, e30, hvT]) (fun w _ => by rw [e29, e30, hvE]) (fun w _ => by rw [e29, e30, hvO])
    have hz0 : (S0 S1).2 67 27 = z := by rw [(hF0.s (k := 67) (j := 27) (by decide)).2, ← ms6, hz]
    have hby0 : ¬ (S0 S1).1 67 26 = 0 := by rw [(hF0.s (k := 67) (j := 26) (by decide)).1]; exact hby
    have b0 := b.q hF0 (by decide)
    have b20 := b2.q hF0 (by decide)
    refine oX10_worth (fun X hX hE => ?_)
    refine g_aload_n (i := 0) hX dX10_worth_0 rfl rfl ?_
    refine g_iconst hX dX10_worth_1 ic0 ?_
    refine pX10_78 hX dX10_worth_2 ?_
    refine g_iload_n (i := 1) hX dX10_worth_5 rfl rfl ?_
    refine sX10_202 hX ⟨Nat.le_of_ble_eq_true rfl, Nat.le_of_ble_eq_true rfl⟩ (Nat.le_of_ble_eq_true rfl) dX10_worth_6 (c_isPart_t hp) ?_
    refine g_if_eq (tgt := 24) hX dX10_worth_9 (by decide) (fun h9 => absurd h9 ((by decide))) (fun _ => ?_)
    refine g_iload_n (i := 2) hX dX10_worth_12 rfl rfl ?_
    refine g_i2l hX dX10_worth_13 ?_
    refine g_lconst (v := 0) hX dX10_worth_14 (by decide) ?_
    refine g_ldc2_w hX ccX10_114 dX10_worth_15 ?_
    refine sX10_87 hX ⟨Nat.le_of_ble_eq_true rfl, Nat.le_of_ble_eq_true rfl⟩ (Nat.le_of_ble_eq_true rfl) dX10_worth_18 (c3 _) ?_
    refine g_if_ne (tgt := 27) hX dX10_worth_21 (by decide) (fun _ => ?_) (fun h9 => absurd h9 ((by decide)))
    refine g_aload_n (i := 0) hX dX10_worth_27 rfl rfl ?_
    refine fX10_248 hX dX10_worth_28 ?_
    refine g_if_ne (tgt := 38) hX dX10_worth_31 (by decide) (fun _ => ?_) (fun h9 => absurd h9 (hby0))
    refine g_aload_n (i := 0) hX dX10_worth_38 rfl rfl ?_
    refine g_iconst hX dX10_worth_39 ic1 ?_
    refine g_iload_n (i := 2) hX dX10_worth_40 rfl rfl ?_
    refine eX10_275 hX ⟨Nat.le_of_ble_eq_true rfl, Nat.le_of_ble_eq_true rfl⟩ (Nat.le_of_ble_eq_true rfl) dX10_worth_41 (hls) (fun v1 U1 hU1 => ?_)
    refine g_istore_n (i := 3) hX dX10_worth_44 rfl (by decide) rfl ?_
    obtain ⟨ev1, ho1, F1⟩ := hU1
    have hRU1 : Rel U1 := hR0.laid2 ho1 F1
    have f77 : U1.1 77 = S.1 77 := (F1.r (by decide)).trans e77
    have ho77 : U1.1 77 p = 0 ∨ U1.1 77 p = 1 := by rw [f77]; exact (o1 p hp).2
    have c1 : U1.1 71 1 = nI n2 := (ho1 _ _ _ _ _ (by decide) (by decide) a2.1 b20).1
    have q0 := ho1 _ _ _ _ _ (by decide) (by decide) h40 b0
    have q1 := ho1 _ _ _ _ _ (by decide) (by decide) a2.1 b20
    have FA : Fq [77] [] U1 (pI U1 77 p 1) := Fq.rf.R (by decide)
    have hmk := c_makeRowR (Γ := Γ) (S := pI U1 77 p 1) (r := 4) (n := n2) (z := z) (w := w) (W := W) (by decide) a2.1 hw99 (fun q hq i q1 q2 => by rw [FA.r (k := 75) (by decide), F1.r (k := 75) (by decide), e75]; exact w2 q hq i q1 q2) w3 (fun q hq i hi => by
      rw [hWd, pR_self]
      by_cases e : q = p
      · subst e; rw [upd_self, if_neg (fun z => z.2 rfl), if_neg (by decide)]
      · rw [upd_ne _ _ e, f77]
        by_cases e2 : S.1 77 q = 0
        · rw [if_pos ⟨e2, e⟩, if_pos e2]
        · rw [if_neg (fun z => e2 z.1), if_neg e2])
    have hzU : (pI U1 77 p 1).2 67 27 = z := by rw [(FA.s (k := 67) (j := 27) (by decide)).2, (F1.s (k := 67) (j := 27) (by decide)).2]; exact hz0
    have hnU : (pI U1 77 p 1).1 71 1 = nI n2 := by rw [FA.r (k := 71) (by decide)]; exact c1
    refine g_aload_n (i := 0) hX dX10_worth_45 rfl rfl ?_
    refine fX10_37 hX dX10_worth_46 ?_
    refine g_iload_n (i := 1) hX dX10_worth_49 rfl rfl ?_
    refine g_baloadN hX (show 77 < NC by decide) (show lay 77 = (1, 4, []) by decide) rfl (hp) (by decide) dX10_worth_50 ?_
    refine g_istore hX dX10_worth_51 (by decide) rfl ?_
    refine g_aload_n (i := 0) hX dX10_worth_53 rfl rfl ?_
    refine fX10_37 hX dX10_worth_54 ?_
    refine g_iload_n (i := 1) hX dX10_worth_57 rfl rfl ?_
    refine g_iconst hX dX10_worth_58 ic1 ?_
    refine g_bastoreN hX (show 77 < NC by decide) (show lay 77 = (1, 4, []) by decide) (Or.inr rfl) rfl (hp) (by decide) dX10_worth_59 ?_
    refine g_aload_n (i := 0) hX dX10_worth_60 rfl rfl ?_
    refine g_iconst hX dX10_worth_61 ic4 ?_
    refine g_aload_n (i := 0) hX dX10_worth_62 rfl rfl ?_
    refine fX10_252 hX dX10_worth_63 ?_
    refine g_aload_n (i := 0) hX dX10_worth_66 rfl rfl ?_
    refine fX10_19 hX dX10_worth_67 ?_
    refine g_iconst hX dX10_worth_70 ic1 ?_
    refine g_ialoadN (i := 1) hX (ia71) rfl (by decide) (by first | decide | assumption | omega) dX10_worth_71 ?_
    refine eX10_244 hX ⟨Nat.le_of_ble_eq_true rfl, Nat.le_of_ble_eq_true rfl⟩ (Nat.le_of_ble_eq_true rfl) dX10_worth_72 ((by rw [hzU, hnU]; exact hmk)) (fun U3 hU3 => ?_)
    obtain ⟨r4, -, ho3, F3⟩ := hU3
    refine g_aload_n (i := 0) hX dX10_worth_75 rfl rfl ?_
    refine fX10_37 hX dX10_worth_76 ?_
    refine g_iload_n (i := 1) hX dX10_worth_79 rfl rfl ?_
    refine g_iload hX dX10_worth_80 rfl ?_
    refine g_bastoreN hX (show 77 < NC by decide) (show lay 77 = (1, 4, []) by decide) (ho77) rfl (hp) (by decide) dX10_worth_82 ?_
    have FB : Fq [77] [] U3 (pI U3 77 p (U1.1 77 p)) := Fq.rf.R (by decide)
    have r4' := r4.q FB (by decide)
    have u77 : (pI U3 77 p (U1.1 77 p)).1 77 = U1.1 77 := by
      rw [pR_self]
      funext q
      by_cases e : q = p
      · subst e; rw [upd_self]
      · rw [upd_ne _ _ e, F3.r (k := 77) (by decide), pR_self, upd_ne _ _ e]
    have ho4 : ∀ r' n' tk' nm' gr', r' ≠ 4 → n' ≤ 40 → RwR U1 r' n' tk' nm' gr' → RwR (pI U3 77 p (U1.1 77 p)) r' n' tk' nm' gr' := fun r' n' tk' nm' gr' a1 a2 a3 => (ho3 r' n' tk' nm' gr' a1 a2 (a3.q FA (by decide))).q FB (by decide)
    have F4' : Fq [71, 72, 73, 74, 77, 79] [(67, 22), (67, 23), (67, 25)] U1 (pI U3 77 p (U1.1 77 p)) := ((FA.mono (by decide) (fun _ z => by cases z)).tr (F3.mono (by decide) (fun _ z => Or.inl z))).tr (FB.mono (by decide) (fun _ z => by cases z))
    have l77 : (pI U3 77 p (U1.1 77 p)).2 77 = U1.2 77 := by
      funext q
      exact (F3 77 q (by decide) (by simp)).2
    generalize pI U3 77 p (U1.1 77 p) = U4 at *
    have F4 : Fq [71, 72, 73, 74, 79] [(67, 22), (67, 23), (67, 25)] U1 U4 := by
      intro q j hq hj
      by_cases e : q = 77
      · subst e; exact ⟨by rw [u77], by rw [l77]⟩
      · exact F4' q j (by simp only [List.mem_cons, List.not_mem_nil, or_false] at hq ⊢; omega) hj
    have hRU4 : Rel U4 := hRU1.laid3 ho4 F4
    have g28 : U4.1 67 28 = nI c := by rw [(F4.s (k := 67) (j := 28) (by decide)).1, (F1.s (k := 67) (j := 28) (by decide)).1]; exact e28
    have g29 : U4.1 67 29 = S.1 60 1 := by rw [(F4.s (k := 67) (j := 29) (by decide)).1, (F1.s (k := 67) (j := 29) (by decide)).1]; exact e29
    have g30 : U4.1 67 30 = S.1 60 2 := by rw [(F4.s (k := 67) (j := 30) (by decide)).1, (F1.s (k := 67) (j := 30) (by decide)).1]; exact e30
    have hls2 := c_likeSet (Γ := Γ) (S := U4) (r := 4) (c := c) (k := k) (vX := vY) (vT := vT) (vE := vE) (vO := vO) (by decide) (by decide) (by decide) h40 a2.1 (ho4 _ _ _ _ _ (by decide) h40 q0) r4' hnm hnmO hk g28 hc6 (fun w _ => by rw [g29, g30, hvY]) (fun w _ => by rw [g29, g30, hvT]) (fun w _ => by rw [g29, g30, hvE]) (fun w _ => by rw [g29, g30, hvO])
    refine g_iload_n (i := 3) hX dX10_worth_83 rfl rfl ?_
    refine g_aload_n (i := 0) hX dX10_worth_84 rfl rfl ?_
    refine g_iconst hX dX10_worth_85 ic4 ?_
    refine g_iload_n (i := 2) hX dX10_worth_86 rfl rfl ?_
    refine eX10_275 hX ⟨Nat.le_of_ble_eq_true rfl, Nat.le_of_ble_eq_true rfl⟩ (Nat.le_of_ble_eq_true rfl) dX10_worth_87 (hls2) (fun v2 U5 hU5 => ?_)
    refine g_iconst hX dX10_worth_90 icm1 ?_
    refine g_ixor hX dX10_worth_91 ?_
    refine g_iand hX dX10_worth_92 ?_
    refine g_iret (st := []) hX hE rfl dX10_worth_93 (⟨_, rfl, ?_, hRU4.laid2 hU5.2.1 hU5.2.2⟩)
    rw [hU5.1, ev1, (bN_not (unB vX vT vE vO)).1, (bN_not (unB vY vT vE vO)).1]
    exact and_not6 _ (bN_not _).2 _ (bN_not _).2
