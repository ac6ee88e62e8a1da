theorem conv_v {Γ : GG} {y : MethodName} {cc : ByteArray} {maxL : Nat} {ret : Option FieldType} {fr lo : Nat} {av : List Value} {S S1 : St} {Q : St → Prop} (h : Cn Γ y cc maxL ret fr lo av S (rV S1)) (hQ : Q S1) : Cn Γ y cc maxL ret fr lo av S (eV Q) := by
  intro l
  refine met_mono (h l) ?_
  rintro a st o t ⟨v, S', e1, ⟨e2, e3⟩, e4⟩
  exact ⟨v, S', e1, ⟨e2, by rw [e3]; exact hQ⟩, e4⟩
theorem c_weightsIfNot {Γ : GG} {S : St} {p k : Nat} {x : Int32} (hp : p < 4) (hx : ¬ nI p = x ∨ nI p = x) (ho : S.1 55 p = 0 ∨ S.1 55 p = 1) (hk : k = if S.1 55 p = 0 ∧ ¬ nI p = x then 36 + p else 56) : kX5_weightsIfNot Γ [.ref (Γ.1 53), .int (nI p), .int x] S (rA (Γ.1 k) S) := by
  refine oX5_weightsIfNot (fun X hX hE => ?_)
  have hia := iaW p hp
  by_cases h0 : S.1 55 p = 0
  · by_cases h1 : nI p = x
    · rw [if_neg (fun q => q.2 h1)] at hk
      subst hk
      refine g_aload_n (i := 0) hX dX5_weightsIfNot_0 rfl rfl ?_
      refine fX5_16 hX dX5_weightsIfNot_1 ?_
      refine g_iload_n (i := 1) hX dX5_weightsIfNot_4 rfl rfl ?_
      refine g_baloadN hX (show 55 < NC by decide) (show lay 55 = (1, 4, []) by decide) rfl (hp) (by decide) dX5_weightsIfNot_5 ?_
      refine g_if_ne (tgt := 14) hX dX5_weightsIfNot_6 (by decide) (fun h9 => absurd (h0) h9) (fun _ => ?_)
      refine g_iload_n (i := 1) hX dX5_weightsIfNot_9 rfl rfl ?_
      refine g_iload_n (i := 2) hX dX5_weightsIfNot_10 rfl rfl ?_
      refine g_icmp_ne (tgt := 21) hX dX5_weightsIfNot_11 (by decide) (fun h9 => absurd (h1) h9) (fun _ => ?_)
      refine g_aload_n (i := 0) hX dX5_weightsIfNot_14 rfl rfl ?_
      refine fX5_20 hX dX5_weightsIfNot_15 ?_
      refine g_goto (tgt := 27) hX dX5_weightsIfNot_18 (by decide) ?_
      refine g_aret (st := []) hX hE rfl (by first | exact Or.inl ⟨_, rfl⟩ | exact Or.inr ⟨_, rfl⟩) dX5_weightsIfNot_27 (⟨rfl, rfl⟩)
    · rw [if_pos ⟨h0, h1⟩] at hk
      subst hk
      refine g_aload_n (i := 0) hX dX5_weightsIfNot_0 rfl rfl ?_
      refine fX5_16 hX dX5_weightsIfNot_1 ?_
      refine g_iload_n (i := 1) hX dX5_weightsIfNot_4 rfl rfl ?_
      refine g_baloadN hX (show 55 < NC by decide) (show lay 55 = (1, 4, []) by decide) rfl (hp) (by decide) dX5_weightsIfNot_5 ?_
      refine g_if_ne (tgt := 14) hX dX5_weightsIfNot_6 (by decide) (fun h9 => absurd (h0) h9) (fun _ => ?_)
      refine g_iload_n (i := 1) hX dX5_weightsIfNot_9 rfl rfl ?_
      refine g_iload_n (i := 2) hX dX5_weightsIfNot_10 rfl rfl ?_
      refine g_icmp_ne (tgt := 21) hX dX5_weightsIfNot_11 (by decide) (fun _ => ?_) (fun h9 => absurd h9 (h1))
      refine g_aload_n (i := 0) hX dX5_weightsIfNot_21 rfl rfl ?_
      refine fX5_11 hX dX5_weightsIfNot_22 ?_
      refine g_iload_n (i := 1) hX dX5_weightsIfNot_25 rfl rfl ?_
      refine g_aaloadN hX (show 54 < NC by decide) (Or.inr rfl) (show lay 54 = (3, 4, [36, 37, 38, 39]) by decide) rfl (hp) (by decide) (waa p hp) dX5_weightsIfNot_26 ?_
      refine g_aret (st := []) hX hE rfl (by first | exact Or.inl ⟨_, rfl⟩ | exact Or.inr ⟨_, rfl⟩) dX5_weightsIfNot_27 (⟨rfl, rfl⟩)
  · rw [if_neg (fun q => h0 q.1)] at hk
    subst hk
    refine g_aload_n (i := 0) hX dX5_weightsIfNot_0 rfl rfl ?_
    refine fX5_16 hX dX5_weightsIfNot_1 ?_
    refine g_iload_n (i := 1) hX dX5_weightsIfNot_4 rfl rfl ?_
    refine g_baloadN hX (show 55 < NC by decide) (show lay 55 = (1, 4, []) by decide) rfl (hp) (by decide) dX5_weightsIfNot_5 ?_
    refine g_if_ne (tgt := 14) hX dX5_weightsIfNot_6 (by decide) (fun _ => ?_) (fun h9 => absurd h9 (h0))
    refine g_aload_n (i := 0) hX dX5_weightsIfNot_14 rfl rfl ?_
    refine fX5_20 hX dX5_weightsIfNot_15 ?_
    refine g_goto (tgt := 27) hX dX5_weightsIfNot_18 (by decide) ?_
    refine g_aret (st := []) hX hE rfl (by first | exact Or.inl ⟨_, rfl⟩ | exact Or.inr ⟨_, rfl⟩) dX5_weightsIfNot_27 (⟨rfl, rfl⟩)
theorem step_cost {Γ : GG} (x1 : Int32) : Step (fun S P => kX9_cost Γ [.ref (Γ.1 48), .int x1] S P) (fun S P => kX10_cost Γ [.ref (Γ.1 67), .int x1] S P) := by
  intro S hR
  by_cases h1 : inB x1 4
  case neg =>
    refine ⟨-1000001, fun S1 => S1 = S, ?_, ?_⟩
    · refine oX9_cost (fun X hX hE => ?_)
      refine g_iload_n (i := 1) hX dX9_cost_0 rfl rfl ?_
      refine g_iconst hX dX9_cost_1 ic4 ?_
      refine sX9_96 hX ⟨Nat.le_of_ble_eq_true rfl, Nat.le_of_ble_eq_true rfl⟩ (Nat.le_of_ble_eq_true rfl) dX9_cost_2 (isB_f (n := 4) (by decide) h1) ?_
      refine g_if_ne (tgt := 11) hX dX9_cost_5 (by decide) (fun h9 => absurd (rfl) h9) (fun _ => ?_)
      refine g_ldc hX ccX9_100 dX9_cost_8 ?_
      refine g_iret (st := []) hX hE rfl dX9_cost_10 (⟨_, rfl, rfl, rfl⟩)
    · rintro S1 rfl
      refine oX10_cost (fun X hX hE => ?_)
      refine g_aload_n (i := 0) hX dX10_cost_0 rfl rfl ?_
      refine g_iconst hX dX10_cost_1 ic0 ?_
      refine pX10_78 hX dX10_cost_2 ?_
      refine g_iload_n (i := 1) hX dX10_cost_5 rfl rfl ?_
      refine sX10_202 hX ⟨Nat.le_of_ble_eq_true rfl, Nat.le_of_ble_eq_true rfl⟩ (Nat.le_of_ble_eq_true rfl) dX10_cost_6 (c_isPart_f h1) ?_
      refine g_if_eq (tgt := 30) hX dX10_cost_9 (by decide) (fun _ => ?_) (fun h9 => absurd (rfl) h9)
      refine g_ldc hX ccX10_97 dX10_cost_30 ?_
      refine g_iret (st := []) hX hE rfl dX10_cost_32 (⟨_, rfl, rfl, hR.thrown⟩)
  obtain ⟨p, hp, rfl⟩ := h1
  obtain ⟨w, w1, w2, w3, w4⟩ := hR.2.2.2.1
  obtain ⟨o1, o2⟩ := hR.2.2.2.2.1
  obtain ⟨n, tk, nm, gr, a, b, tok⟩ := hR.2.1
  have hnm : ∀ i, i < n → nm i < 10 := fun i hi => (a.2.2 i hi).2.2.1
  obtain ⟨hoe, ho⟩ := o1 p hp
  -- whether the part is left out
  obtain ⟨lf, hlf, elf⟩ : ∃ lf, lf < 2 ∧ S.1 77 p = nI lf := by
    rcases ho with h | h
    · exact ⟨0, by decide, h⟩
    · exact ⟨1, by decide, h⟩
  let g : Nat → Nat := fun i => if lf = 1 then 0 else w p i
  have hsl : ∃ s : Nat → Nat, p < 3 → ∀ k, k < n → slotP tk nm gr p k = nI (s k) ∧ s k < 11 ∧ (p = 2 → 1 ≤ s k ∧ s k ≤ 9) := by
    by_cases hp3 : p < 3
    · obtain ⟨s, hs⟩ := slots_ok tok hnm hp3
      exact ⟨s, fun _ => hs⟩
    · exact ⟨fun _ => 0, fun q => absurd q hp3⟩
  obtain ⟨s, hs⟩ := hsl
  -- the counts
  let c : Nat → Nat := fun d => if p < 3 then cntE (slotP tk nm gr p) n d else 0
  have hc40 : ∀ i, c i ≤ 40 := fun i => by
    show (if p < 3 then _ else 0) ≤ 40
    split
    · exact Nat.le_trans (cntE_le _ _ _) a.1
    · omega
  have hbad : cbBad c g ↔ crBad g s (if p < 3 then n else 0) := by
    by_cases hp3 : p < 3
    · rw [if_pos hp3]
      have e : c = cntE (slotP tk nm gr p) n := funext fun d => if_pos hp3
      rw [e]
      exact bad_slots (fun k hk => ⟨(hs hp3 k hk).1, (hs hp3 k hk).2.1⟩)
    · rw [if_neg hp3]
      constructor
      · rintro ⟨i, -, q, -⟩
        exact absurd (if_neg hp3) q
      · rintro ⟨k, q, -⟩
        omega
  have hval : costN c g 11 = crN g s (if p < 3 then n else 0) := by
    unfold costN crN
    by_cases hp3 : p < 3
    · rw [if_pos hp3]
      have e : c = cntE (slotP tk nm gr p) n := funext fun d => if_pos hp3
      rw [e, sum_slots (b := fun d => bitF 30 (g d) (sumW g 11)) n (fun k hk => ⟨(hs hp3 k hk).1, (hs hp3 k hk).2.1⟩)]
    · rw [if_neg hp3]
      have e : sumW (fun d => c d * bitF 30 (g d) (sumW g 11)) 11 = sumW (fun _ => 0) 11 := sumW_congr 11 (fun j _ => by show (if p < 3 then _ else 0) * _ = 0; rw [if_neg hp3, Nat.zero_mul])
      rw [e]; rfl
  obtain ⟨r, hr1, hr2⟩ : ∃ r : Int32, ((cbBad c g ∧ r = -1000000) ∨ (¬ cbBad c g ∧ r = nI (costN c g 11))) ∧ ((crBad g s (if p < 3 then n else 0) ∧ r = -1000000) ∨ (¬ crBad g s (if p < 3 then n else 0) ∧ r = nI (crN g s (if p < 3 then n else 0)))) := by
    by_cases q : cbBad c g
    · exact ⟨-1000000, Or.inl ⟨q, rfl⟩, Or.inl ⟨hbad.mp q, rfl⟩⟩
    · exact ⟨nI (costN c g 11), Or.inr ⟨q, rfl⟩, Or.inr ⟨fun z => q (hbad.mpr z), by rw [hval]⟩⟩
  refine ⟨r, fun S1 => Fq [65] [] S S1, ?_, ?_⟩
  · refine oX9_cost (fun X hX hE => ?_)
    have hcs : kX6_countSlots Γ [.ref (Γ.1 16), .int (nI p), .ref (Γ.1 65)] S (eV (fun S1 => Fq [65] [] S S1 ∧ ∀ i, i < 11 → S1.1 65 i = nI (c i))) := by
      by_cases hp3 : p < 3
      · refine conv_v (c_countSlots (Γ := Γ) ir16 a hp3 ia65 (by decide)) ⟨Fq.rf.R (by decide), fun i hi => ?_⟩
        rw [pR_self]
        show (if i < 11 then _ else _) = nI (if p < 3 then _ else 0)
        rw [if_pos hi, if_pos hp3]
      · obtain rfl : p = 3 := by omega
        refine conv_v (c_countSlots3 (Γ := Γ) (S := S) ir16 ia65) ⟨Fq.rf.R (by decide), fun i hi => ?_⟩
        rw [pR_self, if_pos hi]
        rfl
    obtain ⟨kk, hkk⟩ : ∃ kk, kk = if S.1 55 p = 0 ∧ ¬ nI p = (-1000000 : Int32) then 36 + p else 56 := ⟨_, rfl⟩
    have hpne : ¬ nI p = (-1000000 : Int32) := by rw [i_eq, nI_toInt (by omega), show (-1000000 : Int32).toInt = -1000000 by decide]; omega
    have hka : IsArr kk 11 ∧ ∀ T : St, Fq [65] [] S T → ∀ i, i < 11 → T.1 kk i = nI (g i) ∧ g i ≤ 99 := by
      by_cases h0 : S.1 55 p = 0
      · rw [if_pos ⟨h0, hpne⟩] at hkk
        have hl0 : lf = 0 := by rw [hoe, elf] at h0; exact nI_inj (b := 0) (by omega) (by decide) h0
        subst hkk
        refine ⟨iaW p hp, fun T hF i hi => ?_⟩
        rw [hF.row (by simp only [List.mem_cons, List.not_mem_nil, or_false]; omega) (fun _ z => by cases z)]
        show _ ∧ (if lf = 1 then 0 else w p i) ≤ 99
        have : g i = w p i := if_neg (by omega)
        rw [this, if_neg (by omega)]
        exact w1 p hp i hi
      · rw [if_neg (fun q => h0 q.1)] at hkk
        have hl1 : lf = 1 := by
          rcases (by omega : lf = 0 ∨ lf = 1) with q | q
          · exact absurd (by rw [hoe, elf, q]; rfl) h0
          · exact q
        subst hkk
        refine ⟨ia56, fun T hF i hi => ?_⟩
        have : g i = 0 := if_pos hl1
        rw [hF.r (k := 56) (by decide), o2 i hi, this]
        exact ⟨rfl, by omega⟩
    refine g_iload_n (i := 1) hX dX9_cost_0 rfl rfl ?_
    refine g_iconst hX dX9_cost_1 ic4 ?_
    refine sX9_96 hX ⟨Nat.le_of_ble_eq_true rfl, Nat.le_of_ble_eq_true rfl⟩ (Nat.le_of_ble_eq_true rfl) dX9_cost_2 (isB_t (n := 4) hp (by decide)) ?_
    refine g_if_ne (tgt := 11) hX dX9_cost_5 (by decide) (fun _ => ?_) (fun h9 => absurd h9 ((by decide)))
    refine g_aload_n (i := 0) hX dX9_cost_11 rfl rfl ?_
    refine fX9_18 hX dX9_cost_12 ?_
    refine g_iload_n (i := 1) hX dX9_cost_15 rfl rfl ?_
    refine g_aload_n (i := 0) hX dX9_cost_16 rfl rfl ?_
    refine fX9_70 hX dX9_cost_17 ?_
    refine eX9_169 hX ir16 ⟨Nat.le_of_ble_eq_true rfl, Nat.le_of_ble_eq_true rfl⟩ (Nat.le_of_ble_eq_true rfl) dX9_cost_20 (hcs) (fun T hT => ?_)
    refine g_aload_n (i := 0) hX dX9_cost_23 rfl rfl ?_
    refine fX9_38 hX dX9_cost_24 ?_
    refine g_iload_n (i := 1) hX dX9_cost_27 rfl rfl ?_
    refine g_ldc hX ccX9_153 dX9_cost_28 ?_
    refine sX9_242 hX ⟨Nat.le_of_ble_eq_true rfl, Nat.le_of_ble_eq_true rfl⟩ (Nat.le_of_ble_eq_true rfl) dX9_cost_30 ((c_weightsIfNot (k := kk) hp (Or.inl hpne) (by rw [hT.1.r (k := 55) (by decide), hoe]; exact ho) (by rw [hT.1.r (k := 55) (by decide)]; exact hkk))) ?_
    refine g_aload_n (i := 0) hX dX9_cost_33 rfl rfl ?_
    refine fX9_70 hX dX9_cost_34 ?_
    refine sX9_246 hX ⟨Nat.le_of_ble_eq_true rfl, Nat.le_of_ble_eq_true rfl⟩ (Nat.le_of_ble_eq_true rfl) dX9_cost_37 (c_costBy hka.1 ia65 (hka.2 T hT.1) hT.2 hc40 hr1) ?_
    refine g_iret (st := []) hX hE rfl dX9_cost_40 (⟨_, rfl, rfl, hT.1⟩)
  · intro S1 hF1
    have hR1 : Rel S1 := hR.q hF1 (by decide)
    refine oX10_cost (fun X hX hE => ?_)
    have e77 : (S0 S1).1 77 p = nI lf := by show S1.1 77 p = _; rw [hF1.r (k := 77) (by decide)]; exact elf
    have e75 : (S0 S1).1 75 = S.1 75 := by show S1.1 75 = _; exact hF1.r (by decide)
    have rr : RwR (S0 S1) 0 n tk nm gr := (b.q hF1 (by decide)).q (K := []) (O := [(67, 0)]) (Fq.rf.I (by decide)) (by decide)
    have hco := c_costOf (Γ := Γ) (S := S0 S1) (K := 75) (p := p) (n := n) (lf := lf) (w := w p) (g := g) (s := s) (r := r) hp ia75 hlf a.1 rr hnm tok (fun i h1 h2 => by rw [e75]; exact ⟨w2 p hp i h1 h2, (w1 p hp i (by have := wHi_le p hp; omega)).2⟩) (fun i _ => rfl) (w3 p hp) rfl hs hr2
    refine g_aload_n (i := 0) hX dX10_cost_0 rfl rfl ?_
    refine g_iconst hX dX10_cost_1 ic0 ?_
    refine pX10_78 hX dX10_cost_2 ?_
    refine g_iload_n (i := 1) hX dX10_cost_5 rfl rfl ?_
    refine sX10_202 hX ⟨Nat.le_of_ble_eq_true rfl, Nat.le_of_ble_eq_true rfl⟩ (Nat.le_of_ble_eq_true rfl) dX10_cost_6 (c_isPart_t hp) ?_
    refine g_if_eq (tgt := 30) hX dX10_cost_9 (by decide) (fun h9 => absurd h9 ((by decide))) (fun _ => ?_)
    refine g_aload_n (i := 0) hX dX10_cost_12 rfl rfl ?_
    refine g_iload_n (i := 1) hX dX10_cost_13 rfl rfl ?_
    refine g_aload_n (i := 0) hX dX10_cost_14 rfl rfl ?_
    refine fX10_31 hX dX10_cost_15 ?_
    refine g_aload_n (i := 0) hX dX10_cost_18 rfl rfl ?_
    refine fX10_37 hX dX10_cost_19 ?_
    refine g_iload_n (i := 1) hX dX10_cost_22 rfl rfl ?_
    refine g_baloadN hX (show 77 < NC by decide) (show lay 77 = (1, 4, []) by decide) rfl (hp) (by decide) dX10_cost_23 ?_
    refine sX10_282 hX ⟨Nat.le_of_ble_eq_true rfl, Nat.le_of_ble_eq_true rfl⟩ (Nat.le_of_ble_eq_true rfl) dX10_cost_24 ((by rw [e77]; exact hco)) ?_
    refine g_goto (tgt := 32) hX dX10_cost_27 (by decide) ?_
    refine g_iret (st := []) hX hE rfl dX10_cost_32 (⟨_, rfl, rfl, hR1.thrown⟩)
