theorem scan_val {nm : Nat → Nat} {x : Nat} : ∀ k m, m < 1024 → (∀ j, j < k → nm j < 10) → scan nm x k m = -1000000 ∨ ∃ d, d ≤ 10 ∧ scan nm x k m = nI d := by
  intro k
  induction k with
  | zero => intro m _ _; exact Or.inl rfl
  | succ k ih =>
    intro m hm h
    rw [scan]
    by_cases e : nm k = x
    · rw [if_pos e]; exact Or.inr ⟨_, popN_lt m hm, rfl⟩
    · rw [if_neg e]; exact ih _ (or_name m hm _ (h k (by omega))).2 (fun j hj => h j (by omega))
theorem gap_ok {n : Nat} {tk gr : Nat → Int32} (h : TrOk n tk gr) {i : Nat} (hi : i < n) : 0 ≤ (gapN tk i).toInt ∧ (gapN tk i).toInt ≤ 9999 := by
  unfold gapN
  by_cases e : i = 0
  · rw [if_pos e]; have := h.1 0 (by omega); omega
  · rw [if_neg e]
    have h1 := h.1 i hi
    have h2 := h.1 (i - 1) (by omega)
    have h3 := h.2 (i - 1) (by omega)
    rw [show i - 1 + 1 = i by omega] at h3
    rw [i_sub (by omega) (by omega)]; omega
/-- every ask has a slot -/
theorem slots_ok {n : Nat} {tk : Nat → Int32} {nm : Nat → Nat} {gr : Nat → Int32} (h : TrOk n tk gr) (hnm : ∀ i, i < n → nm i < 10) {p : Nat} (hp : p < 3) : ∃ s : Nat → Nat, ∀ k, k < n → slotP tk nm gr p k = nI (s k) ∧ s k < 11 ∧ (p = 2 → 1 ≤ s k ∧ s k ≤ 9) := by
  have key : ∀ k, ∃ s : Nat, k < n → slotP tk nm gr p k = nI s ∧ s < 11 ∧ (p = 2 → 1 ≤ s ∧ s ≤ 9) := by
    intro k
    by_cases hk : k < n
    · rcases (by omega : p = 0 ∨ p = 1 ∨ p = 2) with rfl | rfl | rfl
      · obtain ⟨g1, g2⟩ := gap_ok h hk
        by_cases q : (10 : Int32) < gapN tk k
        · exact ⟨10, fun _ => ⟨by show (if (10 : Int32) < gapN tk k then 10 else gapN tk k) = _; rw [if_pos q]; rfl, by omega, fun z => by omega⟩⟩
        · rw [i_lt, show (10 : Int32).toInt = 10 by decide] at q
          refine ⟨(gapN tk k).toInt.toNat, fun _ => ⟨?_, by omega, fun z => by omega⟩⟩
          show (if (10 : Int32) < gapN tk k then 10 else gapN tk k) = _
          rw [if_neg (by rw [i_lt, show (10 : Int32).toInt = 10 by decide]; exact q)]
          exact nI_nat g1
      · rcases scan_val (nm := nm) (x := nm k) k 0 (by decide) (fun j hj => hnm j (by omega)) with q | ⟨d, d1, d2⟩
        · refine ⟨10, fun _ => ⟨?_, by omega, fun z => by omega⟩⟩
          show slotI (scan nm (nm k) k 0) = _
          rw [q]; rfl
        · refine ⟨d, fun _ => ⟨?_, by omega, fun z => by omega⟩⟩
          show slotI (scan nm (nm k) k 0) = _
          rw [d2, slotI, if_neg (by rw [i_eq, nI_toInt (by omega), show (-1000000 : Int32).toInt = -1000000 by decide]; omega)]
      · have h1 := h.1 k hk
        exact ⟨(gr k).toInt.toNat, fun _ => ⟨(show gr k = nI (gr k).toInt.toNat from nI_nat (by omega)), by omega, fun _ => by omega⟩⟩
    · exact ⟨0, fun z => absurd z hk⟩
  exact ⟨fun k => (key k).choose, fun k hk => (key k).choose_spec hk⟩
theorem fl : ∀ p, p < 4 → fOf p = wOff p + wLo p ∧ lOf p + 1 = wOff p + wHi p ∧ wOff p + wHi p ≤ 49 ∧ wLo p ≤ wHi p := by decide
/-- the sums over a part's own slots are those over all eleven -/
theorem own_slots {g : Nat → Nat} {p : Nat} (hp : p < 4) (hz : ∀ i, i < 11 → ¬ (wLo p ≤ i ∧ i < wHi p) → g i = 0) : sumW g (wHi p) = sumW g 11 ∧ nzW g (wHi p) = nzW g 11 ∧ sumW g (wLo p) = 0 ∧ nzW g (wLo p) = 0 := by
  rcases (by omega : p = 0 ∨ p = 1 ∨ p = 2 ∨ p = 3) with rfl | rfl | rfl | rfl
  · have h := hz 10 (by decide) (by decide)
    exact ⟨by show _ = sumW g 10 + g 10; rw [h]; rfl, by show _ = nzW g 10 + (if g 10 = 0 then 0 else 1); rw [if_pos h]; rfl, rfl, rfl⟩
  · exact ⟨rfl, rfl, rfl, rfl⟩
  · have h := hz 10 (by decide) (by decide)
    have h0 := hz 0 (by decide) (by decide)
    exact ⟨by show _ = sumW g 10 + g 10; rw [h]; rfl, by show _ = nzW g 10 + (if g 10 = 0 then 0 else 1); rw [if_pos h]; rfl, by show 0 + g 0 = 0; omega, by show 0 + (if g 0 = 0 then 0 else 1) = 0; rw [if_pos h0]⟩
  · have h := hz 10 (by decide) (by decide)
    have h9 := hz 9 (by decide) (by decide)
    exact ⟨by show _ = sumW g 9 + g 9 + g 10; rw [h, h9]; rfl, by show _ = nzW g 9 + (if g 9 = 0 then 0 else 1) + (if g 10 = 0 then 0 else 1); rw [if_pos h, if_pos h9]; rfl, rfl, rfl⟩
/-- the reference's cost, ask by ask -/
def crBad (g s : Nat → Nat) (n : Nat) : Prop := ∃ k, k < n ∧ g (s k) = 0
def crN (g s : Nat → Nat) (m : Nat) : Nat := 8 * nzW g 11 + sumW (fun k => bitF 30 (g (s k)) (sumW g 11)) m
theorem c_costOf {Γ : GG} {S : St} {K p n n' lf : Nat} {tk : Nat → Int32} {nm : Nat → Nat} {gr : Nat → Int32} {w g s : Nat → Nat} {r : Int32} (hp : p < 4) (hK : IsArr K 49) (hlf : lf < 2) (hn : n ≤ 40) (rr : RwR S 0 n tk nm gr) (hnm : ∀ i, i < n → nm i < 10) (tok : TrOk n tk gr)
    (hw : ∀ i, wLo p ≤ i → i < wHi p → S.1 K (wOff p + i) = nI (w i) ∧ w i ≤ 99) (hg : ∀ i, i < 11 → g i = if lf = 1 then 0 else w i) (hz : ∀ i, i < 11 → ¬ (wLo p ≤ i ∧ i < wHi p) → w i = 0) (hn' : n' = if p < 3 then n else 0)
    (hs : p < 3 → ∀ k, k < n → slotP tk nm gr p k = nI (s k) ∧ s k < 11 ∧ (p = 2 → 1 ≤ s k ∧ s k ≤ 9)) (hr : (crBad g s n' ∧ r = -1000000) ∨ (¬ crBad g s n' ∧ r = nI (crN g s n'))) : kX10_costOf Γ [.ref (Γ.1 67), .int (nI p), .ref (Γ.1 K), .int (nI lf)] S (rI r S) := by
  refine oX10_costOf (fun X hX hE => ?_)
  obtain ⟨f1, f2, f3, f4⟩ := fl p hp
  have w11 := wHi_le p hp
  have hzg : ∀ i, i < 11 → ¬ (wLo p ≤ i ∧ i < wHi p) → g i = 0 := fun i hi q => by rw [hg i hi]; split; rfl; exact hz i hi q
  have hw99 : ∀ i, i < 11 → w i ≤ 99 := fun i hi => by
    by_cases q : wLo p ≤ i ∧ i < wHi p
    · exact (hw i q.1 q.2).2
    · rw [hz i hi q]; omega
  have hg99 : ∀ i, i < 11 → g i ≤ 99 := fun i hi => by rw [hg i hi]; split; omega; exact hw99 i hi
  obtain ⟨o1, o2, o3, o4⟩ := own_slots hp hzg
  have hsb := sumW_le 11 hg99
  have hlo : 8 ≤ 45 := by decide
  -- the second loop
  have second : ∀ d k, k + d = n' → (∀ j, j < k → ¬ g (s j) = 0) → G Γ X S 69 [(0, .ref (Γ.1 67)), (1, .int (nI p)), (2, .ref (Γ.1 K)), (3, .int (nI lf)), (4, .int (nI (crN g s k))), (5, .int (nI (sumW g 11))), (6, .int (nI k))] [] := by
    intro d
    induction d with
    | zero =>
      intro k hk hno
      obtain rfl : k = n' := by omega
      rcases hr with ⟨⟨j, j1, j2⟩, -⟩ | ⟨-, rfl⟩
      · exact absurd j2 (hno j j1)
      · by_cases hp3 : p < 3
        · rw [if_pos hp3] at hn'
          refine g_iload hX dX10_costOf_69 rfl ?_
          refine g_aload_n (i := 0) hX dX10_costOf_71 rfl rfl ?_
          refine fX10_19 hX dX10_costOf_72 ?_
          refine g_iconst hX dX10_costOf_75 ic0 ?_
          refine g_ialoadN (i := 0) hX (ia71) rfl (by decide) (by first | decide | assumption | omega) dX10_costOf_76 ?_
          refine g_icmp_ge (tgt := 207) hX dX10_costOf_77 (by decide) (fun _ => ?_) (fun h9 => absurd ((by rw [rr.1]; exact nI_le (by omega) (by omega))) h9)
          refine g_iload hX dX10_costOf_207 rfl ?_
          refine g_iret (st := []) hX hE rfl dX10_costOf_209 (⟨rfl, rfl⟩)
        · obtain rfl : p = 3 := by omega
          rw [if_neg (by decide)] at hn'
          by_cases hkn : k < n
          · refine g_iload hX dX10_costOf_69 rfl ?_
            refine g_aload_n (i := 0) hX dX10_costOf_71 rfl rfl ?_
            refine fX10_19 hX dX10_costOf_72 ?_
            refine g_iconst hX dX10_costOf_75 ic0 ?_
            refine g_ialoadN (i := 0) hX (ia71) rfl (by decide) (by first | decide | assumption | omega) dX10_costOf_76 ?_
            refine g_icmp_ge (tgt := 207) hX dX10_costOf_77 (by decide) (fun h9 => absurd h9 ((by rw [rr.1]; exact nI_ge hkn (by omega)))) (fun _ => ?_)
            refine g_iload_n (i := 1) hX dX10_costOf_80 rfl rfl ?_
            refine g_iconst hX dX10_costOf_81 ic3 ?_
            refine g_icmp_ge (tgt := 207) hX dX10_costOf_82 (by decide) (fun _ => ?_) (fun h9 => absurd (Int32.le_refl _) h9)
            refine g_iload hX dX10_costOf_207 rfl ?_
            refine g_iret (st := []) hX hE rfl dX10_costOf_209 (⟨rfl, rfl⟩)
          · refine g_iload hX dX10_costOf_69 rfl ?_
            refine g_aload_n (i := 0) hX dX10_costOf_71 rfl rfl ?_
            refine fX10_19 hX dX10_costOf_72 ?_
            refine g_iconst hX dX10_costOf_75 ic0 ?_
            refine g_ialoadN (i := 0) hX (ia71) rfl (by decide) (by first | decide | assumption | omega) dX10_costOf_76 ?_
            refine g_icmp_ge (tgt := 207) hX dX10_costOf_77 (by decide) (fun _ => ?_) (fun h9 => absurd ((by rw [rr.1]; exact nI_le (by omega) (by omega))) h9)
            refine g_iload hX dX10_costOf_207 rfl ?_
            refine g_iret (st := []) hX hE rfl dX10_costOf_209 (⟨rfl, rfl⟩)
    | succ d ih =>
      intro k hk hno
      have hp3 : p < 3 := by
        rcases Nat.lt_or_ge p 3 with z | z
        · exact z
        · rw [if_neg (by omega)] at hn'; omega
      rw [if_pos hp3] at hn'
      obtain ⟨s1, s2, s3⟩ := hs hp3 k (by omega)
      have hgk := hg (s k) s2
      -- what follows the weight
      have fin : ∀ v dv gv : Int32, (lf = 0 → v = nI (w (s k))) → G Γ X S 175 [(0, .ref (Γ.1 67)), (1, .int (nI p)), (2, .ref (Γ.1 K)), (3, .int (nI lf)), (4, .int (nI (crN g s k))), (5, .int (nI (sumW g 11))), (6, .int (nI k)), (7, .int dv), (8, .int gv)] [.int v] := by
        intro v dv gv hv
        rcases (by omega : lf = 1 ∨ lf = 0) with rfl | rfl
        · rw [if_pos rfl] at hgk
          rcases hr with ⟨-, rfl⟩ | ⟨q, -⟩
          · refine g_istore hX dX10_costOf_175 (by decide) rfl ?_
            refine g_iload_n (i := 3) hX dX10_costOf_177 rfl rfl ?_
            refine g_if_ne (tgt := 186) hX dX10_costOf_178 (by decide) (fun _ => ?_) (fun h9 => absurd h9 ((by decide)))
            refine g_ldc hX ccX10_106 dX10_costOf_186 ?_
            refine g_iret (st := []) hX hE rfl dX10_costOf_188 (⟨rfl, rfl⟩)
          · exact absurd ⟨k, by omega, hgk⟩ q
        · rw [if_neg (by decide)] at hgk
          have hv := hv rfl
          subst hv
          by_cases h0 : w (s k) = 0
          · rcases hr with ⟨-, rfl⟩ | ⟨q, -⟩
            · refine g_istore hX dX10_costOf_175 (by decide) rfl ?_
              refine g_iload_n (i := 3) hX dX10_costOf_177 rfl rfl ?_
              refine g_if_ne (tgt := 186) hX dX10_costOf_178 (by decide) (fun h9 => absurd (rfl) h9) (fun _ => ?_)
              refine g_iload hX dX10_costOf_181 rfl ?_
              refine g_if_ne (tgt := 189) hX dX10_costOf_183 (by decide) (fun h9 => absurd ((by rw [h0]; rfl)) h9) (fun _ => ?_)
              refine g_ldc hX ccX10_106 dX10_costOf_186 ?_
              refine g_iret (st := []) hX hE rfl dX10_costOf_188 (⟨rfl, rfl⟩)
            · exact absurd ⟨k, by omega, by rw [hgk]; exact h0⟩ q
          · have hb := c_bitsOfR (Γ := Γ) (S := S) (w := w (s k)) (all := sumW g 11) (by omega) (hw99 _ s2) (by omega)
            refine g_istore hX dX10_costOf_175 (by decide) rfl ?_
            refine g_iload_n (i := 3) hX dX10_costOf_177 rfl rfl ?_
            refine g_if_ne (tgt := 186) hX dX10_costOf_178 (by decide) (fun h9 => absurd (rfl) h9) (fun _ => ?_)
            refine g_iload hX dX10_costOf_181 rfl ?_
            refine g_if_ne (tgt := 189) hX dX10_costOf_183 (by decide) (fun _ => ?_) (fun h9 => absurd h9 (nI_ne0 (by omega) (by have := hw99 _ s2; omega)))
            refine g_iload hX dX10_costOf_189 rfl ?_
            refine g_iload hX dX10_costOf_191 rfl ?_
            refine g_iload hX dX10_costOf_193 rfl ?_
            refine sX10_279 hX ⟨Nat.le_of_ble_eq_true rfl, Nat.le_of_ble_eq_true rfl⟩ (Nat.le_of_ble_eq_true rfl) dX10_costOf_195 (hb) ?_
            refine g_iadd hX dX10_costOf_198 ?_
            refine g_istore hX dX10_costOf_199 (by decide) rfl ?_
            refine g_iinc hX dX10_costOf_201 rfl ic1 (by decide) rfl ?_
            refine g_goto (tgt := 69) hX dX10_costOf_204 (by decide) ?_
            have e : crN g s (k + 1) = crN g s k + bitF 30 (w (s k)) (sumW g 11) := by simp only [crN, sumW, hgk, Nat.add_assoc]
            rw [nI_1, nI_add2, ← e]
            exact g_weak (ih (k + 1) (by omega) (fun j hj => by
              by_cases q : j = k
              · subst q; rw [hgk]; exact h0
              · exact hno j (by omega))) (as_c rfl (as_c rfl (as_c rfl (as_c rfl (as_c rfl (as_c rfl (as_c rfl (as_n))))))))
      have hgap := c_gapOfR (Γ := Γ) (S := S) (r := 0) (i := k) (by decide) (by omega)
      rw [gapN_congr (tk' := fun j => S.1 72 (40 * 0 + j)) (tk := tk) (fun j hj => (rr.2 j (by omega)).1)] at hgap
      rcases (by omega : p = 0 ∨ p = 1 ∨ p = 2) with rfl | rfl | rfl
      · obtain ⟨ga1, ga2⟩ := gap_ok tok (show k < n by omega)
        have es : (if (10 : Int32) < gapN tk k then 10 else gapN tk k) = nI (s k) := s1
        by_cases q : gapN tk k ≤ 9
        · rw [if_neg (by rw [i_lt, show (10 : Int32).toInt = 10 by decide]; rw [i_le, t9] at q; omega)] at es
          have hs9 : s k < 10 := by rw [es, i_le, nI_toInt (by omega), t9] at q; omega
          have e9 : (0 : Int32) + gapN tk k = nI (s k) := by rw [es, show (0 : Int32) = nI 0 from rfl, nI_add2, Nat.zero_add]
          refine g_iload hX dX10_costOf_69 rfl ?_
          refine g_aload_n (i := 0) hX dX10_costOf_71 rfl rfl ?_
          refine fX10_19 hX dX10_costOf_72 ?_
          refine g_iconst hX dX10_costOf_75 ic0 ?_
          refine g_ialoadN (i := 0) hX (ia71) rfl (by decide) (by first | decide | assumption | omega) dX10_costOf_76 ?_
          refine g_icmp_ge (tgt := 207) hX dX10_costOf_77 (by decide) (fun h9 => absurd h9 ((by rw [rr.1]; exact nI_ge (by omega) (by omega)))) (fun _ => ?_)
          refine g_iload_n (i := 1) hX dX10_costOf_80 rfl rfl ?_
          refine g_iconst hX dX10_costOf_81 ic3 ?_
          refine g_icmp_ge (tgt := 207) hX dX10_costOf_82 (by decide) (fun h9 => absurd h9 ((by decide))) (fun _ => ?_)
          refine g_iload_n (i := 1) hX dX10_costOf_85 rfl rfl ?_
          refine g_iconst hX dX10_costOf_86 ic1 ?_
          refine g_icmp_ne (tgt := 100) hX dX10_costOf_87 (by decide) (fun _ => ?_) (fun h9 => absurd h9 ((by decide)))
          refine g_iconst hX dX10_costOf_100 ic0 ?_
          refine g_istore hX dX10_costOf_101 (by decide) rfl ?_
          refine g_aload_n (i := 0) hX dX10_costOf_103 rfl rfl ?_
          refine g_iconst hX dX10_costOf_104 ic0 ?_
          refine g_iload hX dX10_costOf_105 rfl ?_
          refine sX10_120 hX ⟨Nat.le_of_ble_eq_true rfl, Nat.le_of_ble_eq_true rfl⟩ (Nat.le_of_ble_eq_true rfl) dX10_costOf_107 (hgap) ?_
          refine g_istore hX dX10_costOf_110 (by decide) rfl ?_
          refine g_iload_n (i := 1) hX dX10_costOf_112 rfl rfl ?_
          refine g_if_ne (tgt := 136) hX dX10_costOf_113 (by decide) (fun h9 => absurd (rfl) h9) (fun _ => ?_)
          refine g_iload hX dX10_costOf_116 rfl ?_
          refine g_bipush hX dX10_costOf_118 bp9 ?_
          refine g_icmp_le (tgt := 127) hX dX10_costOf_120 (by decide) (fun _ => ?_) (fun h9 => absurd (q) h9)
          refine g_aload_n (i := 2) hX dX10_costOf_127 rfl rfl ?_
          refine g_iconst hX dX10_costOf_128 ic0 ?_
          refine g_iload hX dX10_costOf_129 rfl ?_
          refine g_iadd hX dX10_costOf_131 ?_
          refine g_ialoadN hX (hK) (e9) ((show s k < 49 by omega)) (by first | decide | assumption | omega) dX10_costOf_132 ?_
          refine g_goto (tgt := 175) hX dX10_costOf_133 (by decide) ?_
          refine fin _ _ _ (fun _ => ?_)
          have := (hw (s k) (Nat.zero_le _) hs9).1
          rw [show wOff 0 + s k = s k from Nat.zero_add _] at this
          exact this
        · refine g_iload hX dX10_costOf_69 rfl ?_
          refine g_aload_n (i := 0) hX dX10_costOf_71 rfl rfl ?_
          refine fX10_19 hX dX10_costOf_72 ?_
          refine g_iconst hX dX10_costOf_75 ic0 ?_
          refine g_ialoadN (i := 0) hX (ia71) rfl (by decide) (by first | decide | assumption | omega) dX10_costOf_76 ?_
          refine g_icmp_ge (tgt := 207) hX dX10_costOf_77 (by decide) (fun h9 => absurd h9 ((by rw [rr.1]; exact nI_ge (by omega) (by omega)))) (fun _ => ?_)
          refine g_iload_n (i := 1) hX dX10_costOf_80 rfl rfl ?_
          refine g_iconst hX dX10_costOf_81 ic3 ?_
          refine g_icmp_ge (tgt := 207) hX dX10_costOf_82 (by decide) (fun h9 => absurd h9 ((by decide))) (fun _ => ?_)
          refine g_iload_n (i := 1) hX dX10_costOf_85 rfl rfl ?_
          refine g_iconst hX dX10_costOf_86 ic1 ?_
          refine g_icmp_ne (tgt := 100) hX dX10_costOf_87 (by decide) (fun _ => ?_) (fun h9 => absurd h9 ((by decide)))
          refine g_iconst hX dX10_costOf_100 ic0 ?_
          refine g_istore hX dX10_costOf_101 (by decide) rfl ?_
          refine g_aload_n (i := 0) hX dX10_costOf_103 rfl rfl ?_
          refine g_iconst hX dX10_costOf_104 ic0 ?_
          refine g_iload hX dX10_costOf_105 rfl ?_
          refine sX10_120 hX ⟨Nat.le_of_ble_eq_true rfl, Nat.le_of_ble_eq_true rfl⟩ (Nat.le_of_ble_eq_true rfl) dX10_costOf_107 (hgap) ?_
          refine g_istore hX dX10_costOf_110 (by decide) rfl ?_
          refine g_iload_n (i := 1) hX dX10_costOf_112 rfl rfl ?_
          refine g_if_ne (tgt := 136) hX dX10_costOf_113 (by decide) (fun h9 => absurd (rfl) h9) (fun _ => ?_)
          refine g_iload hX dX10_costOf_116 rfl ?_
          refine g_bipush hX dX10_costOf_118 bp9 ?_
          refine g_icmp_le (tgt := 127) hX dX10_costOf_120 (by decide) (fun h9 => absurd h9 (q)) (fun _ => ?_)
          refine g_iconst hX dX10_costOf_123 ic0 ?_
          refine g_goto (tgt := 175) hX dX10_costOf_124 (by decide) ?_
          refine fin _ _ _ (fun _ => ?_)
          have h10 : s k = 10 := by
            rw [i_le, t9] at q
            by_cases q2 : (10 : Int32) < gapN tk k
            · rw [if_pos q2] at es; exact (nI_inj (a := 10) (by decide) (by omega) es).symm
            · rw [if_neg q2] at es
              rw [i_lt, show (10 : Int32).toInt = 10 by decide] at q2
              rw [es, nI_toInt (by omega)] at q q2; omega
          rw [h10, hz 10 (by decide) (by decide)]; rfl
      · have hdp : kX10_depthOf Γ [.ref (Γ.1 67), .int 0, .int (nI k)] S (rI (dep nm k) S) := c_depthOfR (r := 0) (by decide) (by omega) (fun j hj => ⟨(rr.2 j (by omega)).2.1, hnm j (by omega)⟩)
        have es : slotI (dep nm k) = nI (s k) := s1
        by_cases q : dep nm k = -1000000
        · refine g_iload hX dX10_costOf_69 rfl ?_
          refine g_aload_n (i := 0) hX dX10_costOf_71 rfl rfl ?_
          refine fX10_19 hX dX10_costOf_72 ?_
          refine g_iconst hX dX10_costOf_75 ic0 ?_
          refine g_ialoadN (i := 0) hX (ia71) rfl (by decide) (by first | decide | assumption | omega) dX10_costOf_76 ?_
          refine g_icmp_ge (tgt := 207) hX dX10_costOf_77 (by decide) (fun h9 => absurd h9 ((by rw [rr.1]; exact nI_ge (by omega) (by omega)))) (fun _ => ?_)
          refine g_iload_n (i := 1) hX dX10_costOf_80 rfl rfl ?_
          refine g_iconst hX dX10_costOf_81 ic3 ?_
          refine g_icmp_ge (tgt := 207) hX dX10_costOf_82 (by decide) (fun h9 => absurd h9 ((by decide))) (fun _ => ?_)
          refine g_iload_n (i := 1) hX dX10_costOf_85 rfl rfl ?_
          refine g_iconst hX dX10_costOf_86 ic1 ?_
          refine g_icmp_ne (tgt := 100) hX dX10_costOf_87 (by decide) (fun h9 => absurd (rfl) h9) (fun _ => ?_)
          refine g_aload_n (i := 0) hX dX10_costOf_90 rfl rfl ?_
          refine g_iconst hX dX10_costOf_91 ic0 ?_
          refine g_iload hX dX10_costOf_92 rfl ?_
          refine sX10_116 hX ⟨Nat.le_of_ble_eq_true rfl, Nat.le_of_ble_eq_true rfl⟩ (Nat.le_of_ble_eq_true rfl) dX10_costOf_94 (hdp) ?_
          refine g_goto (tgt := 101) hX dX10_costOf_97 (by decide) ?_
          refine g_istore hX dX10_costOf_101 (by decide) rfl ?_
          refine g_aload_n (i := 0) hX dX10_costOf_103 rfl rfl ?_
          refine g_iconst hX dX10_costOf_104 ic0 ?_
          refine g_iload hX dX10_costOf_105 rfl ?_
          refine sX10_120 hX ⟨Nat.le_of_ble_eq_true rfl, Nat.le_of_ble_eq_true rfl⟩ (Nat.le_of_ble_eq_true rfl) dX10_costOf_107 (hgap) ?_
          refine g_istore hX dX10_costOf_110 (by decide) rfl ?_
          refine g_iload_n (i := 1) hX dX10_costOf_112 rfl rfl ?_
          refine g_if_ne (tgt := 136) hX dX10_costOf_113 (by decide) (fun _ => ?_) (fun h9 => absurd h9 ((by decide)))
          refine g_iload_n (i := 1) hX dX10_costOf_136 rfl rfl ?_
          refine g_iconst hX dX10_costOf_137 ic1 ?_
          refine g_icmp_ne (tgt := 163) hX dX10_costOf_138 (by decide) (fun h9 => absurd (rfl) h9) (fun _ => ?_)
          refine g_aload_n (i := 2) hX dX10_costOf_141 rfl rfl ?_
          refine g_iload hX dX10_costOf_142 rfl ?_
          refine g_ldc hX ccX10_106 dX10_costOf_144 ?_
          refine g_icmp_ne (tgt := 154) hX dX10_costOf_146 (by decide) (fun h9 => absurd (q) h9) (fun _ => ?_)
          refine g_bipush hX dX10_costOf_149 bp20 ?_
          refine g_goto (tgt := 159) hX dX10_costOf_151 (by decide) ?_
          refine g_ialoadN (i := 20) hX (hK) rfl (by decide) (by first | decide | assumption | omega) dX10_costOf_159 ?_
          refine g_goto (tgt := 175) hX dX10_costOf_160 (by decide) ?_
          refine fin _ _ _ (fun _ => ?_)
          rw [slotI, if_pos q] at es
          have h10 : s k = 10 := (nI_inj (a := 10) (by decide) (by omega) es).symm
          rw [h10]
          exact (hw 10 (by decide) (by decide)).1
        · rw [slotI, if_neg q] at es
          have e9 : (10 : Int32) + dep nm k = nI (10 + s k) := by rw [es, show (10 : Int32) = nI 10 from rfl, nI_add2]
          refine g_iload hX dX10_costOf_69 rfl ?_
          refine g_aload_n (i := 0) hX dX10_costOf_71 rfl rfl ?_
          refine fX10_19 hX dX10_costOf_72 ?_
          refine g_iconst hX dX10_costOf_75 ic0 ?_
          refine g_ialoadN (i := 0) hX (ia71) rfl (by decide) (by first | decide | assumption | omega) dX10_costOf_76 ?_
          refine g_icmp_ge (tgt := 207) hX dX10_costOf_77 (by decide) (fun h9 => absurd h9 ((by rw [rr.1]; exact nI_ge (by omega) (by omega)))) (fun _ => ?_)
          refine g_iload_n (i := 1) hX dX10_costOf_80 rfl rfl ?_
          refine g_iconst hX dX10_costOf_81 ic3 ?_
          refine g_icmp_ge (tgt := 207) hX dX10_costOf_82 (by decide) (fun h9 => absurd h9 ((by decide))) (fun _ => ?_)
          refine g_iload_n (i := 1) hX dX10_costOf_85 rfl rfl ?_
          refine g_iconst hX dX10_costOf_86 ic1 ?_
          refine g_icmp_ne (tgt := 100) hX dX10_costOf_87 (by decide) (fun h9 => absurd (rfl) h9) (fun _ => ?_)
          refine g_aload_n (i := 0) hX dX10_costOf_90 rfl rfl ?_
          refine g_iconst hX dX10_costOf_91 ic0 ?_
          refine g_iload hX dX10_costOf_92 rfl ?_
          refine sX10_116 hX ⟨Nat.le_of_ble_eq_true rfl, Nat.le_of_ble_eq_true rfl⟩ (Nat.le_of_ble_eq_true rfl) dX10_costOf_94 (hdp) ?_
          refine g_goto (tgt := 101) hX dX10_costOf_97 (by decide) ?_
          refine g_istore hX dX10_costOf_101 (by decide) rfl ?_
          refine g_aload_n (i := 0) hX dX10_costOf_103 rfl rfl ?_
          refine g_iconst hX dX10_costOf_104 ic0 ?_
          refine g_iload hX dX10_costOf_105 rfl ?_
          refine sX10_120 hX ⟨Nat.le_of_ble_eq_true rfl, Nat.le_of_ble_eq_true rfl⟩ (Nat.le_of_ble_eq_true rfl) dX10_costOf_107 (hgap) ?_
          refine g_istore hX dX10_costOf_110 (by decide) rfl ?_
          refine g_iload_n (i := 1) hX dX10_costOf_112 rfl rfl ?_
          refine g_if_ne (tgt := 136) hX dX10_costOf_113 (by decide) (fun _ => ?_) (fun h9 => absurd h9 ((by decide)))
          refine g_iload_n (i := 1) hX dX10_costOf_136 rfl rfl ?_
          refine g_iconst hX dX10_costOf_137 ic1 ?_
          refine g_icmp_ne (tgt := 163) hX dX10_costOf_138 (by decide) (fun h9 => absurd (rfl) h9) (fun _ => ?_)
          refine g_aload_n (i := 2) hX dX10_costOf_141 rfl rfl ?_
          refine g_iload hX dX10_costOf_142 rfl ?_
          refine g_ldc hX ccX10_106 dX10_costOf_144 ?_
          refine g_icmp_ne (tgt := 154) hX dX10_costOf_146 (by decide) (fun _ => ?_) (fun h9 => absurd h9 (q))
          refine g_bipush hX dX10_costOf_154 bp10 ?_
          refine g_iload hX dX10_costOf_156 rfl ?_
          refine g_iadd hX dX10_costOf_158 ?_
          refine g_ialoadN hX (hK) (e9) ((show 10 + s k < 49 by omega)) (by first | decide | assumption | omega) dX10_costOf_159 ?_
          refine g_goto (tgt := 175) hX dX10_costOf_160 (by decide) ?_
          exact fin _ _ _ (fun _ => (hw (s k) (Nat.zero_le _) s2).1)
      · have es : gr k = nI (s k) := s1
        have s4 := s3 rfl
        have eg : S.1 74 k = nI (s k) := by have := (rr.2 k (by omega)).2.2; rw [Nat.mul_zero, Nat.zero_add] at this; rw [this, es]
        have e9 : (30 : Int32) + S.1 74 k = nI (30 + s k) := by rw [eg, show (30 : Int32) = nI 30 from rfl, nI_add2]
        refine g_iload hX dX10_costOf_69 rfl ?_
        refine g_aload_n (i := 0) hX dX10_costOf_71 rfl rfl ?_
        refine fX10_19 hX dX10_costOf_72 ?_
        refine g_iconst hX dX10_costOf_75 ic0 ?_
        refine g_ialoadN (i := 0) hX (ia71) rfl (by decide) (by first | decide | assumption | omega) dX10_costOf_76 ?_
        refine g_icmp_ge (tgt := 207) hX dX10_costOf_77 (by decide) (fun h9 => absurd h9 ((by rw [rr.1]; exact nI_ge (by omega) (by omega)))) (fun _ => ?_)
        refine g_iload_n (i := 1) hX dX10_costOf_80 rfl rfl ?_
        refine g_iconst hX dX10_costOf_81 ic3 ?_
        refine g_icmp_ge (tgt := 207) hX dX10_costOf_82 (by decide) (fun h9 => absurd h9 ((by decide))) (fun _ => ?_)
        refine g_iload_n (i := 1) hX dX10_costOf_85 rfl rfl ?_
        refine g_iconst hX dX10_costOf_86 ic1 ?_
        refine g_icmp_ne (tgt := 100) hX dX10_costOf_87 (by decide) (fun _ => ?_) (fun h9 => absurd h9 ((by decide)))
        refine g_iconst hX dX10_costOf_100 ic0 ?_
        refine g_istore hX dX10_costOf_101 (by decide) rfl ?_
        refine g_aload_n (i := 0) hX dX10_costOf_103 rfl rfl ?_
        refine g_iconst hX dX10_costOf_104 ic0 ?_
        refine g_iload hX dX10_costOf_105 rfl ?_
        refine sX10_120 hX ⟨Nat.le_of_ble_eq_true rfl, Nat.le_of_ble_eq_true rfl⟩ (Nat.le_of_ble_eq_true rfl) dX10_costOf_107 (hgap) ?_
        refine g_istore hX dX10_costOf_110 (by decide) rfl ?_
        refine g_iload_n (i := 1) hX dX10_costOf_112 rfl rfl ?_
        refine g_if_ne (tgt := 136) hX dX10_costOf_113 (by decide) (fun _ => ?_) (fun h9 => absurd h9 ((by decide)))
        refine g_iload_n (i := 1) hX dX10_costOf_136 rfl rfl ?_
        refine g_iconst hX dX10_costOf_137 ic1 ?_
        refine g_icmp_ne (tgt := 163) hX dX10_costOf_138 (by decide) (fun _ => ?_) (fun h9 => absurd h9 ((by decide)))
        refine g_aload_n (i := 2) hX dX10_costOf_163 rfl rfl ?_
        refine g_bipush hX dX10_costOf_164 bp30 ?_
        refine g_aload_n (i := 0) hX dX10_costOf_166 rfl rfl ?_
        refine fX10_28 hX dX10_costOf_167 ?_
        refine g_iload hX dX10_costOf_170 rfl ?_
        refine g_ialoadN hX (ia74) rfl ((show k < 200 by omega)) (by first | decide | assumption | omega) dX10_costOf_172 ?_
        refine g_iadd hX dX10_costOf_173 ?_
        refine g_ialoadN hX (hK) (e9) ((show 30 + s k < 49 by omega)) (by first | decide | assumption | omega) dX10_costOf_174 ?_
        exact fin _ _ _ (fun _ => (hw (s k) (by show 1 ≤ s k; omega) (by show s k < 10; omega)).1)
  -- the first loop
  have first : ∀ d i, i + d = wHi p → wLo p ≤ i → G Γ X S 12 [(0, .ref (Γ.1 67)), (1, .int (nI p)), (2, .ref (Γ.1 K)), (3, .int (nI lf)), (4, .int (nI (8 * nzW g i))), (5, .int (nI (sumW g i))), (6, .int (nI (wOff p + i)))] [] := by
    intro d
    induction d with
    | zero =>
      intro i hi h1
      obtain rfl : i = wHi p := by omega
      rw [o1, o2]
      refine g_iload hX dX10_costOf_12 rfl ?_
      refine g_iload_n (i := 1) hX dX10_costOf_14 rfl rfl ?_
      refine sX10_208 hX ⟨Nat.le_of_ble_eq_true rfl, Nat.le_of_ble_eq_true rfl⟩ (Nat.le_of_ble_eq_true rfl) dX10_costOf_15 (c_lastOf hp) ?_
      refine g_icmp_gt (tgt := 66) hX dX10_costOf_18 (by decide) (fun _ => ?_) (fun h9 => absurd (nI_lt (by omega) (by omega)) h9)
      refine g_iconst hX dX10_costOf_66 ic0 ?_
      refine g_istore hX dX10_costOf_67 (by decide) rfl ?_
      exact second n' 0 (by omega) (fun j hj => absurd hj (by omega))
    | succ d ih =>
      intro i hi h1
      obtain ⟨w1, w2⟩ := hw i h1 (by omega)
      have hgi := hg i (by omega)
      have h2 := ih (i + 1) (by omega) (by omega)
      rcases (by omega : lf = 1 ∨ lf = 0) with rfl | rfl
      · rw [if_pos rfl] at hgi
        refine g_iload hX dX10_costOf_12 rfl ?_
        refine g_iload_n (i := 1) hX dX10_costOf_14 rfl rfl ?_
        refine sX10_208 hX ⟨Nat.le_of_ble_eq_true rfl, Nat.le_of_ble_eq_true rfl⟩ (Nat.le_of_ble_eq_true rfl) dX10_costOf_15 (c_lastOf hp) ?_
        refine g_icmp_gt (tgt := 66) hX dX10_costOf_18 (by decide) (fun h9 => absurd h9 (nI_nlt (by omega) (by omega))) (fun _ => ?_)
        refine g_iload hX dX10_costOf_21 rfl ?_
        refine g_iload_n (i := 3) hX dX10_costOf_23 rfl rfl ?_
        refine g_if_eq (tgt := 31) hX dX10_costOf_24 (by decide) (fun h9 => absurd h9 ((by decide))) (fun _ => ?_)
        refine g_iconst hX dX10_costOf_27 ic0 ?_
        refine g_goto (tgt := 35) hX dX10_costOf_28 (by decide) ?_
        refine g_iadd hX dX10_costOf_35 ?_
        refine g_istore hX dX10_costOf_36 (by decide) rfl ?_
        refine g_iload hX dX10_costOf_38 rfl ?_
        refine g_iload_n (i := 3) hX dX10_costOf_40 rfl rfl ?_
        refine g_if_ne (tgt := 56) hX dX10_costOf_41 (by decide) (fun _ => ?_) (fun h9 => absurd h9 ((by decide)))
        refine g_iconst hX dX10_costOf_56 ic0 ?_
        refine g_iadd hX dX10_costOf_57 ?_
        refine g_istore hX dX10_costOf_58 (by decide) rfl ?_
        refine g_iinc hX dX10_costOf_60 rfl ic1 (by decide) rfl ?_
        refine g_goto (tgt := 12) hX dX10_costOf_63 (by decide) ?_
        simp only [sumW, nzW, hgi, if_true, Nat.add_zero] at h2
        rw [nI_1, Int32.add_zero, Int32.add_zero]
        exact h2
      · rw [if_neg (by decide)] at hgi
        by_cases h0 : w i = 0
        · refine g_iload hX dX10_costOf_12 rfl ?_
          refine g_iload_n (i := 1) hX dX10_costOf_14 rfl rfl ?_
          refine sX10_208 hX ⟨Nat.le_of_ble_eq_true rfl, Nat.le_of_ble_eq_true rfl⟩ (Nat.le_of_ble_eq_true rfl) dX10_costOf_15 (c_lastOf hp) ?_
          refine g_icmp_gt (tgt := 66) hX dX10_costOf_18 (by decide) (fun h9 => absurd h9 (nI_nlt (by omega) (by omega))) (fun _ => ?_)
          refine g_iload hX dX10_costOf_21 rfl ?_
          refine g_iload_n (i := 3) hX dX10_costOf_23 rfl rfl ?_
          refine g_if_eq (tgt := 31) hX dX10_costOf_24 (by decide) (fun _ => ?_) (fun h9 => absurd (rfl) h9)
          refine g_aload_n (i := 2) hX dX10_costOf_31 rfl rfl ?_
          refine g_iload hX dX10_costOf_32 rfl ?_
          refine g_ialoadN hX (hK) rfl ((show wOff p + i < 49 by omega)) (by first | decide | assumption | omega) dX10_costOf_34 ?_
          refine g_iadd hX dX10_costOf_35 ?_
          refine g_istore hX dX10_costOf_36 (by decide) rfl ?_
          refine g_iload hX dX10_costOf_38 rfl ?_
          refine g_iload_n (i := 3) hX dX10_costOf_40 rfl rfl ?_
          refine g_if_ne (tgt := 56) hX dX10_costOf_41 (by decide) (fun h9 => absurd (rfl) h9) (fun _ => ?_)
          refine g_aload_n (i := 2) hX dX10_costOf_44 rfl rfl ?_
          refine g_iload hX dX10_costOf_45 rfl ?_
          refine g_ialoadN hX (hK) rfl ((show wOff p + i < 49 by omega)) (by first | decide | assumption | omega) dX10_costOf_47 ?_
          refine g_if_le (tgt := 56) hX dX10_costOf_48 (by decide) (fun _ => ?_) (fun h9 => absurd ((by rw [w1, h0]; decide)) h9)
          refine g_iconst hX dX10_costOf_56 ic0 ?_
          refine g_iadd hX dX10_costOf_57 ?_
          refine g_istore hX dX10_costOf_58 (by decide) rfl ?_
          refine g_iinc hX dX10_costOf_60 rfl ic1 (by decide) rfl ?_
          refine g_goto (tgt := 12) hX dX10_costOf_63 (by decide) ?_
          simp only [sumW, nzW, hgi, h0, if_true, Nat.add_zero] at h2
          rw [nI_1, w1, h0, nI_0, Int32.add_zero, Int32.add_zero]
          exact h2
        · refine g_iload hX dX10_costOf_12 rfl ?_
          refine g_iload_n (i := 1) hX dX10_costOf_14 rfl rfl ?_
          refine sX10_208 hX ⟨Nat.le_of_ble_eq_true rfl, Nat.le_of_ble_eq_true rfl⟩ (Nat.le_of_ble_eq_true rfl) dX10_costOf_15 (c_lastOf hp) ?_
          refine g_icmp_gt (tgt := 66) hX dX10_costOf_18 (by decide) (fun h9 => absurd h9 (nI_nlt (by omega) (by omega))) (fun _ => ?_)
          refine g_iload hX dX10_costOf_21 rfl ?_
          refine g_iload_n (i := 3) hX dX10_costOf_23 rfl rfl ?_
          refine g_if_eq (tgt := 31) hX dX10_costOf_24 (by decide) (fun _ => ?_) (fun h9 => absurd (rfl) h9)
          refine g_aload_n (i := 2) hX dX10_costOf_31 rfl rfl ?_
          refine g_iload hX dX10_costOf_32 rfl ?_
          refine g_ialoadN hX (hK) rfl ((show wOff p + i < 49 by omega)) (by first | decide | assumption | omega) dX10_costOf_34 ?_
          refine g_iadd hX dX10_costOf_35 ?_
          refine g_istore hX dX10_costOf_36 (by decide) rfl ?_
          refine g_iload hX dX10_costOf_38 rfl ?_
          refine g_iload_n (i := 3) hX dX10_costOf_40 rfl rfl ?_
          refine g_if_ne (tgt := 56) hX dX10_costOf_41 (by decide) (fun h9 => absurd (rfl) h9) (fun _ => ?_)
          refine g_aload_n (i := 2) hX dX10_costOf_44 rfl rfl ?_
          refine g_iload hX dX10_costOf_45 rfl ?_
          refine g_ialoadN hX (hK) rfl ((show wOff p + i < 49 by omega)) (by first | decide | assumption | omega) dX10_costOf_47 ?_
          refine g_if_le (tgt := 56) hX dX10_costOf_48 (by decide) (fun h9 => absurd h9 ((by rw [w1]; exact nI_nle (by omega) (by omega)))) (fun _ => ?_)
          refine g_bipush hX dX10_costOf_51 bp8 ?_
          refine g_goto (tgt := 57) hX dX10_costOf_53 (by decide) ?_
          refine g_iadd hX dX10_costOf_57 ?_
          refine g_istore hX dX10_costOf_58 (by decide) rfl ?_
          refine g_iinc hX dX10_costOf_60 rfl ic1 (by decide) rfl ?_
          refine g_goto (tgt := 12) hX dX10_costOf_63 (by decide) ?_
          simp only [sumW, nzW, hgi, h0, if_false] at h2
          rw [nI_1, w1, nI_add2, show nI (8 * nzW g i) + 8 = nI (8 * (nzW g i + 1)) from by rw [show (8 : Int32) = nI 8 from rfl, nI_add2]; congr 1]
          exact h2
  have h0 := first (wHi p - wLo p) (wLo p) (by omega) (Nat.le_refl _)
  rw [o3, o4, ← f1] at h0
  refine g_iconst hX dX10_costOf_0 ic0 ?_
  refine g_istore hX dX10_costOf_1 (by decide) rfl ?_
  refine g_iconst hX dX10_costOf_3 ic0 ?_
  refine g_istore hX dX10_costOf_4 (by decide) rfl ?_
  refine g_iload_n (i := 1) hX dX10_costOf_6 rfl rfl ?_
  refine sX10_205 hX ⟨Nat.le_of_ble_eq_true rfl, Nat.le_of_ble_eq_true rfl⟩ (Nat.le_of_ble_eq_true rfl) dX10_costOf_7 (c_firstOf hp) ?_
  refine g_istore hX dX10_costOf_10 (by decide) rfl ?_
  exact h0
