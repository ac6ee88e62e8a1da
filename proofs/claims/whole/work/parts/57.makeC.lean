/-! a made row: the class's -/
theorem min9 {a b m : Nat} (ha : a + b < 2 ^ 31) (hm : m < 2 ^ 31) : (if nI m < nI a + nI b then nI m else nI a + nI b) = nI (min (a + b) m) := by
  rw [nI_add2]
  by_cases h : m < a + b
  · rw [if_pos (by rw [i_lt, nI_toInt hm, nI_toInt ha]; omega), Nat.min_eq_right (by omega)]
  · rw [if_neg (by rw [i_lt, nI_toInt hm, nI_toInt ha]; omega), Nat.min_eq_left (by omega)]
theorem c_makeRow {Γ : GG} {S : St} {b n : Nat} {x : Int32} {z : Int64} {W : Nat → Nat → Nat} {kp : Nat → Nat} (hb : IsRow b) (hb6 : b + 5 ≤ 36) (hn : n ≤ 40) (hkp : ∀ p, p < 4 → kp p = if S.1 55 p = 0 ∧ ¬ nI p = x then 36 + p else 56) (ho : ∀ p, p < 4 → S.1 55 p = 0 ∨ S.1 55 p = 1) (hW : ∀ p, p < 4 → ∀ j, j < 11 → S.1 (kp p) j = nI (W p j) ∧ W p j ≤ 99) :
    kX4_makeRow Γ [.ref (Γ.1 57), .ref (Γ.1 b), .ref (Γ.1 53), .long z, .int (nI n), .int x] S (eI (fun r S1 => r = nI (mkN W z n).c ∧ RwC S1 b n (tkM W z) (nmM W z) (grM W z) ∧ Fq [b, b + 1, b + 2, b + 3, b + 4, 59] [(58, 0), (58, 1)] S S1)) := by
  refine oX4_makeRow (fun X hX hE => ?_)
  have hkk : ∀ p, p < 4 → kp p = 36 + p ∨ kp p = 56 := fun p hp => by rw [hkp p hp]; split <;> simp
  have hia : ∀ p, p < 4 → IsArr (kp p) 11 := fun p hp => by
    rcases hkk p hp with e | e
    · rw [e]; exact iaW p hp
    · rw [e]; exact ia56
  have h0 := hia 0 (by decide)
  have h1 := hia 1 (by decide)
  have h2 := hia 2 (by decide)
  have h3 := hia 3 (by decide)
  have far : ∀ T, Fq [b, b + 1, b + 2, b + 3, b + 4, 59] [(58, 0), (58, 1)] S T → ∀ p, p < 4 → T.1 (kp p) = S.1 (kp p) := by
    intro T hF p hp
    have hq := hkk p hp
    exact hF.row (by simp only [List.mem_cons, List.not_mem_nil, or_false]; omega) (by simp only [List.mem_cons, List.not_mem_nil, or_false]; rintro _ (rfl | rfl) <;> (simp only; omega))
  have low : ∀ T T1, Fq [] [(58, 0), (58, 1)] T T1 → ∀ i, RwC T b i (tkM W z) (nmM W z) (grM W z) → RwC T1 b i (tkM W z) (nmM W z) (grM W z) := by
    intro T T1 hF i h
    exact h.keep (fun q hq => hF.row (by simp) (by simp only [List.mem_cons, List.not_mem_nil, or_false]; rintro _ (rfl | rfl) <;> (simp only; omega)))
  have low9 : ∀ T T1, Fq [59] [(58, 0), (58, 1)] T T1 → ∀ i, RwC T b i (tkM W z) (nmM W z) (grM W z) → RwC T1 b i (tkM W z) (nmM W z) (grM W z) := by
    intro T T1 hF i h
    exact h.keep (fun q hq => hF.row (by simp only [List.mem_cons, List.not_mem_nil, or_false]; omega) (by simp only [List.mem_cons, List.not_mem_nil, or_false]; rintro _ (rfl | rfl) <;> (simp only; omega)))
  have loop : ∀ d i T, i + d = n → RwC T b i (tkM W z) (nmM W z) (grM W z) → T.2 58 0 = (mkN W z i).x → T.1 58 1 = nI (mkN W z i).c → Fq [b, b + 1, b + 2, b + 3, b + 4, 59] [(58, 0), (58, 1)] S T → G Γ X T 55 [(0, .ref (Γ.1 57)), (1, .ref (Γ.1 b)), (2, .ref (Γ.1 53)), (3, .long z), (5, .int (nI n)), (6, .int x), (7, .ref (Γ.1 (kp 0))), (8, .ref (Γ.1 (kp 1))), (9, .ref (Γ.1 (kp 2))), (10, .ref (Γ.1 (kp 3))), (11, .int (nI (mkN W z i).st)), (12, .int (nI i))] [] := by
    intro d
    induction d with
    | zero =>
      intro i T hi hT hx hc hF
      obtain rfl : i = n := by omega
      refine g_iload hX dX4_makeRow_55 rfl ?_
      refine g_iload hX dX4_makeRow_57 rfl ?_
      refine g_icmp_ge (tgt := 192) hX dX4_makeRow_59 (by decide) (fun _ => ?_) (fun h9 => absurd (nI_le (Nat.le_refl _) (by omega)) h9)
      refine g_aload_n (i := 0) hX dX4_makeRow_192 rfl rfl ?_
      refine fX4_12 hX dX4_makeRow_193 ?_
      refine fX4_61 hX dX4_makeRow_196 ?_
      refine g_iret (st := []) hX hE rfl dX4_makeRow_199 (⟨_, rfl, hc, hT, hF⟩)
    | succ d ih =>
      intro i T hi hT hx hc hF
      obtain ⟨m1, m2, m3, m4, -⟩ := mk_ok W z i
      have ih2 := ih (i + 1)
      have hap : ∀ T3, RwC T3 b i (tkM W z) (nmM W z) (grM W z) → kX6_append Γ [.ref (Γ.1 b), .int (nI (mNow W (mkN W z i))), .int (nI (mWho W (mkN W z i))), .int (nI (mGr W (mkN W z i)))] T3 (eV (fun S1 => RwC S1 b (i + 1) (tkM W z) (nmM W z) (grM W z) ∧ Fq [b, b + 1, b + 2, b + 3, b + 4] [] T3 S1)) := fun T3 h => c_append_t (tk := tkM W z) (nm := nmM W z) (gr := grM W z) hb h (by omega) (nm_mk i)
      have hln : ∀ T1, RwC T1 b i (tkM W z) (nmM W z) (grM W z) → (if i = 0 then 0 else T1.1 (b + 1) (i - 1)) = nI (mkN W z i).now := by
        intro T1 h
        by_cases e : i = 0
        · subst e; rfl
        · rw [if_neg e, (h.2.2 (i - 1) (by omega)).1]
          unfold tkM
          rw [show i - 1 + 1 = i by omega]
      have hmr := mru_mk W z i
      have e1 : (mkN W z (i + 1)).x = mX4 W (mkN W z i) := rfl
      have e2 : (mkN W z (i + 1)).c = mC W (mkN W z i) := rfl
      have e3 : (mkN W z (i + 1)).st = mSt W (mkN W z i) := rfl
      rw [e1, e2, e3] at ih2
      clear e1 e2 e3 ih
      generalize mkN W z i = s at *
      -- the gap
      have cd0 := c_draw (Γ := Γ) (S := T) (k := kp 0) (f := 0) (n := 11) (g := W 0) h0 (by have := hkk 0 (by decide); omega) (by decide) (fun j hj => by rw [Nat.zero_add, far T hF 0 (by decide)]; exact hW 0 (by decide) j hj)
      rw [hx] at cd0
      obtain ⟨x1, c1, F1⟩ := drSt_ok (g := W 0) (n := 11) (S := T)
      rw [hx] at x1
      rw [hc] at c1
      have hT1 := low _ _ F1 i hT
      have G1 := hF.tr (F1.mono (fun _ q => by cases q) (fun _ q => Or.inl q))
      refine g_iload hX dX4_makeRow_55 rfl ?_
      refine g_iload hX dX4_makeRow_57 rfl ?_
      refine g_icmp_ge (tgt := 192) hX dX4_makeRow_59 (by decide) (fun h9 => absurd h9 (nI_ge (show i < n by omega) (by omega))) (fun _ => ?_)
      refine g_aload_n (i := 0) hX dX4_makeRow_62 rfl rfl ?_
      refine fX4_12 hX dX4_makeRow_63 ?_
      refine g_aload hX dX4_makeRow_66 rfl ?_
      refine g_iconst hX dX4_makeRow_68 ic0 ?_
      refine g_bipush hX dX4_makeRow_69 bp11 ?_
      refine sX4_38 hX ⟨Nat.le_of_ble_eq_true rfl, Nat.le_of_ble_eq_true rfl⟩ (Nat.le_of_ble_eq_true rfl) dX4_makeRow_71 (cd0) ?_
      refine g_istore hX dX4_makeRow_74 (by decide) rfl ?_
      generalize drSt (W 0) 11 T = T1 at *
      refine g_aload_n (i := 1) hX dX4_makeRow_76 rfl rfl ?_
      refine sX4_42 hX hb ⟨Nat.le_of_ble_eq_true rfl, Nat.le_of_ble_eq_true rfl⟩ (Nat.le_of_ble_eq_true rfl) dX4_makeRow_77 (c_lastTick hb (by omega) hT1.2.1) ?_
      rw [hln T1 hT1]
      have A93 : ∀ v, G Γ X T1 93 [(0, .ref (Γ.1 57)), (1, .ref (Γ.1 b)), (2, .ref (Γ.1 53)), (3, .long z), (5, .int (nI n)), (6, .int x), (7, .ref (Γ.1 (kp 0))), (8, .ref (Γ.1 (kp 1))), (9, .ref (Γ.1 (kp 2))), (10, .ref (Γ.1 (kp 3))), (11, .int (nI s.st)), (12, .int (nI i)), (13, .int v)] [.int (nI (drO (W 0) 11 s.x 1)), .int (nI s.now)] := by
        intro v
        have hg := drO_lt (g := W 0) (n := 11) (x := s.x) (y := 1) (by decide)
        have em : (if (9999 : Int32) < nI s.now + nI (drO (W 0) 11 s.x 1) then (9999 : Int32) else nI s.now + nI (drO (W 0) 11 s.x 1)) = nI (mNow W s) := min9 (m := 9999) (by omega) (by decide)
        have cdn := c_drawName (Γ := Γ) (W := W) hb (by omega) hT1 h1 (by have := hkk 1 (by decide); omega) (by have := hkk 1 (by decide); omega) (fun j hj => by rw [far T1 G1 1 (by decide)]; exact hW 1 (by decide) j hj)
        rw [hmr, x1, c1] at cdn
        refine g_iadd hX dX4_makeRow_93 ?_
        refine g_sipush hX dX4_makeRow_94 sp9999 ?_
        refine sX4_47 hX (Nat.le_of_ble_eq_true rfl) (Nat.le_of_ble_eq_true rfl) dX4_makeRow_97 ?_
        rw [em]
        refine g_istore hX dX4_makeRow_100 (by decide) rfl ?_
        refine g_aload_n (i := 0) hX dX4_makeRow_102 rfl rfl ?_
        refine g_aload_n (i := 1) hX dX4_makeRow_103 rfl rfl ?_
        refine g_aload hX dX4_makeRow_104 rfl ?_
        refine eX4_53 hX ⟨Nat.le_of_ble_eq_true rfl, Nat.le_of_ble_eq_true rfl⟩ (Nat.le_of_ble_eq_true rfl) dX4_makeRow_106 (cdn) (fun r2 T2 hT2 => ?_)
        obtain ⟨er, x2, c2, F2⟩ := hT2
        have er : r2 = nI (mWho W s) := er
        have x2 : T2.2 58 0 = mX2 W s := x2
        subst er
        have hT2 := low9 _ _ F2 i hT1
        have G2 := G1.tr (F2.mono (fun _ q => by simp only [List.mem_cons, List.not_mem_nil, or_false] at q; subst q; simp) (fun _ q => Or.inl q))
        have cd2 := c_draw (Γ := Γ) (S := T2) (k := kp 2) (f := 0) (n := 11) (g := W 2) h2 (by have := hkk 2 (by decide); omega) (by decide) (fun j hj => by rw [Nat.zero_add, far T2 G2 2 (by decide)]; exact hW 2 (by decide) j hj)
        rw [x2] at cd2
        obtain ⟨x3, c3, F3⟩ := drSt_ok (g := W 2) (n := 11) (S := T2)
        rw [x2] at x3
        rw [c2] at c3
        have hT3 := low _ _ F3 i hT2
        have G3 := G2.tr (F3.mono (fun _ q => by cases q) (fun _ q => Or.inl q))
        refine g_istore hX dX4_makeRow_109 (by decide) rfl ?_
        refine g_aload_n (i := 0) hX dX4_makeRow_111 rfl rfl ?_
        refine fX4_12 hX dX4_makeRow_112 ?_
        refine g_aload hX dX4_makeRow_115 rfl ?_
        refine g_iconst hX dX4_makeRow_117 ic0 ?_
        refine g_bipush hX dX4_makeRow_118 bp11 ?_
        refine sX4_38 hX ⟨Nat.le_of_ble_eq_true rfl, Nat.le_of_ble_eq_true rfl⟩ (Nat.le_of_ble_eq_true rfl) dX4_makeRow_120 (cd2) ?_
        refine g_istore hX dX4_makeRow_123 (by decide) rfl ?_
        refine g_aload_n (i := 1) hX dX4_makeRow_125 rfl rfl ?_
        refine g_iload hX dX4_makeRow_126 rfl ?_
        refine g_iload hX dX4_makeRow_128 rfl ?_
        generalize drSt (W 2) 11 T2 = T3 at *
        have A143 : ∀ u, G Γ X T3 143 [(0, .ref (Γ.1 57)), (1, .ref (Γ.1 b)), (2, .ref (Γ.1 53)), (3, .long z), (5, .int (nI n)), (6, .int x), (7, .ref (Γ.1 (kp 0))), (8, .ref (Γ.1 (kp 1))), (9, .ref (Γ.1 (kp 2))), (10, .ref (Γ.1 (kp 3))), (11, .int (nI s.st)), (12, .int (nI i)), (13, .int v), (14, .int (nI (mNow W s))), (15, .int (nI (mWho W s))), (16, .int u)] [.int (nI (drO (W 2) 11 (mX2 W s) 1)), .int (nI (mWho W s)), .int (nI (mNow W s)), .ref (Γ.1 b)] := by
          intro u
          have hg2 := drO_lt (g := W 2) (n := 11) (x := mX2 W s) (y := 1) (by decide)
          have em2 : (if (9 : Int32) < nI (drO (W 2) 11 (mX2 W s) 1) + nI s.st then (9 : Int32) else nI (drO (W 2) 11 (mX2 W s) 1) + nI s.st) = nI (mGr W s) := min9 (m := 9) (by omega) (by decide)
          refine g_iload hX dX4_makeRow_143 rfl ?_
          refine g_iadd hX dX4_makeRow_145 ?_
          refine g_bipush hX dX4_makeRow_146 bp9 ?_
          refine sX4_47 hX (Nat.le_of_ble_eq_true rfl) (Nat.le_of_ble_eq_true rfl) dX4_makeRow_148 ?_
          rw [em2]
          refine eX4_57 hX hb ⟨Nat.le_of_ble_eq_true rfl, Nat.le_of_ble_eq_true rfl⟩ (Nat.le_of_ble_eq_true rfl) dX4_makeRow_151 ((hap T3 hT3)) (fun T4 hT4 => ?_)
          refine g_aload_n (i := 0) hX dX4_makeRow_154 rfl rfl ?_
          refine fX4_12 hX dX4_makeRow_155 ?_
          refine g_aload hX dX4_makeRow_158 rfl ?_
          refine g_iconst hX dX4_makeRow_160 ic3 ?_
          refine g_iload hX dX4_makeRow_161 rfl ?_
          refine g_imul hX dX4_makeRow_163 ?_
          obtain ⟨hT4, F4⟩ := hT4
          have x4 : T4.2 58 0 = mX3 W s := by rw [(F4 58 0 (by simp only [List.mem_cons, List.not_mem_nil, or_false]; omega) (by simp)).2]; exact x3
          have c4 : T4.1 58 1 = nI (s.c + drC (W 0) 11 + drC (chN W s.l.length) (opN s.l.length) + drC (W 2) 11) := by
            rw [(F4 58 1 (by simp only [List.mem_cons, List.not_mem_nil, or_false]; omega) (by simp)).1, c3, nI_add2, nI_add2, nI_add2]
          have G4 := G3.tr (F4.mono (fun _ q => by simp only [List.mem_cons, List.not_mem_nil, or_false] at q ⊢; omega) (fun _ q => by cases q))
          have cd3 := c_draw (Γ := Γ) (S := T4) (k := kp 3) (f := 3 * s.st) (n := 3) (g := wkN W s) h3 (by have := hkk 3 (by decide); omega) (by omega) (fun j hj => by rw [far T4 G4 3 (by decide)]; exact hW 3 (by decide) (3 * s.st + j) (by omega))
          rw [x4] at cd3
          obtain ⟨x5, c5, F5⟩ := drSt_ok (g := wkN W s) (n := 3) (S := T4)
          rw [x4] at x5
          rw [c4, nI_add2] at c5
          have hT5 := low _ _ F5 (i + 1) hT4
          have G5 := G4.tr (F5.mono (fun _ q => by cases q) (fun _ q => Or.inl q))
          rw [show (3 : Int32) * nI s.st = nI (3 * s.st) from by rw [show (3 : Int32) = nI 3 from rfl, nI_mul]]
          refine g_iconst hX dX4_makeRow_164 ic3 ?_
          refine sX4_38 hX ⟨Nat.le_of_ble_eq_true rfl, Nat.le_of_ble_eq_true rfl⟩ (Nat.le_of_ble_eq_true rfl) dX4_makeRow_165 (cd3) ?_
          refine g_istore hX dX4_makeRow_168 (by decide) rfl ?_
          generalize drSt (wkN W s) 3 T4 = T5 at *
          have A184 : ∀ y, G Γ X T5 184 [(0, .ref (Γ.1 57)), (1, .ref (Γ.1 b)), (2, .ref (Γ.1 53)), (3, .long z), (5, .int (nI n)), (6, .int x), (7, .ref (Γ.1 (kp 0))), (8, .ref (Γ.1 (kp 1))), (9, .ref (Γ.1 (kp 2))), (10, .ref (Γ.1 (kp 3))), (11, .int (nI s.st)), (12, .int (nI i)), (13, .int v), (14, .int (nI (mNow W s))), (15, .int (nI (mWho W s))), (16, .int u), (17, .int y)] [.int (nI (mSt W s))] := by
            intro y
            refine g_istore hX dX4_makeRow_184 (by decide) rfl ?_
            refine g_iinc hX dX4_makeRow_186 rfl ic1 (by decide) rfl ?_
            refine g_goto (tgt := 55) hX dX4_makeRow_189 (by decide) ?_
            rw [nI_1]
            exact g_weak (ih2 T5 (by omega) hT5 x5 c5 G5) (as_c rfl (as_c rfl (as_c rfl (as_c rfl (as_c rfl (as_c rfl (as_c rfl (as_c rfl (as_c rfl (as_c rfl (as_c rfl (as_c rfl (as_n)))))))))))))
          rcases dr_cases (wkN W s) 3 (mX3 W s) with ⟨q1, q2⟩ | ⟨d, hd, q1, q2⟩
          · rw [q1]
            have e : mSt W s = s.st := q2 _
            rw [e] at A184
            refine g_iload hX dX4_makeRow_170 rfl ?_
            refine g_ldc hX ccX4_46 dX4_makeRow_172 ?_
            refine g_icmp_ne (tgt := 182) hX dX4_makeRow_174 (by decide) (fun h9 => absurd (rfl) h9) (fun _ => ?_)
            refine g_iload hX dX4_makeRow_177 rfl ?_
            refine g_goto (tgt := 184) hX dX4_makeRow_179 (by decide) ?_
            exact A184 _
          · rw [q1]
            have e : mSt W s = d := q2 _
            rw [e] at A184
            refine g_iload hX dX4_makeRow_170 rfl ?_
            refine g_ldc hX ccX4_46 dX4_makeRow_172 ?_
            refine g_icmp_ne (tgt := 182) hX dX4_makeRow_174 (by decide) (fun _ => ?_) (fun h9 => absurd h9 (nI_nN (by omega)))
            refine g_iload hX dX4_makeRow_182 rfl ?_
            exact A184 _
        rcases dr_cases (W 2) 11 (mX2 W s) with ⟨q1, q2⟩ | ⟨d, hd, q1, q2⟩
        · rw [q1]
          rw [q2] at A143
          refine g_iload hX dX4_makeRow_130 rfl ?_
          refine g_ldc hX ccX4_46 dX4_makeRow_132 ?_
          refine g_icmp_ne (tgt := 141) hX dX4_makeRow_134 (by decide) (fun h9 => absurd (rfl) h9) (fun _ => ?_)
          refine g_iconst hX dX4_makeRow_137 ic1 ?_
          refine g_goto (tgt := 143) hX dX4_makeRow_138 (by decide) ?_
          exact A143 _
        · rw [q1]
          rw [q2] at A143
          refine g_iload hX dX4_makeRow_130 rfl ?_
          refine g_ldc hX ccX4_46 dX4_makeRow_132 ?_
          refine g_icmp_ne (tgt := 141) hX dX4_makeRow_134 (by decide) (fun _ => ?_) (fun h9 => absurd h9 (nI_nN (by omega)))
          refine g_iload hX dX4_makeRow_141 rfl ?_
          exact A143 _
      rcases dr_cases (W 0) 11 s.x with ⟨q1, q2⟩ | ⟨d, hd, q1, q2⟩
      · rw [q1]
        rw [q2] at A93
        refine g_iload hX dX4_makeRow_80 rfl ?_
        refine g_ldc hX ccX4_46 dX4_makeRow_82 ?_
        refine g_icmp_ne (tgt := 91) hX dX4_makeRow_84 (by decide) (fun h9 => absurd (rfl) h9) (fun _ => ?_)
        refine g_iconst hX dX4_makeRow_87 ic1 ?_
        refine g_goto (tgt := 93) hX dX4_makeRow_88 (by decide) ?_
        exact A93 _
      · rw [q1]
        rw [q2] at A93
        refine g_iload hX dX4_makeRow_80 rfl ?_
        refine g_ldc hX ccX4_46 dX4_makeRow_82 ?_
        refine g_icmp_ne (tgt := 91) hX dX4_makeRow_84 (by decide) (fun _ => ?_) (fun h9 => absurd h9 (nI_nN (by omega)))
        refine g_iload hX dX4_makeRow_91 rfl ?_
        exact A93 _
  refine g_aload_n (i := 2) hX dX4_makeRow_0 rfl rfl ?_
  refine g_iconst hX dX4_makeRow_1 ic0 ?_
  refine g_iload hX dX4_makeRow_2 rfl ?_
  refine sX4_22 hX ⟨Nat.le_of_ble_eq_true rfl, Nat.le_of_ble_eq_true rfl⟩ (Nat.le_of_ble_eq_true rfl) dX4_makeRow_4 (c_weightsIfNot (by decide) (Classical.em _).symm (ho 0 (by decide)) (hkp 0 (by decide))) ?_
  refine g_astore hX dX4_makeRow_7 (by decide) rfl ?_
  refine g_aload_n (i := 2) hX dX4_makeRow_9 rfl rfl ?_
  refine g_iconst hX dX4_makeRow_10 ic1 ?_
  refine g_iload hX dX4_makeRow_11 rfl ?_
  refine sX4_22 hX ⟨Nat.le_of_ble_eq_true rfl, Nat.le_of_ble_eq_true rfl⟩ (Nat.le_of_ble_eq_true rfl) dX4_makeRow_13 (c_weightsIfNot (by decide) (Classical.em _).symm (ho 1 (by decide)) (hkp 1 (by decide))) ?_
  refine g_astore hX dX4_makeRow_16 (by decide) rfl ?_
  refine g_aload_n (i := 2) hX dX4_makeRow_18 rfl rfl ?_
  refine g_iconst hX dX4_makeRow_19 ic2 ?_
  refine g_iload hX dX4_makeRow_20 rfl ?_
  refine sX4_22 hX ⟨Nat.le_of_ble_eq_true rfl, Nat.le_of_ble_eq_true rfl⟩ (Nat.le_of_ble_eq_true rfl) dX4_makeRow_22 (c_weightsIfNot (by decide) (Classical.em _).symm (ho 2 (by decide)) (hkp 2 (by decide))) ?_
  refine g_astore hX dX4_makeRow_25 (by decide) rfl ?_
  refine g_aload_n (i := 2) hX dX4_makeRow_27 rfl rfl ?_
  refine g_iconst hX dX4_makeRow_28 ic3 ?_
  refine g_iload hX dX4_makeRow_29 rfl ?_
  refine sX4_22 hX ⟨Nat.le_of_ble_eq_true rfl, Nat.le_of_ble_eq_true rfl⟩ (Nat.le_of_ble_eq_true rfl) dX4_makeRow_31 (c_weightsIfNot (by decide) (Classical.em _).symm (ho 3 (by decide)) (hkp 3 (by decide))) ?_
  refine g_astore hX dX4_makeRow_34 (by decide) rfl ?_
  refine g_aload_n (i := 0) hX dX4_makeRow_36 rfl rfl ?_
  refine fX4_12 hX dX4_makeRow_37 ?_
  refine g_lload_n (i := 3) hX dX4_makeRow_40 rfl rfl ?_
  refine sX4_28 hX ⟨Nat.le_of_ble_eq_true rfl, Nat.le_of_ble_eq_true rfl⟩ (Nat.le_of_ble_eq_true rfl) dX4_makeRow_41 (c_begin) ?_
  refine g_aload_n (i := 1) hX dX4_makeRow_44 rfl rfl ?_
  refine g_iconst hX dX4_makeRow_45 ic0 ?_
  refine pX4_32 hX hb dX4_makeRow_46 ?_
  refine g_iconst hX dX4_makeRow_49 ic0 ?_
  refine g_istore hX dX4_makeRow_50 (by decide) rfl ?_
  refine g_iconst hX dX4_makeRow_52 ic0 ?_
  refine g_istore hX dX4_makeRow_53 (by decide) rfl ?_
  refine loop n 0 _ (by omega) ⟨by omega, by rw [pR_self, upd_self]; rfl, fun i hi => absurd hi (by omega)⟩ ?_ ?_ (((Fq.rf.J (by simp)).I (by simp)).R (by simp))
  · rfl
  · rw [pR_ne _ _ (by omega), pR_self, upd_self]; rfl
