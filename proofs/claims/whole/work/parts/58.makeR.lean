/-! a made row: the reference's -/
theorem pick_fuel {g : Nat → Nat} (e : Nat) : ∀ d i r, r + sumW g i < sumW g (i + d) → pickN g (d + e) i r = pickN g d i r := by
  intro d
  induction d with
  | zero => intro i r h; exact absurd h (by rw [Nat.add_zero]; omega)
  | succ d ih =>
    intro i r h
    rw [show d + 1 + e = (d + e) + 1 by omega, pickN, pickN]
    split
    · rfl
    · rename_i q
      exact ih (i + 1) (r - g i) (by rw [show i + 1 + d = i + (d + 1) by omega, sumW]; omega)
theorem pick_shift {g : Nat → Nat} : ∀ d i r, pickN g d (i + 1) r = 1 + pickN (fun j => g (j + 1)) d i r := by
  intro d
  induction d with
  | zero => intro i r; rw [pickN, pickN]; omega
  | succ d ih =>
    intro i r
    rw [pickN, pickN]
    by_cases q : r < g (i + 1)
    · rw [if_pos q, if_pos q]; omega
    · rw [if_neg q, if_neg q]; exact ih (i + 1) (r - g (i + 1))
theorem sumW_shift {g : Nat → Nat} : ∀ n, sumW g (n + 1) = g 0 + sumW (fun j => g (j + 1)) n := by
  intro n
  induction n with
  | zero => rw [sumW, sumW, sumW]; omega
  | succ n ih => rw [sumW, ih, sumW]; omega
theorem pick_congr {g h : Nat → Nat} : ∀ d i r, (∀ j, j < i + d → g j = h j) → pickN g d i r = pickN h d i r := by
  intro d
  induction d with
  | zero => intro i r _; rfl
  | succ d ih =>
    intro i r e
    rw [pickN, pickN, e i (by omega), ih (i + 1) (r - h i) (fun j hj => e j (by omega))]
theorem dD {G g : Nat → Nat} {N n sh : Nat} (hs : sumW G N = sumW g n) (hp : ∀ r, r < sumW g n → pickN G N 0 r = sh + pickN g n 0 r) : sumW G N = sumW g n ∧ (sumW g n ≠ 0 → ∀ x, drD G N x = sh + drD g n x) :=
  ⟨hs, fun z x => by unfold drD; rw [hs]; exact hp _ (Nat.mod_lt _ (Nat.pos_of_ne_zero z))⟩
theorem sumW_0 {g : Nat → Nat} : ∀ n, (∀ j, j < n → g j = 0) → sumW g n = 0 := by
  intro n
  induction n with
  | zero => intro _; rfl
  | succ n ih => intro h; rw [sumW, ih (fun j hj => h j (by omega)), h n (by omega)]
theorem dr_same {o : Int32} {G g : Nat → Nat} {N n sh : Nat} {x : Int64} {S : St} (h1 : o = 0 → sumW G N = sumW g n ∧ (sumW g n ≠ 0 → ∀ x, drD G N x = sh + drD g n x)) (h2 : ¬ o = 0 → sumW G N = 0) (hx : S.2 67 22 = x) :
    ((drVo o g n x = -1000000 ∧ ∀ y, drO G N x y = y) ∨ ∃ d, d < n ∧ drVo o g n x = nI d ∧ ∀ y, drO G N x y = sh + d) ∧ (drRt o g n S).2 67 22 = drX G N x ∧ (drRt o g n S).1 67 23 = S.1 67 23 + nI (drC G N) ∧ Fq [] [(67, 22), (67, 23)] S (drRt o g n S) := by
  subst hx
  unfold drVo drRt drX drC drO
  by_cases ho : o = 0
  · obtain ⟨e1, e2⟩ := h1 ho
    rw [if_pos ho, if_pos ho, e1]
    by_cases z : sumW g n = 0
    · rw [if_pos z, if_pos z, if_pos z]
      exact ⟨Or.inl ⟨if_pos z, fun y => if_pos z⟩, rfl, (Int32.add_zero _).symm, Fq.rf⟩
    · rw [if_neg z, if_neg z, if_neg z]
      refine ⟨Or.inr ⟨drD g n (S.2 67 22), drD_lt z, if_neg z, fun y => by rw [if_neg z]; exact e2 z _⟩, ?_, ?_, lotS_F⟩
      · unfold lotS
        rw [pR_J]; exact pJ_self _ _ _ _
      · unfold lotS
        rw [pR_self, upd_self]; rfl
  · have e1 := h2 ho
    rw [if_neg ho, if_neg ho, e1]
    exact ⟨Or.inl ⟨rfl, fun y => rfl⟩, rfl, (Int32.add_zero _).symm, Fq.rf⟩
theorem e_names {len : Nat} (h : len ≤ 10) : ((10 : Int32) + nI len - 1).toInt = ((10 + len : Nat) : Int) - 1 := by
  rw [show (10 : Int32) + nI len = nI (10 + len) from by rw [show (10 : Int32) = nI 10 from rfl, nI_add2], i_sub (by rw [nI_toInt (by omega), t1]; omega) (by rw [nI_toInt (by omega), t1]; omega), nI_toInt (by omega), t1]
theorem e_walk {a : Nat} (h : a ≤ 46) : (nI a + 2).toInt = ((a + 3 : Nat) : Int) - 1 := by
  rw [show nI a + 2 = nI (a + 2) from by rw [show (2 : Int32) = nI 2 from rfl, nI_add2], nI_toInt (by omega)]; omega
theorem c_makeRowR {Γ : GG} {S : St} {r n : Nat} {z : Int64} {w W : Nat → Nat → Nat} (hr : r < 5) (hn : n ≤ 40) (w1 : ∀ p, p < 4 → ∀ i, i < 11 → w p i ≤ 99) (w2 : ∀ p, p < 4 → ∀ i, wLo p ≤ i → i < wHi p → S.1 75 (wOff p + i) = nI (w p i)) (w3 : ∀ p, p < 4 → ∀ i, i < 11 → ¬ (wLo p ≤ i ∧ i < wHi p) → w p i = 0)
    (hW : ∀ p, p < 4 → ∀ i, i < 11 → W p i = if S.1 77 p = 0 then w p i else 0) :
    kX10_makeRow Γ [.ref (Γ.1 67), .int (nI r), .long z, .int (nI n)] S (eV (fun S1 => RwR S1 r n (tkM W z) (nmM W z) (grM W z) ∧ S1.1 67 23 = nI (mkN W z n).c ∧ (∀ r' n' tk' nm' gr', r' ≠ r → n' ≤ 40 → RwR S r' n' tk' nm' gr' → RwR S1 r' n' tk' nm' gr') ∧ Fq [71, 72, 73, 74, 79] [(67, 22), (67, 23), (67, 25)] S S1)) := by
  refine oX10_makeRow (fun X hX hE => ?_)
  have ff : ∀ T, Fq [71, 72, 73, 74, 79] [(67, 22), (67, 23), (67, 25)] S T → T.1 75 = S.1 75 ∧ T.1 77 = S.1 77 := fun T hF => ⟨hF.r (by decide), hF.r (by decide)⟩
  have eqW : ∀ p, p < 4 → S.1 77 p = 0 → ∀ i, i < 11 → W p i = w p i := fun p hp h i hi => by rw [hW p hp i hi, if_pos h]
  have zW : ∀ p, p < 4 → ¬ S.1 77 p = 0 → ∀ i, i < 11 → W p i = 0 := fun p hp h i hi => by rw [hW p hp i hi, if_neg h]
  have loop : ∀ d i T, i + d = n → RwR T r i (tkM W z) (nmM W z) (grM W z) → T.2 67 22 = (mkN W z i).x → T.1 67 23 = nI (mkN W z i).c → MruL T (mkN W z i).l → (∀ r' n' tk' nm' gr', r' ≠ r → n' ≤ 40 → RwR S r' n' tk' nm' gr' → RwR T r' n' tk' nm' gr') → Fq [71, 72, 73, 74, 79] [(67, 22), (67, 23), (67, 25)] S T → G Γ X T 31 [(0, .ref (Γ.1 67)), (1, .int (nI r)), (2, .long z), (4, .int (nI n)), (5, .int (nI (mkN W z i).now)), (6, .int (nI (mkN W z i).st)), (7, .int (nI i))] [] := by
    intro d
    induction d with
    | zero =>
      intro i T hi hT hx hc hm ho hF
      obtain rfl : i = n := by omega
      refine g_iload hX dX10_makeRow_31 rfl ?_
      refine g_iload hX dX10_makeRow_33 rfl ?_
      refine g_icmp_ge (tgt := 265) hX dX10_makeRow_35 (by decide) (fun _ => ?_) (fun h9 => absurd (nI_le (Nat.le_refl _) (by omega)) h9)
      refine g_vret (st := []) hX hE rfl dX10_makeRow_265 (⟨rfl, hT, hc, ho, hF⟩)
    | succ d ih =>
      intro i T hi hT hx hc hm ho hF
      have ih2 := ih (i + 1)
      obtain ⟨m1, m2, m3, m4, -⟩ := mk_ok W z i
      have hpush : ∀ T4, RwR T4 r i (tkM W z) (nmM W z) (grM W z) → RwR (addS T4 r i (nI (mNow W (mkN W z i))) (nI (mWho W (mkN W z i))) (nI (mGr W (mkN W z i)))) r (i + 1) (tkM W z) (nmM W z) (grM W z) := fun T4 h => h.push
      have e1 : (mkN W z (i + 1)).x = mX4 W (mkN W z i) := rfl
      have e2 : (mkN W z (i + 1)).c = mC W (mkN W z i) := rfl
      have e3 : (mkN W z (i + 1)).st = mSt W (mkN W z i) := rfl
      have e4 : (mkN W z (i + 1)).now = mNow W (mkN W z i) := rfl
      have e5 : (mkN W z (i + 1)).l = mWho W (mkN W z i) :: (mkN W z i).l.erase (mWho W (mkN W z i)) := rfl
      rw [e1, e2, e3, e4, e5] at ih2
      clear e1 e2 e3 e4 e5 ih
      generalize mkN W z i = s at *
      have hlen := nd_len m1 m2
      obtain ⟨o1, o2, o3, o4⟩ := opN_ok _ hlen
      have hin : i < n := by omega
      have hi4 : i < 40 := by omega
      -- what each draw is
      have s0 : S.1 77 0 = 0 → sumW (W 0) 11 = sumW (w 0) 10 ∧ (sumW (w 0) 10 ≠ 0 → ∀ x, drD (W 0) 11 x = 0 + drD (w 0) 10 x) := by
        intro h
        have h10 : W 0 10 = 0 := by rw [eqW 0 (by decide) h 10 (by decide)]; exact w3 0 (by decide) 10 (by decide) (by decide)
        have hs : sumW (W 0) 10 = sumW (w 0) 10 := sumW_congr 10 (fun j hj => eqW 0 (by decide) h j (by omega))
        refine dD (by rw [sumW, hs, h10, Nat.add_zero]) (fun q hq => ?_)
        rw [Nat.zero_add, show (11 : Nat) = 10 + 1 from rfl, pick_fuel 1 10 0 q (by rw [Nat.zero_add, sumW, Nat.add_zero, hs]; exact hq)]
        exact pick_congr 10 0 q (fun j hj => eqW 0 (by decide) h j (by omega))
      have z0 : ¬ S.1 77 0 = 0 → sumW (W 0) 11 = 0 := fun h => sumW_0 11 (fun j hj => zW 0 (by decide) h j hj)
      have s1 : S.1 77 1 = 0 → sumW (chN W s.l.length) (opN s.l.length) = sumW (chN w s.l.length) (opN s.l.length) ∧ (sumW (chN w s.l.length) (opN s.l.length) ≠ 0 → ∀ x, drD (chN W s.l.length) (opN s.l.length) x = 0 + drD (chN w s.l.length) (opN s.l.length) x) := by
        intro h
        have hc : ∀ j, j < opN s.l.length → chN W s.l.length j = chN w s.l.length j := fun j hj => by unfold chN; rw [eqW 1 (by decide) h j (by omega), eqW 1 (by decide) h 10 (by decide)]
        exact dD (sumW_congr _ hc) (fun q hq => by rw [Nat.zero_add]; exact pick_congr _ 0 q (fun j hj => hc j (by omega)))
      have z1 : ¬ S.1 77 1 = 0 → sumW (chN W s.l.length) (opN s.l.length) = 0 := fun h => sumW_0 _ (fun j hj => by unfold chN; rw [zW 1 (by decide) h j (by omega), zW 1 (by decide) h 10 (by decide), ite_self])
      have s2 : S.1 77 2 = 0 → sumW (W 2) 11 = sumW (fun j => w 2 (j + 1)) 9 ∧ (sumW (fun j => w 2 (j + 1)) 9 ≠ 0 → ∀ x, drD (W 2) 11 x = 1 + drD (fun j => w 2 (j + 1)) 9 x) := by
        intro h
        have h10 : W 2 10 = 0 := by rw [eqW 2 (by decide) h 10 (by decide)]; exact w3 2 (by decide) 10 (by decide) (by decide)
        have h00 : W 2 0 = 0 := by rw [eqW 2 (by decide) h 0 (by decide)]; exact w3 2 (by decide) 0 (by decide) (by decide)
        have hs9 : sumW (fun j => W 2 (j + 1)) 9 = sumW (fun j => w 2 (j + 1)) 9 := sumW_congr 9 (fun j hj => eqW 2 (by decide) h (j + 1) (by omega))
        have hs : sumW (W 2) 10 = sumW (fun j => w 2 (j + 1)) 9 := by rw [sumW_shift 9, h00, Nat.zero_add, hs9]
        refine dD (by rw [sumW, hs, h10, Nat.add_zero]) (fun q hq => ?_)
        rw [show (11 : Nat) = 10 + 1 from rfl, pick_fuel 1 10 0 q (by rw [Nat.zero_add, sumW, Nat.add_zero, hs]; exact hq), pickN, if_neg (by rw [h00]; exact Nat.not_lt_zero _), h00, Nat.sub_zero, pick_shift]
        exact congrArg (1 + ·) (pick_congr 9 0 q (fun j hj => eqW 2 (by decide) h (j + 1) (by omega)))
      have z2 : ¬ S.1 77 2 = 0 → sumW (W 2) 11 = 0 := fun h => sumW_0 11 (fun j hj => zW 2 (by decide) h j hj)
      have s3 : S.1 77 3 = 0 → sumW (wkN W s) 3 = sumW (wkN w s) 3 ∧ (sumW (wkN w s) 3 ≠ 0 → ∀ x, drD (wkN W s) 3 x = 0 + drD (wkN w s) 3 x) := by
        intro h
        have hc : ∀ j, j < 3 → wkN W s j = wkN w s j := fun j hj => eqW 3 (by decide) h (3 * s.st + j) (by omega)
        exact dD (sumW_congr _ hc) (fun q hq => by rw [Nat.zero_add]; exact pick_congr _ 0 q (fun j hj => hc j (by omega)))
      have z3 : ¬ S.1 77 3 = 0 → sumW (wkN W s) 3 = 0 := fun h => sumW_0 3 (fun j hj => zW 3 (by decide) h (3 * s.st + j) (by omega))
      have low : ∀ T T1, Fq [] [(67, 22), (67, 23)] T T1 → ∀ l, MruL T l → MruL T1 l := fun T T1 h l q => ⟨by rw [(h.s (k := 67) (j := 25) (by decide)).1]; exact q.1, by rw [h.r (k := 79) (by decide)]; exact q.2⟩
      -- the gap
      obtain ⟨f75, f77⟩ := ff T hF
      have cd0 := c_drawR (Γ := Γ) (S := T) (p := 0) (a := 0) (len := 10) (n := 10) (g := w 0) (e := 9) (m := -1) (by decide) (by decide) (by decide) (fun j hj => by rw [f75]; exact w2 0 (by decide) j (Nat.zero_le _) hj) (fun j hj => w1 0 (by decide) j (by omega)) (by decide) (Or.inl ⟨rfl, rfl⟩)
      rw [hx, f77] at cd0
      obtain ⟨v0, x1, c1, F1⟩ := dr_same (S := T) s0 z0 hx
      rw [hc] at c1
      have hm1 := low _ _ F1 _ hm
      have hT1 := hT.q F1 (by decide)
      have ho1 : ∀ r' n' tk' nm' gr', r' ≠ r → n' ≤ 40 → RwR S r' n' tk' nm' gr' → RwR (drRt (S.1 77 0) (w 0) 10 T) r' n' tk' nm' gr' := fun r' n' tk' nm' gr' a1 a2 a3 => (ho r' n' tk' nm' gr' a1 a2 a3).q F1 (by decide)
      have G1 : Fq [71, 72, 73, 74, 79] [(67, 22), (67, 23), (67, 25)] S (drRt (S.1 77 0) (w 0) 10 T) := hF.tr (F1.mono (by decide) (by decide))
      refine g_iload hX dX10_makeRow_31 rfl ?_
      refine g_iload hX dX10_makeRow_33 rfl ?_
      refine g_icmp_ge (tgt := 265) hX dX10_makeRow_35 (by decide) (fun h9 => absurd h9 (nI_ge hin (by omega))) (fun _ => ?_)
      refine g_aload_n (i := 0) hX dX10_makeRow_38 rfl rfl ?_
      refine g_iconst hX dX10_makeRow_39 ic0 ?_
      refine g_iconst hX dX10_makeRow_40 ic0 ?_
      refine g_bipush hX dX10_makeRow_41 bp9 ?_
      refine g_iconst hX dX10_makeRow_43 icm1 ?_
      refine sX10_232 hX ⟨Nat.le_of_ble_eq_true rfl, Nat.le_of_ble_eq_true rfl⟩ (Nat.le_of_ble_eq_true rfl) dX10_makeRow_44 (cd0) ?_
      refine g_istore hX dX10_makeRow_47 (by decide) rfl ?_
      generalize drRt (S.1 77 0) (w 0) 10 T = T1 at *
      have A64 : ∀ v, G Γ X T1 64 [(0, .ref (Γ.1 67)), (1, .int (nI r)), (2, .long z), (4, .int (nI n)), (5, .int (nI s.now)), (6, .int (nI s.st)), (7, .int (nI i)), (8, .int v)] [.int (nI (drO (W 0) 11 s.x 1)), .int (nI s.now)] := by
        intro v
        have hg := drO_lt (g := W 0) (n := 11) (x := s.x) (y := 1) (by decide)
        have A83 : ∀ u, G Γ X T1 83 [(0, .ref (Γ.1 67)), (1, .int (nI r)), (2, .long z), (4, .int (nI n)), (5, .int u), (6, .int (nI s.st)), (7, .int (nI i)), (8, .int v)] [.int (nI (mNow W s))] := by
          intro u
          obtain ⟨g75, g77⟩ := ff T1 G1
          have x1 : T1.2 67 22 = mX1 W s := x1
          have hch : ∀ j, j < opN s.l.length → chN w s.l.length j ≤ 99 := fun j hj => by unfold chN; split <;> exact w1 1 (by decide) _ (by omega)
          have hcg : ∀ j, j < s.l.length → T1.1 75 (10 + j) = nI (chN w s.l.length j) := fun j hj => by rw [g75]; unfold chN; rw [if_pos hj]; exact w2 1 (by decide) j (Nat.zero_le _) (show j < 11 by omega)
          have h20 : T1.1 75 20 = nI (chN w s.l.length s.l.length) := by rw [g75]; unfold chN; rw [if_neg (by omega)]; exact w2 1 (by decide) 10 (Nat.zero_le _) (by decide)
          obtain ⟨v1, x2, c2, F2⟩ := dr_same (S := T1) s1 z1 x1
          have x2 : (drRt (S.1 77 1) (chN w s.l.length) (opN s.l.length) T1).2 67 22 = mX2 W s := x2
          rw [c1, nI_add2] at c2
          have hm2 := low _ _ F2 _ hm1
          have hT2 := hT1.q F2 (by decide)
          have ho2 : ∀ r' n' tk' nm' gr', r' ≠ r → n' ≤ 40 → RwR S r' n' tk' nm' gr' → RwR (drRt (S.1 77 1) (chN w s.l.length) (opN s.l.length) T1) r' n' tk' nm' gr' := fun r' n' tk' nm' gr' a1 a2 a3 => (ho1 r' n' tk' nm' gr' a1 a2 a3).q F2 (by decide)
          have G2 : Fq [71, 72, 73, 74, 79] [(67, 22), (67, 23), (67, 25)] S (drRt (S.1 77 1) (chN w s.l.length) (opN s.l.length) T1) := G1.tr (F2.mono (by decide) (by decide))
          have cd1 : ∀ m : Int32, ((m = -1 ∧ opN s.l.length = s.l.length) ∨ ∃ q, q < 49 ∧ m = nI q ∧ T1.1 75 q = nI (chN w s.l.length s.l.length) ∧ opN s.l.length = s.l.length + 1) → kX10_draw Γ [.ref (Γ.1 67), .int (nI 1), .int (nI 10), .int (10 + nI s.l.length - 1), .int m] T1 (rI (drVo (S.1 77 1) (chN w s.l.length) (opN s.l.length) (mX1 W s)) (drRt (S.1 77 1) (chN w s.l.length) (opN s.l.length) T1)) := by
            intro m hmm
            have h := c_drawR (Γ := Γ) (S := T1) (p := 1) (a := 10) (len := s.l.length) (n := opN s.l.length) (g := chN w s.l.length) (e := 10 + nI s.l.length - 1) (m := m) (by decide) (e_names hlen) (by omega) hcg hch (by omega) hmm
            rw [x1, g77] at h
            exact h
          have A116 : G Γ X (drRt (S.1 77 1) (chN w s.l.length) (opN s.l.length) T1) 116 [(0, .ref (Γ.1 67)), (1, .int (nI r)), (2, .long z), (4, .int (nI n)), (5, .int (nI (mNow W s))), (6, .int (nI s.st)), (7, .int (nI i)), (8, .int v)] [.int (drVo (S.1 77 1) (chN w s.l.length) (opN s.l.length) (mX1 W s))] := by
            generalize drRt (S.1 77 1) (chN w s.l.length) (opN s.l.length) T1 = T2 at *
            have hD := drO_lt (g := chN W s.l.length) (n := opN s.l.length) (x := mX1 W s) (y := 0) o3
            obtain ⟨k1, k2⟩ := who_ok m1 m2 hD
            have A156 : ∀ y, G Γ X T2 156 [(0, .ref (Γ.1 67)), (1, .int (nI r)), (2, .long z), (4, .int (nI n)), (5, .int (nI (mNow W s))), (6, .int (nI s.st)), (7, .int (nI i)), (8, .int v), (9, .int y)] [.int (nI (mWho W s))] := by
              intro y
              refine g_istore hX dX10_makeRow_156 (by decide) rfl ?_
              refine g_aload_n (i := 0) hX dX10_makeRow_158 rfl rfl ?_
              refine g_iload hX dX10_makeRow_159 rfl ?_
              refine eX10_239 hX ⟨Nat.le_of_ble_eq_true rfl, Nat.le_of_ble_eq_true rfl⟩ (Nat.le_of_ble_eq_true rfl) dX10_makeRow_161 ((c_toFront k1 m1 m2 hm2)) (fun T3 hT3 => ?_)
              obtain ⟨hm3, F3⟩ := hT3
              have G3 : Fq [71, 72, 73, 74, 79] [(67, 22), (67, 23), (67, 25)] S T3 := G2.tr (F3.mono (by decide) (by decide))
              have hm3 : MruL T3 (mWho W s :: s.l.erase (mWho W s)) := hm3
              have hT3 := hT2.q F3 (by decide)
              have ho3 : ∀ r' n' tk' nm' gr', r' ≠ r → n' ≤ 40 → RwR S r' n' tk' nm' gr' → RwR T3 r' n' tk' nm' gr' := fun r' n' tk' nm' gr' a1 a2 a3 => (ho2 r' n' tk' nm' gr' a1 a2 a3).q F3 (by decide)
              have x3 : T3.2 67 22 = mX2 W s := by rw [(F3.s (k := 67) (j := 22) (by decide)).2]; exact x2
              have c3 : T3.1 67 23 = nI (s.c + drC (W 0) 11 + drC (chN W s.l.length) (opN s.l.length)) := by rw [(F3.s (k := 67) (j := 23) (by decide)).1, c2, nI_add2]
              obtain ⟨i75, i77⟩ := ff T3 G3
              have cd2 := c_drawR (Γ := Γ) (S := T3) (p := 2) (a := 31) (len := 9) (n := 9) (g := fun j => w 2 (j + 1)) (e := 39) (m := -1) (by decide) (by decide) (by decide) (fun j hj => by rw [i75, show 31 + j = 30 + (j + 1) by omega]; exact w2 2 (by decide) (j + 1) (show 1 ≤ j + 1 by omega) (show j + 1 < 10 by omega)) (fun j hj => w1 2 (by decide) (j + 1) (by omega)) (by decide) (Or.inl ⟨rfl, rfl⟩)
              rw [x3, i77] at cd2
              obtain ⟨v2, x4, c4, F4⟩ := dr_same (S := T3) s2 z2 x3
              have x4 : (drRt (S.1 77 2) (fun j => w 2 (j + 1)) 9 T3).2 67 22 = mX3 W s := x4
              rw [c3, nI_add2] at c4
              have hm4 := low _ _ F4 _ hm3
              have hT4 := hT3.q F4 (by decide)
              have ho4 : ∀ r' n' tk' nm' gr', r' ≠ r → n' ≤ 40 → RwR S r' n' tk' nm' gr' → RwR (drRt (S.1 77 2) (fun j => w 2 (j + 1)) 9 T3) r' n' tk' nm' gr' := fun r' n' tk' nm' gr' a1 a2 a3 => (ho3 r' n' tk' nm' gr' a1 a2 a3).q F4 (by decide)
              have G4 : Fq [71, 72, 73, 74, 79] [(67, 22), (67, 23), (67, 25)] S (drRt (S.1 77 2) (fun j => w 2 (j + 1)) 9 T3) := G3.tr (F4.mono (by decide) (by decide))
              refine g_aload_n (i := 0) hX dX10_makeRow_164 rfl rfl ?_
              refine g_iconst hX dX10_makeRow_165 ic2 ?_
              refine g_bipush hX dX10_makeRow_166 bp31 ?_
              refine g_bipush hX dX10_makeRow_168 bp39 ?_
              refine g_iconst hX dX10_makeRow_170 icm1 ?_
              refine sX10_232 hX ⟨Nat.le_of_ble_eq_true rfl, Nat.le_of_ble_eq_true rfl⟩ (Nat.le_of_ble_eq_true rfl) dX10_makeRow_171 (cd2) ?_
              refine g_istore hX dX10_makeRow_174 (by decide) rfl ?_
              generalize drRt (S.1 77 2) (fun j => w 2 (j + 1)) 9 T3 = T4 at *
              have hg2 := drO_lt (g := W 2) (n := 11) (x := mX2 W s) (y := 1) (by decide)
              have A216 : ∀ u, G Γ X T4 216 [(0, .ref (Γ.1 67)), (1, .int (nI r)), (2, .long z), (4, .int (nI n)), (5, .int (nI (mNow W s))), (6, .int (nI s.st)), (7, .int (nI i)), (8, .int v), (9, .int y), (10, .int (nI (mWho W s))), (11, .int u)] [.int (nI (mGr W s)), .int (nI (mWho W s)), .int (nI (mNow W s)), .int (nI r), .ref (Γ.1 67)] := by
                intro u
                refine sX10_102 hX ⟨Nat.le_of_ble_eq_true rfl, Nat.le_of_ble_eq_true rfl⟩ (Nat.le_of_ble_eq_true rfl) dX10_makeRow_216 (c_add hr hi4 hT4.1) ?_
                have F5 := addS_F (S := T4) (r := r) (n := i) (t := nI (mNow W s)) (x := nI (mWho W s)) (g := nI (mGr W s))
                have hT5 := hpush T4 hT4
                have ho5 : ∀ r' n' tk' nm' gr', r' ≠ r → n' ≤ 40 → RwR S r' n' tk' nm' gr' → RwR (addS T4 r i (nI (mNow W s)) (nI (mWho W s)) (nI (mGr W s))) r' n' tk' nm' gr' := fun r' n' tk' nm' gr' a1 a2 a3 => (ho4 r' n' tk' nm' gr' a1 a2 a3).other a1 hi4 a2
                generalize addS T4 r i (nI (mNow W s)) (nI (mWho W s)) (nI (mGr W s)) = T5 at *
                have G5 : Fq [71, 72, 73, 74, 79] [(67, 22), (67, 23), (67, 25)] S T5 := G4.tr (F5.mono (by decide) (fun _ q => by cases q))
                have x5 : T5.2 67 22 = mX3 W s := by rw [(F5.s (k := 67) (j := 22) (by decide)).2]; exact x4
                have c5 : T5.1 67 23 = nI (s.c + drC (W 0) 11 + drC (chN W s.l.length) (opN s.l.length) + drC (W 2) 11) := by rw [(F5.s (k := 67) (j := 23) (by decide)).1, c4]
                have hm5 : MruL T5 (mWho W s :: s.l.erase (mWho W s)) := ⟨by rw [F5.r (k := 67) (by decide)]; exact hm4.1, by rw [F5.r (k := 79) (by decide)]; exact hm4.2⟩
                obtain ⟨j75, j77⟩ := ff T5 G5
                have cd3 := c_drawR (Γ := Γ) (S := T5) (p := 3) (a := 40 + 3 * s.st) (len := 3) (n := 3) (g := wkN w s) (e := nI (40 + 3 * s.st) + 2) (m := -1) (by decide) (e_walk (by omega)) (by omega) (fun j hj => by rw [j75, Nat.add_assoc]; exact w2 3 (by decide) (3 * s.st + j) (Nat.zero_le _) (show 3 * s.st + j < 9 by omega)) (fun j hj => w1 3 (by decide) (3 * s.st + j) (by omega)) (by decide) (Or.inl ⟨rfl, rfl⟩)
                rw [x5, j77] at cd3
                obtain ⟨v3, x6, c6, F6⟩ := dr_same (S := T5) s3 z3 x5
                have x6 : (drRt (S.1 77 3) (wkN w s) 3 T5).2 67 22 = mX4 W s := x6
                rw [c5, nI_add2] at c6
                have hm6 := low _ _ F6 _ hm5
                have hT6 := hT5.q F6 (by decide)
                have ho6 : ∀ r' n' tk' nm' gr', r' ≠ r → n' ≤ 40 → RwR S r' n' tk' nm' gr' → RwR (drRt (S.1 77 3) (wkN w s) 3 T5) r' n' tk' nm' gr' := fun r' n' tk' nm' gr' a1 a2 a3 => (ho5 r' n' tk' nm' gr' a1 a2 a3).q F6 (by decide)
                have G6 : Fq [71, 72, 73, 74, 79] [(67, 22), (67, 23), (67, 25)] S (drRt (S.1 77 3) (wkN w s) 3 T5) := G5.tr (F6.mono (by decide) (by decide))
                refine g_aload_n (i := 0) hX dX10_makeRow_219 rfl rfl ?_
                refine g_iconst hX dX10_makeRow_220 ic3 ?_
                refine g_bipush hX dX10_makeRow_221 bp40 ?_
                refine g_iconst hX dX10_makeRow_223 ic3 ?_
                refine g_iload hX dX10_makeRow_224 rfl ?_
                refine g_imul hX dX10_makeRow_226 ?_
                refine g_iadd hX dX10_makeRow_227 ?_
                refine g_bipush hX dX10_makeRow_228 bp40 ?_
                refine g_iconst hX dX10_makeRow_230 ic3 ?_
                refine g_iload hX dX10_makeRow_231 rfl ?_
                refine g_imul hX dX10_makeRow_233 ?_
                refine g_iadd hX dX10_makeRow_234 ?_
                refine g_iconst hX dX10_makeRow_235 ic2 ?_
                refine g_iadd hX dX10_makeRow_236 ?_
                rw [show (40 : Int32) + 3 * nI s.st = nI (40 + 3 * s.st) from by rw [show (3 : Int32) = nI 3 from rfl, nI_mul, show (40 : Int32) = nI 40 from rfl, nI_add2]]
                refine g_iconst hX dX10_makeRow_237 icm1 ?_
                refine sX10_232 hX ⟨Nat.le_of_ble_eq_true rfl, Nat.le_of_ble_eq_true rfl⟩ (Nat.le_of_ble_eq_true rfl) dX10_makeRow_238 (cd3) ?_
                refine g_istore hX dX10_makeRow_241 (by decide) rfl ?_
                generalize drRt (S.1 77 3) (wkN w s) 3 T5 = T6 at *
                have A257 : ∀ q, G Γ X T6 257 [(0, .ref (Γ.1 67)), (1, .int (nI r)), (2, .long z), (4, .int (nI n)), (5, .int (nI (mNow W s))), (6, .int (nI s.st)), (7, .int (nI i)), (8, .int v), (9, .int y), (10, .int (nI (mWho W s))), (11, .int u), (12, .int q)] [.int (nI (mSt W s))] := by
                  intro q
                  refine g_istore hX dX10_makeRow_257 (by decide) rfl ?_
                  refine g_iinc hX dX10_makeRow_259 rfl ic1 (by decide) rfl ?_
                  refine g_goto (tgt := 31) hX dX10_makeRow_262 (by decide) ?_
                  rw [nI_1]
                  exact g_weak (ih2 T6 (by omega) hT6 x6 c6 hm6 ho6 G6) (as_c rfl (as_c rfl (as_c rfl (as_c rfl (as_c rfl (as_c rfl (as_c rfl (as_n))))))))
                rcases v3 with ⟨q1, q2⟩ | ⟨d3, hd, q1, q2⟩
                · rw [q1]
                  have e : mSt W s = s.st := q2 _
                  rw [e] at A257
                  refine g_iload hX dX10_makeRow_243 rfl ?_
                  refine g_ldc hX ccX10_106 dX10_makeRow_245 ?_
                  refine g_icmp_ne (tgt := 255) hX dX10_makeRow_247 (by decide) (fun h9 => absurd (rfl) h9) (fun _ => ?_)
                  refine g_iload hX dX10_makeRow_250 rfl ?_
                  refine g_goto (tgt := 257) hX dX10_makeRow_252 (by decide) ?_
                  exact A257 _
                · rw [q1]
                  have e : mSt W s = d3 := (q2 _).trans (Nat.zero_add _)
                  rw [e] at A257
                  refine g_iload hX dX10_makeRow_243 rfl ?_
                  refine g_ldc hX ccX10_106 dX10_makeRow_245 ?_
                  refine g_icmp_ne (tgt := 255) hX dX10_makeRow_247 (by decide) (fun _ => ?_) (fun h9 => absurd h9 (nI_nN (by omega)))
                  refine g_iload hX dX10_makeRow_255 rfl ?_
                  exact A257 _
              have A191 : ∀ u, G Γ X T4 191 [(0, .ref (Γ.1 67)), (1, .int (nI r)), (2, .long z), (4, .int (nI n)), (5, .int (nI (mNow W s))), (6, .int (nI s.st)), (7, .int (nI i)), (8, .int v), (9, .int y), (10, .int (nI (mWho W s))), (11, .int u)] [.int (nI (drO (W 2) 11 (mX2 W s) 1))] := by
                intro u
                refine g_iload hX dX10_makeRow_191 rfl ?_
                refine g_iadd hX dX10_makeRow_193 ?_
                refine g_istore hX dX10_makeRow_194 (by decide) rfl ?_
                rw [nI_add2]
                by_cases q : drO (W 2) 11 (mX2 W s) 1 + s.st ≤ 9
                · have e : mGr W s = drO (W 2) 11 (mX2 W s) 1 + s.st := Nat.min_eq_left q
                  rw [e] at A216
                  refine g_aload_n (i := 0) hX dX10_makeRow_196 rfl rfl ?_
                  refine g_iload_n (i := 1) hX dX10_makeRow_197 rfl rfl ?_
                  refine g_iload hX dX10_makeRow_198 rfl ?_
                  refine g_iload hX dX10_makeRow_200 rfl ?_
                  refine g_iload hX dX10_makeRow_202 rfl ?_
                  refine g_bipush hX dX10_makeRow_204 bp9 ?_
                  refine g_icmp_le (tgt := 214) hX dX10_makeRow_206 (by decide) (fun _ => ?_) (fun h9 => absurd (nI_le (b := 9) q (by decide)) h9)
                  refine g_iload hX dX10_makeRow_214 rfl ?_
                  exact A216 _
                · have e : mGr W s = 9 := Nat.min_eq_right (by omega)
                  rw [e] at A216
                  refine g_aload_n (i := 0) hX dX10_makeRow_196 rfl rfl ?_
                  refine g_iload_n (i := 1) hX dX10_makeRow_197 rfl rfl ?_
                  refine g_iload hX dX10_makeRow_198 rfl ?_
                  refine g_iload hX dX10_makeRow_200 rfl ?_
                  refine g_iload hX dX10_makeRow_202 rfl ?_
                  refine g_bipush hX dX10_makeRow_204 bp9 ?_
                  refine g_icmp_le (tgt := 214) hX dX10_makeRow_206 (by decide) (fun h9 => absurd h9 ((by rw [i_le, nI_toInt (by omega), show (9 : Int32).toInt = 9 by decide]; omega))) (fun _ => ?_)
                  refine g_bipush hX dX10_makeRow_209 bp9 ?_
                  refine g_goto (tgt := 216) hX dX10_makeRow_211 (by decide) ?_
                  exact A216 _
              rcases v2 with ⟨q1, q2⟩ | ⟨d2, hd, q1, q2⟩
              · rw [q1]
                rw [q2] at A191
                refine g_iload hX dX10_makeRow_176 rfl ?_
                refine g_ldc hX ccX10_106 dX10_makeRow_178 ?_
                refine g_icmp_ne (tgt := 187) hX dX10_makeRow_180 (by decide) (fun h9 => absurd (rfl) h9) (fun _ => ?_)
                refine g_iconst hX dX10_makeRow_183 ic1 ?_
                refine g_goto (tgt := 191) hX dX10_makeRow_184 (by decide) ?_
                exact A191 _
              · rw [q1]
                rw [q2, Nat.add_comm 1 d2, ← nI_1] at A191
                refine g_iload hX dX10_makeRow_176 rfl ?_
                refine g_ldc hX ccX10_106 dX10_makeRow_178 ?_
                refine g_icmp_ne (tgt := 187) hX dX10_makeRow_180 (by decide) (fun _ => ?_) (fun h9 => absurd h9 (nI_nN (by omega)))
                refine g_iload hX dX10_makeRow_187 rfl ?_
                refine g_iconst hX dX10_makeRow_189 ic1 ?_
                refine g_iadd hX dX10_makeRow_190 ?_
                exact A191 _
            have A131 : ∀ y, G Γ X T2 131 [(0, .ref (Γ.1 67)), (1, .int (nI r)), (2, .long z), (4, .int (nI n)), (5, .int (nI (mNow W s))), (6, .int (nI s.st)), (7, .int (nI i)), (8, .int v), (9, .int y)] [.int (nI (drO (chN W s.l.length) (opN s.l.length) (mX1 W s) 0))] := by
              intro y
              have hwho : mWho W s = whoN s.l (drO (chN W s.l.length) (opN s.l.length) (mX1 W s) 0) := rfl
              generalize drO (chN W s.l.length) (opN s.l.length) (mX1 W s) 0 = D at *
              by_cases q : D < s.l.length
              · have hD2 := hm2.2 D _ (List.getElem?_eq_getElem q)
                have e : mWho W s = s.l[D] := by rw [hwho]; unfold whoN; rw [if_pos q, List.getD_eq_getElem?_getD, List.getElem?_eq_getElem q]; rfl
                rw [← e] at hD2
                refine g_istore hX dX10_makeRow_131 (by decide) rfl ?_
                refine g_iload hX dX10_makeRow_133 rfl ?_
                refine g_aload_n (i := 0) hX dX10_makeRow_135 rfl rfl ?_
                refine fX10_229 hX dX10_makeRow_136 ?_
                refine g_icmp_ge (tgt := 152) hX dX10_makeRow_139 (by decide) (fun h9 => absurd h9 ((by rw [hm2.1]; exact nI_ge q (by omega)))) (fun _ => ?_)
                refine g_aload_n (i := 0) hX dX10_makeRow_142 rfl rfl ?_
                refine fX10_44 hX dX10_makeRow_143 ?_
                refine g_iload hX dX10_makeRow_146 rfl ?_
                refine g_ialoadN hX (ia79) rfl ((show D < 10 by omega)) (by first | decide | assumption | omega) dX10_makeRow_148 ?_
                refine g_goto (tgt := 156) hX dX10_makeRow_149 (by decide) ?_
                rw [hD2]
                exact A156 _
              · have e : mWho W s = lnn (msk s.l) 9 0 := by rw [hwho]; unfold whoN; rw [if_neg q]
                rw [e] at A156
                refine g_istore hX dX10_makeRow_131 (by decide) rfl ?_
                refine g_iload hX dX10_makeRow_133 rfl ?_
                refine g_aload_n (i := 0) hX dX10_makeRow_135 rfl rfl ?_
                refine fX10_229 hX dX10_makeRow_136 ?_
                refine g_icmp_ge (tgt := 152) hX dX10_makeRow_139 (by decide) (fun _ => ?_) (fun h9 => absurd ((by rw [hm2.1]; exact nI_le (by omega) (by omega))) h9)
                refine g_aload_n (i := 0) hX dX10_makeRow_152 rfl rfl ?_
                refine sX10_236 hX ⟨Nat.le_of_ble_eq_true rfl, Nat.le_of_ble_eq_true rfl⟩ (Nat.le_of_ble_eq_true rfl) dX10_makeRow_153 (c_leastNew m1 m2 (k2 q) hm2) ?_
                exact A156 _
            rcases v1 with ⟨q1, q2⟩ | ⟨d1, hd, q1, q2⟩
            · rw [q1]
              rw [q2] at A131
              refine g_istore hX dX10_makeRow_116 (by decide) rfl ?_
              refine g_iload hX dX10_makeRow_118 rfl ?_
              refine g_ldc hX ccX10_106 dX10_makeRow_120 ?_
              refine g_icmp_ne (tgt := 129) hX dX10_makeRow_122 (by decide) (fun h9 => absurd (rfl) h9) (fun _ => ?_)
              refine g_iconst hX dX10_makeRow_125 ic0 ?_
              refine g_goto (tgt := 131) hX dX10_makeRow_126 (by decide) ?_
              exact A131 _
            · rw [q1]
              rw [q2, Nat.zero_add] at A131
              refine g_istore hX dX10_makeRow_116 (by decide) rfl ?_
              refine g_iload hX dX10_makeRow_118 rfl ?_
              refine g_ldc hX ccX10_106 dX10_makeRow_120 ?_
              refine g_icmp_ne (tgt := 129) hX dX10_makeRow_122 (by decide) (fun _ => ?_) (fun h9 => absurd h9 (nI_nN (by omega)))
              refine g_iload hX dX10_makeRow_129 rfl ?_
              exact A131 _
          by_cases q : s.l.length < 10
          · refine g_istore hX dX10_makeRow_83 (by decide) rfl ?_
            refine g_aload_n (i := 0) hX dX10_makeRow_85 rfl rfl ?_
            refine g_iconst hX dX10_makeRow_86 ic1 ?_
            refine g_bipush hX dX10_makeRow_87 bp10 ?_
            refine g_bipush hX dX10_makeRow_89 bp10 ?_
            refine g_aload_n (i := 0) hX dX10_makeRow_91 rfl rfl ?_
            refine fX10_229 hX dX10_makeRow_92 ?_
            refine g_iadd hX dX10_makeRow_95 ?_
            refine g_iconst hX dX10_makeRow_96 ic1 ?_
            refine g_isub hX dX10_makeRow_97 ?_
            refine g_aload_n (i := 0) hX dX10_makeRow_98 rfl rfl ?_
            refine fX10_229 hX dX10_makeRow_99 ?_
            refine g_bipush hX dX10_makeRow_102 bp10 ?_
            refine g_icmp_ge (tgt := 112) hX dX10_makeRow_104 (by decide) (fun h9 => absurd h9 ((by rw [hm1.1]; exact nI_ge q (by decide)))) (fun _ => ?_)
            refine g_bipush hX dX10_makeRow_107 bp20 ?_
            refine g_goto (tgt := 113) hX dX10_makeRow_109 (by decide) ?_
            refine sX10_232 hX ⟨Nat.le_of_ble_eq_true rfl, Nat.le_of_ble_eq_true rfl⟩ (Nat.le_of_ble_eq_true rfl) dX10_makeRow_113 ((by rw [hm1.1]; exact cd1 20 (Or.inr ⟨20, by decide, rfl, h20, by omega⟩))) ?_
            exact A116
          · refine g_istore hX dX10_makeRow_83 (by decide) rfl ?_
            refine g_aload_n (i := 0) hX dX10_makeRow_85 rfl rfl ?_
            refine g_iconst hX dX10_makeRow_86 ic1 ?_
            refine g_bipush hX dX10_makeRow_87 bp10 ?_
            refine g_bipush hX dX10_makeRow_89 bp10 ?_
            refine g_aload_n (i := 0) hX dX10_makeRow_91 rfl rfl ?_
            refine fX10_229 hX dX10_makeRow_92 ?_
            refine g_iadd hX dX10_makeRow_95 ?_
            refine g_iconst hX dX10_makeRow_96 ic1 ?_
            refine g_isub hX dX10_makeRow_97 ?_
            refine g_aload_n (i := 0) hX dX10_makeRow_98 rfl rfl ?_
            refine fX10_229 hX dX10_makeRow_99 ?_
            refine g_bipush hX dX10_makeRow_102 bp10 ?_
            refine g_icmp_ge (tgt := 112) hX dX10_makeRow_104 (by decide) (fun _ => ?_) (fun h9 => absurd ((by rw [hm1.1]; exact nI_le (a := 10) (by omega) (by omega))) h9)
            refine g_iconst hX dX10_makeRow_112 icm1 ?_
            refine sX10_232 hX ⟨Nat.le_of_ble_eq_true rfl, Nat.le_of_ble_eq_true rfl⟩ (Nat.le_of_ble_eq_true rfl) dX10_makeRow_113 ((by rw [hm1.1]; exact cd1 (-1) (Or.inl ⟨rfl, by omega⟩))) ?_
            exact A116
        refine g_iadd hX dX10_makeRow_64 ?_
        refine g_istore hX dX10_makeRow_65 (by decide) rfl ?_
        rw [nI_add2]
        by_cases q : s.now + drO (W 0) 11 s.x 1 ≤ 9999
        · have e : mNow W s = s.now + drO (W 0) 11 s.x 1 := Nat.min_eq_left q
          rw [e] at A83
          refine g_iload hX dX10_makeRow_67 rfl ?_
          refine g_sipush hX dX10_makeRow_69 sp9999 ?_
          refine g_icmp_le (tgt := 81) hX dX10_makeRow_72 (by decide) (fun _ => ?_) (fun h9 => absurd (nI_le (b := 9999) q (by decide)) h9)
          refine g_iload hX dX10_makeRow_81 rfl ?_
          exact A83 _
        · have e : mNow W s = 9999 := Nat.min_eq_right (by omega)
          rw [e] at A83
          refine g_iload hX dX10_makeRow_67 rfl ?_
          refine g_sipush hX dX10_makeRow_69 sp9999 ?_
          refine g_icmp_le (tgt := 81) hX dX10_makeRow_72 (by decide) (fun h9 => absurd h9 ((by rw [i_le, nI_toInt (by omega), show (9999 : Int32).toInt = 9999 by decide]; omega))) (fun _ => ?_)
          refine g_sipush hX dX10_makeRow_75 sp9999 ?_
          refine g_goto (tgt := 83) hX dX10_makeRow_78 (by decide) ?_
          exact A83 _
      rcases v0 with ⟨q1, q2⟩ | ⟨d0, hd, q1, q2⟩
      · rw [q1]
        rw [q2] at A64
        refine g_iload hX dX10_makeRow_49 rfl ?_
        refine g_iload hX dX10_makeRow_51 rfl ?_
        refine g_ldc hX ccX10_106 dX10_makeRow_53 ?_
        refine g_icmp_ne (tgt := 62) hX dX10_makeRow_55 (by decide) (fun h9 => absurd (rfl) h9) (fun _ => ?_)
        refine g_iconst hX dX10_makeRow_58 ic1 ?_
        refine g_goto (tgt := 64) hX dX10_makeRow_59 (by decide) ?_
        exact A64 _
      · rw [q1]
        rw [q2, Nat.zero_add] at A64
        refine g_iload hX dX10_makeRow_49 rfl ?_
        refine g_iload hX dX10_makeRow_51 rfl ?_
        refine g_ldc hX ccX10_106 dX10_makeRow_53 ?_
        refine g_icmp_ne (tgt := 62) hX dX10_makeRow_55 (by decide) (fun _ => ?_) (fun h9 => absurd h9 (nI_nN (by omega)))
        refine g_iload hX dX10_makeRow_62 rfl ?_
        exact A64 _
  refine g_aload_n (i := 0) hX dX10_makeRow_0 rfl rfl ?_
  refine fX10_19 hX dX10_makeRow_1 ?_
  refine g_iload_n (i := 1) hX dX10_makeRow_4 rfl rfl ?_
  refine g_iconst hX dX10_makeRow_5 ic0 ?_
  refine g_iastoreN hX (ia71) rfl (hr) (by first | decide | assumption | omega) dX10_makeRow_6 ?_
  refine g_aload_n (i := 0) hX dX10_makeRow_7 rfl rfl ?_
  refine g_lload_n (i := 2) hX dX10_makeRow_8 rfl rfl ?_
  refine pX10_211 hX dX10_makeRow_9 ?_
  refine g_aload_n (i := 0) hX dX10_makeRow_12 rfl rfl ?_
  refine g_iconst hX dX10_makeRow_13 ic0 ?_
  refine pX10_219 hX dX10_makeRow_14 ?_
  refine g_aload_n (i := 0) hX dX10_makeRow_17 rfl rfl ?_
  refine g_iconst hX dX10_makeRow_18 ic0 ?_
  refine pX10_229 hX dX10_makeRow_19 ?_
  refine g_iconst hX dX10_makeRow_22 ic0 ?_
  refine g_istore hX dX10_makeRow_23 (by decide) rfl ?_
  refine g_iconst hX dX10_makeRow_25 ic0 ?_
  refine g_istore hX dX10_makeRow_26 (by decide) rfl ?_
  refine g_iconst hX dX10_makeRow_28 ic0 ?_
  refine g_istore hX dX10_makeRow_29 (by decide) rfl ?_
  refine loop n 0 _ (by omega) ?_ rfl rfl ⟨rfl, fun j x h => by cases h⟩ ?_ ((((Fq.rf.R (by decide)).J (by decide)).I (by decide)).I (by decide))
  · exact (RwR.zero (S := S) (r := r)).q (K := []) (O := [(67, 22), (67, 23), (67, 25)]) (((Fq.rf.J (by decide)).I (by decide)).I (by decide)) (by decide)
  · intro r' n' tk' nm' gr' a1 a2 a3
    exact (a3.keep71 (x := 0) a1).q (K := []) (O := [(67, 22), (67, 23), (67, 25)]) (((Fq.rf.J (by decide)).I (by decide)).I (by decide)) (by decide)
