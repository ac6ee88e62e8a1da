/-! promise 18: unlike; how great the numbers are -/
theorem TrOk.half {n f : Nat} {tk gr : Nat → Int32} (h : TrOk n tk gr) (hf : f < 2) : TrOk (hfN n f) (fun i => tk (f + 2 * i)) (fun i => gr (f + 2 * i)) := by
  have hd : ∀ i, i < hfN n f → f + 2 * i < n := fun i hi => by unfold hfN at hi; omega
  refine ⟨fun i hi => h.1 _ (hd i hi), fun i hi => ?_⟩
  have h2 := hd (i + 1) hi
  have e1 := h.2 (f + 2 * i) (by omega)
  have e2 := h.2 (f + 2 * i + 1) (by omega)
  show (tk (f + 2 * i)).toInt ≤ (tk (f + 2 * (i + 1))).toInt
  rw [show f + 2 * (i + 1) = f + 2 * i + 1 + 1 by omega]
  omega
theorem gap_bd {n i : Nat} {tk gr : Nat → Int32} (h : TrOk n tk gr) (hi : i < n) : 0 ≤ (gapN tk i).toInt ∧ (gapN tk i).toInt ≤ 9999 := by
  unfold gapN
  by_cases e : i = 0
  · rw [if_pos e]
    have := h.1 0 (by omega)
    omega
  · rw [if_neg e]
    have h1 := h.1 i hi
    have h2 := h.1 (i - 1) (by omega)
    have h3 := h.2 (i - 1) (by omega)
    rw [show i - 1 + 1 = i by omega] at h3
    rw [i_sub (by omega) (by omega)]
    omega
theorem mxI_bd (x y : Int32) : x.toInt ≤ (mxI x y).toInt ∧ y.toInt ≤ (mxI x y).toInt ∧ ((mxI x y) = x ∨ (mxI x y) = y) := by
  unfold mxI
  by_cases h : x < y
  · rw [if_pos h]; rw [i_lt] at h; exact ⟨by omega, by omega, Or.inr rfl⟩
  · rw [if_neg h]; rw [i_lt] at h; exact ⟨by omega, by omega, Or.inl rfl⟩
theorem hs_bd {n c k : Nat} {tk : Nat → Int32} {nm : Nat → Nat} {gr : Nat → Int32} {h m : Int32} (tok : TrOk n tk gr) (hh : 1 ≤ h.toInt ∧ h.toInt ≤ 9) (hm : 0 ≤ m.toInt ∧ m.toInt ≤ 99) (hn : n ≤ 40) : ∀ i, i ≤ n → ∀ s, hsN tk nm gr c h m k i = s →
    (0 ≤ s.f.toInt ∧ s.f.toInt ≤ 10116 * (i : Int)) ∧ (∀ j, j < i → 0 ≤ (s.e j).toInt ∧ (s.e j).toInt ≤ 10116 * (i : Int)) ∧ (0 ≤ s.b.toInt ∧ s.b.toInt ≤ 420000 * (i : Int)) ∧ (0 ≤ s.w.toInt ∧ s.w.toInt ≤ 420000) ∧ (0 ≤ s.a.toInt ∧ s.a.toInt ≤ (i : Int)) ∧ (0 ≤ s.g.toInt ∧ s.g.toInt ≤ (i : Int)) := by
  have z0 : (0 : Int32).toInt = 0 := by decide
  have z1 : (1 : Int32).toInt = 1 := by decide
  intro i
  induction i with
  | zero =>
    rintro _ s rfl
    refine ⟨?_, fun j hj => absurd hj (by omega), ?_, ?_, ?_, ?_⟩ <;> (show 0 ≤ (0 : Int32).toInt ∧ (0 : Int32).toInt ≤ _; rw [z0]; omega)
  | succ i ih =>
    rintro hi t rfl
    obtain ⟨f1, e1, b1, w1, a1, g1⟩ := ih (by omega) _ rfl
    rw [show hsN tk nm gr c h m k (i + 1) = hsS tk nm gr c h m k i (hsN tk nm gr c h m k i) from rfl]
    generalize hsN tk nm gr c h m k i = s at *
    have ti := tok.1 i (by omega)
    have gi := gap_bd tok (show i < n by omega)
    have cm : 0 ≤ (comN tk k s.e i).toInt ∧ (comN tk k s.e i).toInt ≤ 10116 * (i : Int) + 9999 := by
      unfold comN
      by_cases q : 0 < k ∧ k ≤ i
      · have ek := e1 (i - k) (by omega)
        rw [if_pos q, i_add (by omega) (by omega)]
        omega
      · rw [if_neg q]; omega
    have bg : (comN tk k s.e i).toInt ≤ (begN tk k i s).toInt ∧ (begN tk k i s).toInt ≤ 10116 * (i : Int) + 9999 := by
      obtain ⟨m1, m2, m3⟩ := mxI_bd (comN tk k s.e i) s.f
      unfold begN
      rcases m3 with e | e
      · rw [e]; omega
      · rw [e] at m1 ⊢; omega
    have lt : 0 ≤ (latN tk k i s).toInt ∧ (latN tk k i s).toInt ≤ 420000 := by
      unfold latN
      rw [i_sub (by omega) (by omega)]
      omega
    have tt : 0 ≤ (tksN gr h m (hitB nm c i) i).toInt ∧ (tksN gr h m (hitB nm c i) i).toInt ≤ 117 := by
      unfold tksN
      by_cases q : hitB nm c i = true
      · rw [if_pos q]; omega
      · have e2 : (h + m).toInt = h.toInt + m.toInt := i_add (by omega) (by omega)
        rw [if_neg q, i_add (by omega) (by omega), e2]; omega
    have en : 0 ≤ (endN tk nm gr c h m k i s).toInt ∧ (endN tk nm gr c h m k i s).toInt ≤ 10116 * ((i : Int) + 1) := by
      unfold endN
      rw [i_add (by omega) (by omega)]; omega
    refine ⟨?_, ?_, ?_, ?_, ?_, ?_⟩
    · show 0 ≤ (endN tk nm gr c h m k i s).toInt ∧ (endN tk nm gr c h m k i s).toInt ≤ _
      omega
    · intro j hj
      show 0 ≤ (upd s.e i (endN tk nm gr c h m k i s) j).toInt ∧ (upd s.e i (endN tk nm gr c h m k i s) j).toInt ≤ _
      by_cases e : j = i
      · subst e; rw [upd_self]; omega
      · rw [upd_ne _ _ e]; have := e1 j (by omega); omega
    · show 0 ≤ (s.b + latN tk k i s).toInt ∧ (s.b + latN tk k i s).toInt ≤ _
      rw [i_add (by omega) (by omega)]; omega
    · show 0 ≤ (mxI s.w (latN tk k i s)).toInt ∧ (mxI s.w (latN tk k i s)).toInt ≤ _
      obtain ⟨m1, m2, m3⟩ := mxI_bd s.w (latN tk k i s)
      rcases m3 with e | e <;> (rw [e]; omega)
    · show 0 ≤ (s.a + (if hitB nm c i = true then 1 else 0)).toInt ∧ (s.a + (if hitB nm c i = true then 1 else 0)).toInt ≤ _
      split
      · rw [i_add (by omega) (by omega)]; omega
      · rw [i_add (by omega) (by omega)]; omega
    · show 0 ≤ (s.g + (if hitB nm c i = true then 0 else if c ≤ (mru nm i).length then 1 else 0)).toInt ∧ (s.g + (if hitB nm c i = true then 0 else if c ≤ (mru nm i).length then 1 else 0)).toInt ≤ _
      split
      · rw [i_add (by omega) (by omega)]; omega
      · split
        · rw [i_add (by omega) (by omega)]; omega
        · rw [i_add (by omega) (by omega)]; omega
/-- the row's six numbers -/
def sixN (tk : Nat → Int32) (nm : Nat → Nat) (gr : Nat → Int32) (c : Nat) (h m : Int32) (k n w : Nat) : Int32 := numV (hsN tk nm gr c h m k n) (mru nm n).length w
theorem six_bd {n c k : Nat} {tk : Nat → Int32} {nm : Nat → Nat} {gr : Nat → Int32} {h m : Int32} (tok : TrOk n tk gr) (hh : 1 ≤ h.toInt ∧ h.toInt ≤ 9) (hm : 0 ≤ m.toInt ∧ m.toInt ≤ 99) (hn : n ≤ 40) (hnm : ∀ i, i < n → nm i < 10) (w : Nat) : 0 ≤ (sixN tk nm gr c h m k n w).toInt := by
  obtain ⟨f1, e1, b1, w1, a1, g1⟩ := hs_bd (nm := nm) (c := c) (k := k) tok hh hm hn n (Nat.le_refl n) _ rfl
  have hl := mru_len hnm
  unfold sixN numV
  split
  · exact a1.1
  · split
    · exact b1.1
    · split
      · exact w1.1
      · split
        · exact f1.1
        · split
          · rw [nI_toInt (by omega)]; omega
          · exact g1.1
def apI (x y : Int32) : Int32 := if x < y then y - x else x - y
theorem ap_abs {x y : Int32} (hx : 0 ≤ x.toInt) (hy : 0 ≤ y.toInt) : (if 0 ≤ x - y then x - y else 0 - (x - y)) = apI x y := by
  have h1 := i_hi x
  have h2 := i_hi y
  have z0 : (0 : Int32).toInt = 0 := by decide
  have e : (x - y).toInt = x.toInt - y.toInt := i_sub (by omega) (by omega)
  unfold apI
  by_cases q : x < y
  · have q2 := q
    rw [i_lt] at q2
    have e3 : (y - x).toInt = y.toInt - x.toInt := i_sub (by omega) (by omega)
    have e4 : (0 - (x - y)).toInt = (0 : Int32).toInt - (x - y).toInt := i_sub (by omega) (by omega)
    rw [if_pos q, if_neg (by rw [i_le, e, z0]; omega), i_eq, e3, e4, e, z0]
    omega
  · have q2 := q
    rw [i_lt] at q2
    rw [if_neg q, if_pos (by rw [i_le, e, z0]; omega)]
def unB (vX vT vE vO : Nat → Int32) (w : Nat) : Bool := decide (¬ apI (vX w) (vT w) ≤ apI (vE w) (vO w))
def bN (u : Nat → Bool) : Nat → Nat
  | 0 => 0
  | i + 1 => if u i = true then bN u i ||| 2 ^ i else bN u i
theorem bN_lt (u : Nat → Bool) : ∀ i, i ≤ 6 → bN u i < 1024 := by
  intro i
  induction i with
  | zero => intro _; exact (by decide : (0 : Nat) < 1024)
  | succ i ih =>
    intro hi
    rw [bN]
    split
    · exact (or_name _ (ih (by omega)) i (by omega)).2
    · exact ih (by omega)
theorem c_stepTrue {Γ : GG} {S : St} {n c k : Nat} {tk : Nat → Int32} {nm : Nat → Nat} {gr : Nat → Int32} (a : RwC S 16 n tk nm gr) (hk : k < 5) (hc : S.1 60 0 = nI c) (hc6 : c ≤ 6) :
    kX2_stepTrue Γ [.ref (Γ.1 62), .ref (Γ.1 16), .ref (Γ.1 60), .int (nI k)] S (eV (fun S1 => (∀ w, w < 6 → S1.1 44 w = sixN tk nm gr c (S.1 60 1) (S.1 60 2) k n w) ∧ (∀ w, w < 6 → S1.1 45 w = sixN (fun i => tk (0 + 2 * i)) (fun i => nm (0 + 2 * i)) (fun i => gr (0 + 2 * i)) c (S.1 60 1) (S.1 60 2) k (hfN n 0) w) ∧ (∀ w, w < 6 → S1.1 46 w = sixN (fun i => tk (1 + 2 * i)) (fun i => nm (1 + 2 * i)) (fun i => gr (1 + 2 * i)) c (S.1 60 1) (S.1 60 2) k (hfN n 1) w) ∧ Fq [31, 32, 33, 34, 35, 44, 45, 46, 61] [] S S1)) := by
  refine oX2_stepTrue (fun X hX hE => ?_)
  have h1 := c_house (Γ := Γ) ir16 a ia44 (fun x hx => by omega) (by omega) hk hc hc6
  refine g_aload_n (i := 2) hX dX2_stepTrue_0 rfl rfl ?_
  refine g_aload_n (i := 1) hX dX2_stepTrue_1 rfl rfl ?_
  refine g_iload_n (i := 3) hX dX2_stepTrue_2 rfl rfl ?_
  refine g_aload_n (i := 0) hX dX2_stepTrue_3 rfl rfl ?_
  refine fX2_18 hX dX2_stepTrue_4 ?_
  refine eX2_31 hX ⟨Nat.le_of_ble_eq_true rfl, Nat.le_of_ble_eq_true rfl⟩ (Nat.le_of_ble_eq_true rfl) dX2_stepTrue_7 (h1) (fun T1 t1 => ?_)
  have F1 : Fq [31, 32, 33, 34, 35, 44, 45, 46, 61] [] S T1 := t1.2.mono (by decide) (fun _ z => by cases z)
  refine g_aload_n (i := 0) hX dX2_stepTrue_10 rfl rfl ?_
  refine fX2_12 hX dX2_stepTrue_11 ?_
  refine g_aload_n (i := 1) hX dX2_stepTrue_14 rfl rfl ?_
  refine g_iconst hX dX2_stepTrue_15 ic0 ?_
  refine eX2_41 hX ir31 ⟨Nat.le_of_ble_eq_true rfl, Nat.le_of_ble_eq_true rfl⟩ (Nat.le_of_ble_eq_true rfl) dX2_stepTrue_16 ((c_becomeHalf (f := 0) ir31 ir16 (a.q F1 (by decide)) (by decide) (by decide))) (fun T2 t2 => ?_)
  have F2 : Fq [31, 32, 33, 34, 35, 44, 45, 46, 61] [] S T2 := F1.tr (t2.2.mono (by decide) (fun _ z => by cases z))
  have h3 := c_house (Γ := Γ) (k := k) (c := c) ir31 t2.1 ia45 (fun x hx => by omega) (by omega) hk (by rw [F2.r (k := 60) (by decide)]; exact hc) hc6
  rw [F2.r (k := 60) (by decide)] at h3
  refine g_aload_n (i := 2) hX dX2_stepTrue_19 rfl rfl ?_
  refine g_aload_n (i := 0) hX dX2_stepTrue_20 rfl rfl ?_
  refine fX2_12 hX dX2_stepTrue_21 ?_
  refine g_iload_n (i := 3) hX dX2_stepTrue_24 rfl rfl ?_
  refine g_aload_n (i := 0) hX dX2_stepTrue_25 rfl rfl ?_
  refine fX2_22 hX dX2_stepTrue_26 ?_
  refine eX2_31 hX ⟨Nat.le_of_ble_eq_true rfl, Nat.le_of_ble_eq_true rfl⟩ (Nat.le_of_ble_eq_true rfl) dX2_stepTrue_29 (h3) (fun T3 t3 => ?_)
  have F3 : Fq [31, 32, 33, 34, 35, 44, 45, 46, 61] [] S T3 := F2.tr (t3.2.mono (by decide) (fun _ z => by cases z))
  refine g_aload_n (i := 0) hX dX2_stepTrue_32 rfl rfl ?_
  refine fX2_12 hX dX2_stepTrue_33 ?_
  refine g_aload_n (i := 1) hX dX2_stepTrue_36 rfl rfl ?_
  refine g_iconst hX dX2_stepTrue_37 ic1 ?_
  refine eX2_41 hX ir31 ⟨Nat.le_of_ble_eq_true rfl, Nat.le_of_ble_eq_true rfl⟩ (Nat.le_of_ble_eq_true rfl) dX2_stepTrue_38 ((c_becomeHalf (f := 1) ir31 ir16 (a.q F3 (by decide)) (by decide) (by decide))) (fun T4 t4 => ?_)
  have F4 : Fq [31, 32, 33, 34, 35, 44, 45, 46, 61] [] S T4 := F3.tr (t4.2.mono (by decide) (fun _ z => by cases z))
  have h5 := c_house (Γ := Γ) (k := k) (c := c) ir31 t4.1 ia46 (fun x hx => by omega) (by omega) hk (by rw [F4.r (k := 60) (by decide)]; exact hc) hc6
  rw [F4.r (k := 60) (by decide)] at h5
  refine g_aload_n (i := 2) hX dX2_stepTrue_41 rfl rfl ?_
  refine g_aload_n (i := 0) hX dX2_stepTrue_42 rfl rfl ?_
  refine fX2_12 hX dX2_stepTrue_43 ?_
  refine g_iload_n (i := 3) hX dX2_stepTrue_46 rfl rfl ?_
  refine g_aload_n (i := 0) hX dX2_stepTrue_47 rfl rfl ?_
  refine fX2_25 hX dX2_stepTrue_48 ?_
  refine eX2_31 hX ⟨Nat.le_of_ble_eq_true rfl, Nat.le_of_ble_eq_true rfl⟩ (Nat.le_of_ble_eq_true rfl) dX2_stepTrue_51 (h5) (fun T5 t5 => ?_)
  refine g_vret (st := []) hX hE rfl dX2_stepTrue_54 (⟨rfl, fun w hw => ?_, fun w hw => ?_, fun w hw => ?_, F4.tr (t5.2.mono (by decide) (fun _ z => by cases z))⟩)
  · rw [t5.2.r (k := 44) (by decide), t4.2.r (k := 44) (by decide), t3.2.r (k := 44) (by decide), t2.2.r (k := 44) (by decide)]
    exact t1.1.at hw
  · rw [t5.2.r (k := 45) (by decide), t4.2.r (k := 45) (by decide)]
    exact t3.1.at hw
  · exact t5.1.at hw
theorem c_unlikeIn {Γ : GG} {S : St} {b n c k : Nat} {tk : Nat → Int32} {nm : Nat → Nat} {gr : Nat → Int32} {vX vT vE vO : Nat → Int32} (hb : IsRow b) (hr : RwC S b n tk nm gr) (hb6 : b + 5 ≤ 44) (hk : k < 5) (hc : S.1 60 0 = nI c) (hc6 : c ≤ 6) (hX6 : ∀ w, w < 6 → vX w = sixN tk nm gr c (S.1 60 1) (S.1 60 2) k n w)
    (hT6 : ∀ w, w < 6 → S.1 44 w = vT w) (hE6 : ∀ w, w < 6 → S.1 45 w = vE w) (hO6 : ∀ w, w < 6 → S.1 46 w = vO w) (hp : ∀ w, w < 6 → 0 ≤ (vX w).toInt ∧ 0 ≤ (vT w).toInt ∧ 0 ≤ (vE w).toInt ∧ 0 ≤ (vO w).toInt) :
    kX2_unlikeIn Γ [.ref (Γ.1 62), .ref (Γ.1 b), .ref (Γ.1 60), .int (nI k)] S (eI (fun r1 S1 => r1 = nI (bN (unB vX vT vE vO) 6) ∧ Fq [61, 47] [] S S1)) := by
  refine oX2_unlikeIn (fun X hX hE => ?_)
  have h1 := c_house (Γ := Γ) hb hr ia47 (fun x hx => by omega) (by omega) hk hc hc6
  refine g_aload_n (i := 2) hX dX2_unlikeIn_0 rfl rfl ?_
  refine g_aload_n (i := 1) hX dX2_unlikeIn_1 rfl rfl ?_
  refine g_iload_n (i := 3) hX dX2_unlikeIn_2 rfl rfl ?_
  refine g_aload_n (i := 0) hX dX2_unlikeIn_3 rfl rfl ?_
  refine fX2_28 hX dX2_unlikeIn_4 ?_
  refine eX2_31 hX ⟨Nat.le_of_ble_eq_true rfl, Nat.le_of_ble_eq_true rfl⟩ (Nat.le_of_ble_eq_true rfl) dX2_unlikeIn_7 (h1) (fun T hT => ?_)
  refine g_iconst hX dX2_unlikeIn_10 ic0 ?_
  refine g_istore hX dX2_unlikeIn_11 (by decide) rfl ?_
  refine g_iconst hX dX2_unlikeIn_13 ic0 ?_
  refine g_istore hX dX2_unlikeIn_14 (by decide) rfl ?_
  have e44 : T.1 44 = S.1 44 := hT.2.r (by decide)
  have e45 : T.1 45 = S.1 45 := hT.2.r (by decide)
  have e46 : T.1 46 = S.1 46 := hT.2.r (by decide)
  have loop : ∀ d i, i + d = 6 → G Γ X T 16 [(0, .ref (Γ.1 62)), (1, .ref (Γ.1 b)), (2, .ref (Γ.1 60)), (3, .int (nI k)), (4, .int (nI (bN (unB vX vT vE vO) i))), (5, .int (nI i))] [] := by
    intro d
    induction d with
    | zero =>
      intro i hi
      obtain rfl : i = 6 := by omega
      refine g_iload hX dX2_unlikeIn_16 rfl ?_
      refine g_bipush hX dX2_unlikeIn_18 bp6 ?_
      refine g_icmp_ge (tgt := 81) hX dX2_unlikeIn_20 (by decide) (fun _ => ?_) (fun h9 => absurd ((by decide)) h9)
      refine g_iload hX dX2_unlikeIn_81 rfl ?_
      refine g_iret (st := []) hX hE rfl dX2_unlikeIn_83 (⟨_, rfl, rfl, hT.2⟩)
    | succ d ih =>
      intro i hi
      have hi6 : i < 6 := by omega
      obtain ⟨p1, p2, p3, p4⟩ := hp i hi6
      have ev : T.1 47 i = vX i := by rw [hX6 i hi6]; exact hT.1.at hi6
      have a1 : (if 0 ≤ T.1 45 i - T.1 46 i then T.1 45 i - T.1 46 i else 0 - (T.1 45 i - T.1 46 i)) = apI (vE i) (vO i) := by rw [e45, e46, hE6 i hi6, hO6 i hi6]; exact ap_abs p3 p4
      have a2 : (if 0 ≤ T.1 47 i - T.1 44 i then T.1 47 i - T.1 44 i else 0 - (T.1 47 i - T.1 44 i)) = apI (vX i) (vT i) := by rw [e44, ev, hT6 i hi6]; exact ap_abs p1 p2
      have ih2 := ih (i + 1) (by omega)
      rw [bN] at ih2
      refine g_iload hX dX2_unlikeIn_16 rfl ?_
      refine g_bipush hX dX2_unlikeIn_18 bp6 ?_
      refine g_icmp_ge (tgt := 81) hX dX2_unlikeIn_20 (by decide) (fun h9 => absurd h9 (nI_ge hi6 (by decide))) (fun _ => ?_)
      refine g_aload_n (i := 0) hX dX2_unlikeIn_23 rfl rfl ?_
      refine fX2_22 hX dX2_unlikeIn_24 ?_
      refine g_iload hX dX2_unlikeIn_27 rfl ?_
      refine g_ialoadN hX (ia45) rfl (hi6) (by first | decide | assumption | omega) dX2_unlikeIn_29 ?_
      refine g_aload_n (i := 0) hX dX2_unlikeIn_30 rfl rfl ?_
      refine fX2_25 hX dX2_unlikeIn_31 ?_
      refine g_iload hX dX2_unlikeIn_34 rfl ?_
      refine g_ialoadN hX (ia46) rfl (hi6) (by first | decide | assumption | omega) dX2_unlikeIn_36 ?_
      refine g_isub hX dX2_unlikeIn_37 ?_
      refine sX2_45 hX (Nat.le_of_ble_eq_true rfl) (Nat.le_of_ble_eq_true rfl) dX2_unlikeIn_38 ?_
      rw [a1]
      refine g_istore hX dX2_unlikeIn_41 (by decide) rfl ?_
      refine g_aload_n (i := 0) hX dX2_unlikeIn_43 rfl rfl ?_
      refine fX2_28 hX dX2_unlikeIn_44 ?_
      refine g_iload hX dX2_unlikeIn_47 rfl ?_
      refine g_ialoadN hX (ia47) rfl (hi6) (by first | decide | assumption | omega) dX2_unlikeIn_49 ?_
      refine g_aload_n (i := 0) hX dX2_unlikeIn_50 rfl rfl ?_
      refine fX2_18 hX dX2_unlikeIn_51 ?_
      refine g_iload hX dX2_unlikeIn_54 rfl ?_
      refine g_ialoadN hX (ia44) rfl (hi6) (by first | decide | assumption | omega) dX2_unlikeIn_56 ?_
      refine g_isub hX dX2_unlikeIn_57 ?_
      refine sX2_45 hX (Nat.le_of_ble_eq_true rfl) (Nat.le_of_ble_eq_true rfl) dX2_unlikeIn_58 ?_
      rw [a2]
      by_cases q : apI (vX i) (vT i) ≤ apI (vE i) (vO i)
      · rw [if_neg (by unfold unB; rw [decide_eq_true_iff]; exact fun z => z q)] at ih2
        refine g_iload hX dX2_unlikeIn_61 rfl ?_
        refine g_icmp_le (tgt := 75) hX dX2_unlikeIn_63 (by decide) (fun _ => ?_) (fun h9 => absurd (q) h9)
        refine g_iinc hX dX2_unlikeIn_75 rfl ic1 (by decide) rfl ?_
        refine g_goto (tgt := 16) hX dX2_unlikeIn_78 (by decide) ?_
        rw [nI_1]
        exact g_weak ih2 (as_c rfl (as_c rfl (as_c rfl (as_c rfl (as_c rfl (as_c rfl (as_n)))))))
      · rw [if_pos (by unfold unB; rw [decide_eq_true_iff]; exact q), ← (or_name _ (bN_lt _ i (by omega)) i (by omega)).1, ← shl_name i (by omega)] at ih2
        refine g_iload hX dX2_unlikeIn_61 rfl ?_
        refine g_icmp_le (tgt := 75) hX dX2_unlikeIn_63 (by decide) (fun h9 => absurd h9 (q)) (fun _ => ?_)
        refine g_iload hX dX2_unlikeIn_66 rfl ?_
        refine g_iconst hX dX2_unlikeIn_68 ic1 ?_
        refine g_iload hX dX2_unlikeIn_69 rfl ?_
        refine g_ishl hX dX2_unlikeIn_71 ?_
        refine g_ior hX dX2_unlikeIn_72 ?_
        refine g_istore hX dX2_unlikeIn_73 (by decide) rfl ?_
        refine g_iinc hX dX2_unlikeIn_75 rfl ic1 (by decide) rfl ?_
        refine g_goto (tgt := 16) hX dX2_unlikeIn_78 (by decide) ?_
        rw [nI_1]
        exact g_weak ih2 (as_c rfl (as_c rfl (as_c rfl (as_c rfl (as_c rfl (as_c rfl (as_n)))))))
  exact loop 6 0 (by omega)
theorem c_keep {Γ : GG} {S : St} {q : Nat} (ha : IsArr q 6) (hq : 81 ≠ q) : kX10_keep Γ [.ref (Γ.1 67), .ref (Γ.1 q)] S (eV (fun S1 => (∀ w, w < 6 → S1.1 q w = S.1 81 w) ∧ Fq [q] [] S S1)) := by
  refine oX10_keep (fun X hX hE => ?_)
  have loop : ∀ d i T, i + d = 6 → (∀ w, w < i → T.1 q w = S.1 81 w) → Fq [q] [] S T → G Γ X T 2 [(0, .ref (Γ.1 67)), (1, .ref (Γ.1 q)), (2, .int (nI i))] [] := by
    intro d
    induction d with
    | zero =>
      intro i T hi h hF
      obtain rfl : i = 6 := by omega
      refine g_iload_n (i := 2) hX dX10_keep_2 rfl rfl ?_
      refine g_bipush hX dX10_keep_3 bp6 ?_
      refine g_icmp_ge (tgt := 23) hX dX10_keep_5 (by decide) (fun _ => ?_) (fun h9 => absurd ((by decide)) h9)
      refine g_vret (st := []) hX hE rfl dX10_keep_23 (⟨rfl, h, hF⟩)
    | succ d ih =>
      intro i T hi h hF
      have e81 : T.1 81 = S.1 81 := hF.row (by simp only [List.mem_cons, List.not_mem_nil, or_false]; exact hq) (fun _ z => by cases z)
      refine g_iload_n (i := 2) hX dX10_keep_2 rfl rfl ?_
      refine g_bipush hX dX10_keep_3 bp6 ?_
      refine g_icmp_ge (tgt := 23) hX dX10_keep_5 (by decide) (fun h9 => absurd h9 (nI_ge (show i < 6 by omega) (by decide))) (fun _ => ?_)
      refine g_aload_n (i := 1) hX dX10_keep_8 rfl rfl ?_
      refine g_iload_n (i := 2) hX dX10_keep_9 rfl rfl ?_
      refine g_aload_n (i := 0) hX dX10_keep_10 rfl rfl ?_
      refine fX10_60 hX dX10_keep_11 ?_
      refine g_iload_n (i := 2) hX dX10_keep_14 rfl rfl ?_
      refine g_ialoadN hX (ia81) rfl ((show i < 6 by omega)) (by first | decide | assumption | omega) dX10_keep_15 ?_
      refine g_iastoreN hX (ha) rfl ((show i < 6 by omega)) (by first | decide | assumption | omega) dX10_keep_16 ?_
      refine g_iinc hX dX10_keep_17 rfl ic1 (by decide) rfl ?_
      refine g_goto (tgt := 2) hX dX10_keep_20 (by decide) ?_
      rw [nI_1]
      refine ih (i + 1) _ (by omega) (fun w hw => ?_) (hF.R (by simp))
      rw [pR_self]
      by_cases e : w = i
      · subst e; rw [upd_self, e81]
      · rw [upd_ne _ _ e]; exact h w (by omega)
  refine g_iconst hX dX10_keep_0 ic0 ?_
  refine g_istore_n (i := 2) hX dX10_keep_1 rfl (by decide) rfl ?_
  exact loop 6 0 S (by omega) (fun w hw => absurd hw (by omega)) Fq.rf
theorem c_apart {Γ : GG} {S : St} {x y : Int32} : kX10_apart Γ [.int x, .int y] S (rI (apI x y) S) := by
  refine oX10_apart (fun X hX hE => ?_)
  by_cases q : x < y
  · rw [show apI x y = y - x from if_pos q] at hE
    refine g_iload_n (i := 0) hX dX10_apart_0 rfl rfl ?_
    refine g_iload_n (i := 1) hX dX10_apart_1 rfl rfl ?_
    refine g_icmp_ge (tgt := 11) hX dX10_apart_2 (by decide) (fun h9 => absurd h9 ((by rw [i_le]; rw [i_lt] at q; omega))) (fun _ => ?_)
    refine g_iload_n (i := 1) hX dX10_apart_5 rfl rfl ?_
    refine g_iload_n (i := 0) hX dX10_apart_6 rfl rfl ?_
    refine g_isub hX dX10_apart_7 ?_
    refine g_goto (tgt := 14) hX dX10_apart_8 (by decide) ?_
    refine g_iret (st := []) hX hE rfl dX10_apart_14 (⟨rfl, rfl⟩)
  · rw [show apI x y = x - y from if_neg q] at hE
    refine g_iload_n (i := 0) hX dX10_apart_0 rfl rfl ?_
    refine g_iload_n (i := 1) hX dX10_apart_1 rfl rfl ?_
    refine g_icmp_ge (tgt := 11) hX dX10_apart_2 (by decide) (fun _ => ?_) (fun h9 => absurd ((by rw [i_le]; rw [i_lt] at q; omega)) h9)
    refine g_iload_n (i := 0) hX dX10_apart_11 rfl rfl ?_
    refine g_iload_n (i := 1) hX dX10_apart_12 rfl rfl ?_
    refine g_isub hX dX10_apart_13 ?_
    refine g_iret (st := []) hX hE rfl dX10_apart_14 (⟨rfl, rfl⟩)
theorem c_likeSet {Γ : GG} {S : St} {r n n0 c k : Nat} {tk tk0 : Nat → Int32} {nm nm0 : Nat → Nat} {gr gr0 : Nat → Int32} {vX vT vE vO : Nat → Int32} (hr : r < 5) (hr2 : r ≠ 2) (hr3 : r ≠ 3) (hn : n ≤ 40) (hn0 : n0 ≤ 40) (rr : RwR S 0 n tk nm gr) (rr0 : RwR S r n0 tk0 nm0 gr0) (hnm : ∀ i, i < n → nm i < 10) (hnm0 : ∀ i, i < n0 → nm0 i < 10) (hk : k < 5) (hc : S.1 67 28 = nI c) (hc6 : c ≤ 6)
    (hX6 : ∀ w, w < 6 → vX w = sixN tk0 nm0 gr0 c (S.1 67 29) (S.1 67 30) k n0 w) (hT6 : ∀ w, w < 6 → vT w = sixN tk nm gr c (S.1 67 29) (S.1 67 30) k n w)
    (hE6 : ∀ w, w < 6 → vE w = sixN (fun i => tk (0 + 2 * i)) (fun i => nm (0 + 2 * i)) (fun i => gr (0 + 2 * i)) c (S.1 67 29) (S.1 67 30) k (hfN n 0) w) (hO6 : ∀ w, w < 6 → vO w = sixN (fun i => tk (1 + 2 * i)) (fun i => nm (1 + 2 * i)) (fun i => gr (1 + 2 * i)) c (S.1 67 29) (S.1 67 30) k (hfN n 1) w) :
    kX10_likeSet Γ [.ref (Γ.1 67), .int (nI r), .int (nI k)] S (eI (fun r1 S1 => r1 = nI (bN (fun w => !unB vX vT vE vO w) 6) ∧ (∀ r' n' tk' nm' gr', r' ≠ 2 → r' ≠ 3 → n' ≤ 40 → RwR S r' n' tk' nm' gr' → RwR S1 r' n' tk' nm' gr') ∧ Fq [71, 72, 73, 74, 79, 80, 81, 82, 83, 84] [(67, 25)] S S1)) := by
  refine oX10_likeSet (fun X hX hE => ?_)
  have hnf : ∀ f, f < 2 → hfN n f ≤ 40 ∧ ∀ i, i < hfN n f → nm (f + 2 * i) < 10 := fun f hf => ⟨by unfold hfN; omega, fun i hi => hnm _ (by unfold hfN at hi; omega)⟩
  refine g_aload_n (i := 0) hX dX10_likeSet_0 rfl rfl ?_
  refine eX10_261 hX ⟨Nat.le_of_ble_eq_true rfl, Nat.le_of_ble_eq_true rfl⟩ (Nat.le_of_ble_eq_true rfl) dX10_likeSet_1 ((c_layHalves hn rr)) (fun T0 t0 => ?_)
  have kk : ∀ T, Fq [79, 80, 81, 82, 83, 84] [(67, 25)] T0 T → T.1 67 28 = nI c ∧ T.1 67 29 = S.1 67 29 ∧ T.1 67 30 = S.1 67 30 := by
    intro T hF
    refine ⟨?_, ?_, ?_⟩
    · rw [(hF.s (k := 67) (j := 28) (by decide)).1, t0.2.2.r (k := 67) (by decide)]; exact hc
    · rw [(hF.s (k := 67) (j := 29) (by decide)).1, t0.2.2.r (k := 67) (by decide)]
    · rw [(hF.s (k := 67) (j := 30) (by decide)).1, t0.2.2.r (k := 67) (by decide)]
  have sv : ∀ T r n tk nm gr, Fq [79, 80, 81, 82, 83, 84] [(67, 25)] T0 T → r < 5 → n ≤ 40 → RwR T0 r n tk nm gr → (∀ i, i < n → nm i < 10) → kX10_serve Γ [.ref (Γ.1 67), .int (nI r), .int (nI k)] T (eV (fun S1 => Num6 S1 81 (hsN tk nm gr c (S.1 67 29) (S.1 67 30) k n) (mru nm n).length ∧ Fq [79, 80, 81] [(67, 25)] T S1)) := by
    intro T r n tk nm gr hF h1 h2 h3 h4
    obtain ⟨k1, k2, k3⟩ := kk T hF
    have h5 := c_serve (Γ := Γ) h1 h2 (h3.q hF (by decide)) h4 hk k1 hc6
    rw [k2, k3] at h5
    exact h5
  refine g_aload_n (i := 0) hX dX10_likeSet_4 rfl rfl ?_
  refine g_iconst hX dX10_likeSet_5 ic0 ?_
  refine g_iload_n (i := 2) hX dX10_likeSet_6 rfl rfl ?_
  refine eX10_264 hX ⟨Nat.le_of_ble_eq_true rfl, Nat.le_of_ble_eq_true rfl⟩ (Nat.le_of_ble_eq_true rfl) dX10_likeSet_7 ((sv T0 0 n tk nm gr Fq.rf (by decide) hn (t0.2.1 _ _ _ _ _ (by decide) (by decide) hn rr) hnm)) (fun T1 t1 => ?_)
  have F1 : Fq [79, 80, 81, 82, 83, 84] [(67, 25)] T0 T1 := t1.2.mono (by decide) (fun _ z => Or.inl z)
  refine g_aload_n (i := 0) hX dX10_likeSet_10 rfl rfl ?_
  refine g_aload_n (i := 0) hX dX10_likeSet_11 rfl rfl ?_
  refine fX10_63 hX dX10_likeSet_12 ?_
  refine eX10_268 hX ⟨Nat.le_of_ble_eq_true rfl, Nat.le_of_ble_eq_true rfl⟩ (Nat.le_of_ble_eq_true rfl) dX10_likeSet_15 ((c_keep ia82 (by decide))) (fun T2 t2 => ?_)
  have F2 : Fq [79, 80, 81, 82, 83, 84] [(67, 25)] T0 T2 := F1.tr (t2.2.mono (by decide) (fun _ z => by cases z))
  refine g_aload_n (i := 0) hX dX10_likeSet_18 rfl rfl ?_
  refine g_iconst hX dX10_likeSet_19 ic2 ?_
  refine g_iload_n (i := 2) hX dX10_likeSet_20 rfl rfl ?_
  refine eX10_264 hX ⟨Nat.le_of_ble_eq_true rfl, Nat.le_of_ble_eq_true rfl⟩ (Nat.le_of_ble_eq_true rfl) dX10_likeSet_21 ((sv T2 2 (hfN n 0) _ _ _ F2 (by decide) (hnf 0 (by decide)).1 (t0.1 0 (by decide)) (hnf 0 (by decide)).2)) (fun T3 t3 => ?_)
  have F3 : Fq [79, 80, 81, 82, 83, 84] [(67, 25)] T0 T3 := F2.tr (t3.2.mono (by decide) (fun _ z => Or.inl z))
  refine g_aload_n (i := 0) hX dX10_likeSet_24 rfl rfl ?_
  refine g_aload_n (i := 0) hX dX10_likeSet_25 rfl rfl ?_
  refine fX10_66 hX dX10_likeSet_26 ?_
  refine eX10_268 hX ⟨Nat.le_of_ble_eq_true rfl, Nat.le_of_ble_eq_true rfl⟩ (Nat.le_of_ble_eq_true rfl) dX10_likeSet_29 ((c_keep ia83 (by decide))) (fun T4 t4 => ?_)
  have F4 : Fq [79, 80, 81, 82, 83, 84] [(67, 25)] T0 T4 := F3.tr (t4.2.mono (by decide) (fun _ z => by cases z))
  refine g_aload_n (i := 0) hX dX10_likeSet_32 rfl rfl ?_
  refine g_iconst hX dX10_likeSet_33 ic3 ?_
  refine g_iload_n (i := 2) hX dX10_likeSet_34 rfl rfl ?_
  refine eX10_264 hX ⟨Nat.le_of_ble_eq_true rfl, Nat.le_of_ble_eq_true rfl⟩ (Nat.le_of_ble_eq_true rfl) dX10_likeSet_35 ((sv T4 3 (hfN n 1) _ _ _ F4 (by decide) (hnf 1 (by decide)).1 (t0.1 1 (by decide)) (hnf 1 (by decide)).2)) (fun T5 t5 => ?_)
  have F5 : Fq [79, 80, 81, 82, 83, 84] [(67, 25)] T0 T5 := F4.tr (t5.2.mono (by decide) (fun _ z => Or.inl z))
  refine g_aload_n (i := 0) hX dX10_likeSet_38 rfl rfl ?_
  refine g_aload_n (i := 0) hX dX10_likeSet_39 rfl rfl ?_
  refine fX10_69 hX dX10_likeSet_40 ?_
  refine eX10_268 hX ⟨Nat.le_of_ble_eq_true rfl, Nat.le_of_ble_eq_true rfl⟩ (Nat.le_of_ble_eq_true rfl) dX10_likeSet_43 ((c_keep ia84 (by decide))) (fun T6 t6 => ?_)
  have F6 : Fq [79, 80, 81, 82, 83, 84] [(67, 25)] T0 T6 := F5.tr (t6.2.mono (by decide) (fun _ z => by cases z))
  refine g_aload_n (i := 0) hX dX10_likeSet_46 rfl rfl ?_
  refine g_iload_n (i := 1) hX dX10_likeSet_47 rfl rfl ?_
  refine g_iload_n (i := 2) hX dX10_likeSet_48 rfl rfl ?_
  refine eX10_264 hX ⟨Nat.le_of_ble_eq_true rfl, Nat.le_of_ble_eq_true rfl⟩ (Nat.le_of_ble_eq_true rfl) dX10_likeSet_49 ((sv T6 r n0 _ _ _ F6 hr hn0 (t0.2.1 _ _ _ _ _ hr2 hr3 hn0 rr0) hnm0)) (fun T7 t7 => ?_)
  refine g_iconst hX dX10_likeSet_52 ic0 ?_
  refine g_istore_n (i := 3) hX dX10_likeSet_53 rfl (by decide) rfl ?_
  refine g_iconst hX dX10_likeSet_54 ic0 ?_
  refine g_istore hX dX10_likeSet_55 (by decide) rfl ?_
  have F7 : Fq [79, 80, 81, 82, 83, 84] [(67, 25)] T0 T7 := F6.tr (t7.2.mono (by decide) (fun _ z => Or.inl z))
  have gX : ∀ w, w < 6 → T7.1 81 w = vX w := fun w hw => by rw [hX6 w hw]; exact t7.1.at hw
  have gT : ∀ w, w < 6 → T7.1 82 w = vT w := fun w hw => by
    rw [hT6 w hw, t7.2.r (k := 82) (by decide), t6.2.r (k := 82) (by decide), t5.2.r (k := 82) (by decide), t4.2.r (k := 82) (by decide), t3.2.r (k := 82) (by decide), t2.1 w hw]; exact t1.1.at hw
  have gE : ∀ w, w < 6 → T7.1 83 w = vE w := fun w hw => by
    rw [hE6 w hw, t7.2.r (k := 83) (by decide), t6.2.r (k := 83) (by decide), t5.2.r (k := 83) (by decide), t4.1 w hw]; exact t3.1.at hw
  have gO : ∀ w, w < 6 → T7.1 84 w = vO w := fun w hw => by
    rw [hO6 w hw, t7.2.r (k := 84) (by decide), t6.1 w hw]; exact t5.1.at hw
  have loop : ∀ d i, i + d = 6 → G Γ X T7 57 [(0, .ref (Γ.1 67)), (1, .int (nI r)), (2, .int (nI k)), (3, .int (nI (bN (fun w => !unB vX vT vE vO w) i))), (4, .int (nI i))] [] := by
    intro d
    induction d with
    | zero =>
      intro i hi
      obtain rfl : i = 6 := by omega
      refine g_iload hX dX10_likeSet_57 rfl ?_
      refine g_bipush hX dX10_likeSet_59 bp6 ?_
      refine g_icmp_ge (tgt := 118) hX dX10_likeSet_61 (by decide) (fun _ => ?_) (fun h9 => absurd ((by decide)) h9)
      refine g_iload_n (i := 3) hX dX10_likeSet_118 rfl rfl ?_
      refine g_iret (st := []) hX hE rfl dX10_likeSet_119 (⟨_, rfl, rfl, ?_, ?_⟩)
      · intro r' n' tk' nm' gr' a1 a2 a3 a4
        exact (t0.2.1 r' n' tk' nm' gr' a1 a2 a3 a4).q F7 (by decide)
      · exact (t0.2.2.mono (by decide) (fun _ z => by cases z)).tr (F7.mono (by decide) (fun _ z => Or.inl z))
    | succ d ih =>
      intro i hi
      have hi6 : i < 6 := by omega
      have ih2 := ih (i + 1) (by omega)
      rw [bN] at ih2
      refine g_iload hX dX10_likeSet_57 rfl ?_
      refine g_bipush hX dX10_likeSet_59 bp6 ?_
      refine g_icmp_ge (tgt := 118) hX dX10_likeSet_61 (by decide) (fun h9 => absurd h9 (nI_ge hi6 (by decide))) (fun _ => ?_)
      refine g_iload_n (i := 3) hX dX10_likeSet_64 rfl rfl ?_
      refine g_aload_n (i := 0) hX dX10_likeSet_65 rfl rfl ?_
      refine fX10_60 hX dX10_likeSet_66 ?_
      refine g_iload hX dX10_likeSet_69 rfl ?_
      refine g_ialoadN hX (ia81) rfl (hi6) (by first | decide | assumption | omega) dX10_likeSet_71 ?_
      refine g_aload_n (i := 0) hX dX10_likeSet_72 rfl rfl ?_
      refine fX10_63 hX dX10_likeSet_73 ?_
      refine g_iload hX dX10_likeSet_76 rfl ?_
      refine g_ialoadN hX (ia82) rfl (hi6) (by first | decide | assumption | omega) dX10_likeSet_78 ?_
      refine sX10_272 hX ⟨Nat.le_of_ble_eq_true rfl, Nat.le_of_ble_eq_true rfl⟩ (Nat.le_of_ble_eq_true rfl) dX10_likeSet_79 (c_apart) ?_
      refine g_aload_n (i := 0) hX dX10_likeSet_82 rfl rfl ?_
      refine fX10_66 hX dX10_likeSet_83 ?_
      refine g_iload hX dX10_likeSet_86 rfl ?_
      refine g_ialoadN hX (ia83) rfl (hi6) (by first | decide | assumption | omega) dX10_likeSet_88 ?_
      refine g_aload_n (i := 0) hX dX10_likeSet_89 rfl rfl ?_
      refine fX10_69 hX dX10_likeSet_90 ?_
      refine g_iload hX dX10_likeSet_93 rfl ?_
      refine g_ialoadN hX (ia84) rfl (hi6) (by first | decide | assumption | omega) dX10_likeSet_95 ?_
      refine sX10_272 hX ⟨Nat.le_of_ble_eq_true rfl, Nat.le_of_ble_eq_true rfl⟩ (Nat.le_of_ble_eq_true rfl) dX10_likeSet_96 (c_apart) ?_
      rw [gX i hi6, gT i hi6, gE i hi6, gO i hi6]
      by_cases q : apI (vX i) (vT i) ≤ apI (vE i) (vO i)
      · rw [if_pos (by unfold unB; simpa using q), ← (or_name _ (bN_lt _ i (by omega)) i (by omega)).1, ← shl_name i (by omega)] at ih2
        refine g_icmp_gt (tgt := 109) hX dX10_likeSet_99 (by decide) (fun h9 => absurd h9 ((by rw [i_lt]; rw [i_le] at q; omega))) (fun _ => ?_)
        refine g_iconst hX dX10_likeSet_102 ic1 ?_
        refine g_iload hX dX10_likeSet_103 rfl ?_
        refine g_ishl hX dX10_likeSet_105 ?_
        refine g_goto (tgt := 110) hX dX10_likeSet_106 (by decide) ?_
        refine g_ior hX dX10_likeSet_110 ?_
        refine g_istore_n (i := 3) hX dX10_likeSet_111 rfl (by decide) rfl ?_
        refine g_iinc hX dX10_likeSet_112 rfl ic1 (by decide) rfl ?_
        refine g_goto (tgt := 57) hX dX10_likeSet_115 (by decide) ?_
        rw [nI_1]
        exact ih2
      · rw [if_neg (by unfold unB; simpa using q)] at ih2
        refine g_icmp_gt (tgt := 109) hX dX10_likeSet_99 (by decide) (fun _ => ?_) (fun h9 => absurd ((by rw [i_lt]; rw [i_le] at q; omega)) h9)
        refine g_iconst hX dX10_likeSet_109 ic0 ?_
        refine g_ior hX dX10_likeSet_110 ?_
        refine g_istore_n (i := 3) hX dX10_likeSet_111 rfl (by decide) rfl ?_
        refine g_iinc hX dX10_likeSet_112 rfl ic1 (by decide) rfl ?_
        refine g_goto (tgt := 57) hX dX10_likeSet_115 (by decide) ?_
        rw [nI_1, Int32.or_zero]
        exact ih2
  exact loop 6 0 (by omega)
theorem bits6 : ∀ b0 b1 b2 b3 b4 b5 : Bool, (63 : Int32) &&& (nI (bN (fun w => !((fun w => match w with | 0 => b0 | 1 => b1 | 2 => b2 | 3 => b3 | 4 => b4 | _ => b5) w)) 6) ^^^ (-1 : Int32)) = nI (bN (fun w => match w with | 0 => b0 | 1 => b1 | 2 => b2 | 3 => b3 | 4 => b4 | _ => b5) 6) := by decide +kernel
theorem bN_six (u : Nat → Bool) : bN u 6 = bN (fun w => match w with | 0 => u 0 | 1 => u 1 | 2 => u 2 | 3 => u 3 | 4 => u 4 | _ => u 5) 6 := rfl
theorem un_like (u : Nat → Bool) : (63 : Int32) &&& (nI (bN (fun w => !u w) 6) ^^^ (-1 : Int32)) = nI (bN u 6) := by
  have h := bits6 (u 0) (u 1) (u 2) (u 3) (u 4) (u 5)
  exact h
theorem Rel.laid2 {S S1 : St} (h : Rel S) (hk : ∀ r' n' tk' nm' gr', r' ≠ 2 → r' ≠ 3 → n' ≤ 40 → RwR S r' n' tk' nm' gr' → RwR S1 r' n' tk' nm' gr') (hF : Fq [71, 72, 73, 74, 79, 80, 81, 82, 83, 84] [(67, 25)] S S1) : Rel S1 := by
  obtain ⟨h1, h2, h3, h4, h5, h6, h7, h8, h9⟩ := h
  refine ⟨h1.q hF (by decide), ?_, ?_, h4.q hF (by decide), h5.q hF (by decide), h6.q hF (by decide), h7.q hF (by decide), h8.q hF (by decide), h9.q hF (by decide)⟩
  · obtain ⟨n, tk, nm, gr, a, b, d⟩ := h2
    exact ⟨n, tk, nm, gr, a.q hF (by decide), hk _ _ _ _ _ (by decide) (by decide) a.1 b, d⟩
  · obtain ⟨n, tk, nm, gr, a, b, d⟩ := h3
    exact ⟨n, tk, nm, gr, a.q hF (by decide), hk _ _ _ _ _ (by decide) (by decide) a.1 b, d⟩
theorem step_unlike {Γ : GG} (x1 : Int32) : Step (fun S P => kX9_unlike Γ [.ref (Γ.1 48), .int x1] S P) (fun S P => kX10_unlike Γ [.ref (Γ.1 67), .int x1] S P) := by
  intro S hR
  have l4 : (4 : Int64).toInt = 4 := by decide
  by_cases h3 : inB x1 5
  case neg =>
    refine ⟨-1000001, fun S1 => S1 = S, ?_, ?_⟩
    · refine oX9_unlike (fun X hX hE => ?_)
      refine g_iload_n (i := 1) hX dX9_unlike_0 rfl rfl ?_
      refine sX9_221 hX ⟨Nat.le_of_ble_eq_true rfl, Nat.le_of_ble_eq_true rfl⟩ (Nat.le_of_ble_eq_true rfl) dX9_unlike_1 (isC_f h3) ?_
      refine g_if_ne (tgt := 10) hX dX9_unlike_4 (by decide) (fun h9 => absurd (rfl) h9) (fun _ => ?_)
      refine g_ldc hX ccX9_100 dX9_unlike_7 ?_
      refine g_iret (st := []) hX hE rfl dX9_unlike_9 (⟨_, rfl, rfl, rfl⟩)
    · rintro S1 rfl
      refine oX10_unlike (fun X hX hE => ?_)
      rw [inB_iff (by decide)] at h3
      refine g_aload_n (i := 0) hX dX10_unlike_0 rfl rfl ?_
      refine g_iconst hX dX10_unlike_1 ic0 ?_
      refine pX10_78 hX dX10_unlike_2 ?_
      refine g_iload_n (i := 1) hX dX10_unlike_5 rfl rfl ?_
      refine g_i2l hX dX10_unlike_6 ?_
      refine g_lconst (v := 0) hX dX10_unlike_7 (by decide) ?_
      refine g_ldc2_w hX ccX10_114 dX10_unlike_8 ?_
      refine sX10_87 hX ⟨Nat.le_of_ble_eq_true rfl, Nat.le_of_ble_eq_true rfl⟩ (Nat.le_of_ble_eq_true rfl) dX10_unlike_11 (c_inI_f (by rw [L0, l4]; omega)) ?_
      refine g_if_eq (tgt := 31) hX dX10_unlike_14 (by decide) (fun _ => ?_) (fun h9 => absurd (rfl) h9)
      refine g_ldc hX ccX10_97 dX10_unlike_31 ?_
      refine g_iret (st := []) hX hE rfl dX10_unlike_33 (⟨_, rfl, rfl, hR.thrown⟩)
  obtain ⟨k, hk, rfl⟩ := h3
  have c3 : ∀ T : St, kX10_in Γ [.long (nI k).toInt64, .long 0, .long 4] T (rI 1 T) := fun T => c_inI_t (by rw [nI_toInt (by omega), L0]; omega) (by rw [nI_toInt (by omega), l4]; omega)
  obtain ⟨hs0, hs1, hs2, ⟨c, hc1, hc6, hc⟩, hh, hm⟩ := hR.2.2.2.2.2.2.1
  obtain ⟨n, tk, nm, gr, a, b, tok⟩ := hR.2.1
  obtain ⟨n2, tk2, nm2, gr2, a2, b2, tok2⟩ := hR.2.2.1
  have hnm : ∀ i, i < n → nm i < 10 := fun i hi => (a.2.2 i hi).2.2.1
  have hnm2 : ∀ i, i < n2 → nm2 i < 10 := fun i hi => (a2.2.2 i hi).2.2.1
  have h40 := a.1
  have hnf : ∀ f, f < 2 → hfN n f ≤ 40 ∧ ∀ i, i < hfN n f → nm (f + 2 * i) < 10 := fun f hf => ⟨by unfold hfN; omega, fun i hi => hnm _ (by unfold hfN at hi; omega)⟩
  have pX := fun w => six_bd (c := c) (k := k) tok2 hh hm a2.1 hnm2 w
  have pT := fun w => six_bd (c := c) (k := k) tok hh hm a.1 hnm w
  have pE := fun w => six_bd (c := c) (k := k) (nm := fun i => nm (0 + 2 * i)) (tok.half (f := 0) (by decide)) hh hm (hnf 0 (by decide)).1 (hnf 0 (by decide)).2 w
  have pO := fun w => six_bd (c := c) (k := k) (nm := fun i => nm (1 + 2 * i)) (tok.half (f := 1) (by decide)) hh hm (hnf 1 (by decide)).1 (hnf 1 (by decide)).2 w
  refine ⟨nI (bN (unB (sixN tk2 nm2 gr2 c (S.1 60 1) (S.1 60 2) k n2) (sixN tk nm gr c (S.1 60 1) (S.1 60 2) k n) (sixN (fun i => tk (0 + 2 * i)) (fun i => nm (0 + 2 * i)) (fun i => gr (0 + 2 * i)) c (S.1 60 1) (S.1 60 2) k (hfN n 0)) (sixN (fun i => tk (1 + 2 * i)) (fun i => nm (1 + 2 * i)) (fun i => gr (1 + 2 * i)) c (S.1 60 1) (S.1 60 2) k (hfN n 1))) 6), fun S1 => Fq [31, 32, 33, 34, 35, 44, 45, 46, 47, 61] [] S S1, ?_, ?_⟩
  · refine oX9_unlike (fun X hX hE => ?_)
    refine g_iload_n (i := 1) hX dX9_unlike_0 rfl rfl ?_
    refine sX9_221 hX ⟨Nat.le_of_ble_eq_true rfl, Nat.le_of_ble_eq_true rfl⟩ (Nat.le_of_ble_eq_true rfl) dX9_unlike_1 (isC_t hk) ?_
    refine g_if_ne (tgt := 10) hX dX9_unlike_4 (by decide) (fun _ => ?_) (fun h9 => absurd h9 ((by decide)))
    refine g_aload_n (i := 0) hX dX9_unlike_10 rfl rfl ?_
    refine fX9_59 hX dX9_unlike_11 ?_
    refine g_aload_n (i := 0) hX dX9_unlike_14 rfl rfl ?_
    refine fX9_18 hX dX9_unlike_15 ?_
    refine g_aload_n (i := 0) hX dX9_unlike_18 rfl rfl ?_
    refine fX9_52 hX dX9_unlike_19 ?_
    refine g_iload_n (i := 1) hX dX9_unlike_22 rfl rfl ?_
    refine eX9_233 hX ⟨Nat.le_of_ble_eq_true rfl, Nat.le_of_ble_eq_true rfl⟩ (Nat.le_of_ble_eq_true rfl) dX9_unlike_23 ((c_stepTrue a hk hc hc6)) (fun T hT => ?_)
    obtain ⟨g1, g2, g3, hF⟩ := hT
    have e60 : T.1 60 = S.1 60 := hF.r (by decide)
    have hun := c_unlikeIn (Γ := Γ) (S := T) (c := c) (k := k) ir21 (a2.q hF (by decide)) (by decide) hk (by rw [e60]; exact hc) hc6 (fun w _ => rfl) g1 g2 g3 (by rw [e60]; exact fun w hw => ⟨pX w, pT w, pE w, pO w⟩)
    rw [e60] at hun
    refine g_aload_n (i := 0) hX dX9_unlike_26 rfl rfl ?_
    refine fX9_59 hX dX9_unlike_27 ?_
    refine g_aload_n (i := 0) hX dX9_unlike_30 rfl rfl ?_
    refine fX9_22 hX dX9_unlike_31 ?_
    refine g_aload_n (i := 0) hX dX9_unlike_34 rfl rfl ?_
    refine fX9_52 hX dX9_unlike_35 ?_
    refine g_iload_n (i := 1) hX dX9_unlike_38 rfl rfl ?_
    refine eX9_237 hX ⟨Nat.le_of_ble_eq_true rfl, Nat.le_of_ble_eq_true rfl⟩ (Nat.le_of_ble_eq_true rfl) dX9_unlike_39 (hun) (fun v U hU => ?_)
    refine g_iret (st := []) hX hE rfl dX9_unlike_42 (⟨_, rfl, hU.1, (hF.mono (by decide) (fun _ z => by cases z)).tr (hU.2.mono (by decide) (fun _ z => by cases z))⟩)
  · intro S1 hF1
    have hR1 : Rel S1 := hR.q hF1 (by decide)
    have hR0 : Rel (S0 S1) := hR1.thrown
    have hF0 : Fq [31, 32, 33, 34, 35, 44, 45, 46, 47, 61] [(67, 0)] S (S0 S1) := (hF1.mono (fun _ z => z) (fun _ z => by cases z)).I (by decide)
    have e28 : (S0 S1).1 67 28 = nI c := by rw [(hF0.s (k := 67) (j := 28) (by decide)).1, ← hs0]; exact hc
    have e29 : (S0 S1).1 67 29 = S.1 60 1 := by rw [(hF0.s (k := 67) (j := 29) (by decide)).1, hs1]
    have e30 : (S0 S1).1 67 30 = S.1 60 2 := by rw [(hF0.s (k := 67) (j := 30) (by decide)).1, hs2]
    have hls := c_likeSet (Γ := Γ) (S := S0 S1) (r := 1) (c := c) (k := k) (by decide) (by decide) (by decide) h40 a2.1 (b.q hF0 (by decide)) (b2.q hF0 (by decide)) hnm hnm2 hk e28 hc6 (fun w _ => rfl) (fun w _ => rfl) (fun w _ => rfl) (fun w _ => rfl)
    rw [e29, e30] at hls
    refine oX10_unlike (fun X hX hE => ?_)
    refine g_aload_n (i := 0) hX dX10_unlike_0 rfl rfl ?_
    refine g_iconst hX dX10_unlike_1 ic0 ?_
    refine pX10_78 hX dX10_unlike_2 ?_
    refine g_iload_n (i := 1) hX dX10_unlike_5 rfl rfl ?_
    refine g_i2l hX dX10_unlike_6 ?_
    refine g_lconst (v := 0) hX dX10_unlike_7 (by decide) ?_
    refine g_ldc2_w hX ccX10_114 dX10_unlike_8 ?_
    refine sX10_87 hX ⟨Nat.le_of_ble_eq_true rfl, Nat.le_of_ble_eq_true rfl⟩ (Nat.le_of_ble_eq_true rfl) dX10_unlike_11 (c3 _) ?_
    refine g_if_eq (tgt := 31) hX dX10_unlike_14 (by decide) (fun h9 => absurd h9 ((by decide))) (fun _ => ?_)
    refine g_bipush hX dX10_unlike_17 bp63 ?_
    refine g_aload_n (i := 0) hX dX10_unlike_19 rfl rfl ?_
    refine g_iconst hX dX10_unlike_20 ic1 ?_
    refine g_iload_n (i := 1) hX dX10_unlike_21 rfl rfl ?_
    refine eX10_275 hX ⟨Nat.le_of_ble_eq_true rfl, Nat.le_of_ble_eq_true rfl⟩ (Nat.le_of_ble_eq_true rfl) dX10_unlike_22 (hls) (fun v U hU => ?_)
    refine g_iconst hX dX10_unlike_25 icm1 ?_
    refine g_ixor hX dX10_unlike_26 ?_
    refine g_iand hX dX10_unlike_27 ?_
    refine g_goto (tgt := 33) hX dX10_unlike_28 (by decide) ?_
    refine g_iret (st := []) hX hE rfl dX10_unlike_33 (⟨_, rfl, ?_, hR0.laid2 hU.2.1 hU.2.2⟩)
    rw [hU.1]
    exact un_like _
