/-! a house stepped: what its numbers come to; the class's -/
def Hs : Type := (Nat → Int32) × Int32 × Int32 × Int32 × Int32 × Int32
def Hs.e (s : Hs) : Nat → Int32 := s.1
def Hs.f (s : Hs) : Int32 := s.2.1
def Hs.a (s : Hs) : Int32 := s.2.2.1
def Hs.b (s : Hs) : Int32 := s.2.2.2.1
def Hs.w (s : Hs) : Int32 := s.2.2.2.2.1
def Hs.g (s : Hs) : Int32 := s.2.2.2.2.2
def mxI (x y : Int32) : Int32 := if x < y then y else x
def hitB (nm : Nat → Nat) (c i : Nat) : Bool := decide (¬ dep nm i = -1000000 ∧ dep nm i < nI c)
def comN (tk : Nat → Int32) (k : Nat) (E : Nat → Int32) (i : Nat) : Int32 := if 0 < k ∧ k ≤ i then E (i - k) + gapN tk i else tk i
def tksN (gr : Nat → Int32) (h m : Int32) (z : Bool) (i : Nat) : Int32 := if z = true then h else h + m + gr i
def begN (tk : Nat → Int32) (k i : Nat) (s : Hs) : Int32 := mxI (comN tk k s.e i) s.f
def latN (tk : Nat → Int32) (k i : Nat) (s : Hs) : Int32 := begN tk k i s - comN tk k s.e i
def endN (tk : Nat → Int32) (nm : Nat → Nat) (gr : Nat → Int32) (c : Nat) (h m : Int32) (k i : Nat) (s : Hs) : Int32 := begN tk k i s + tksN gr h m (hitB nm c i) i
def hsS (tk : Nat → Int32) (nm : Nat → Nat) (gr : Nat → Int32) (c : Nat) (h m : Int32) (k i : Nat) (s : Hs) : Hs :=
  (upd s.e i (endN tk nm gr c h m k i s), endN tk nm gr c h m k i s, s.a + (if hitB nm c i = true then 1 else 0), s.b + latN tk k i s, mxI s.w (latN tk k i s), s.g + (if hitB nm c i = true then 0 else if c ≤ (mru nm i).length then 1 else 0))
def hsN (tk : Nat → Int32) (nm : Nat → Nat) (gr : Nat → Int32) (c : Nat) (h m : Int32) (k : Nat) : Nat → Hs
  | 0 => (fun _ => 0, 0, 0, 0, 0, 0)
  | i + 1 => hsS tk nm gr c h m k i (hsN tk nm gr c h m k i)
/-- the six numbers lie in an array -/
def Num6 (S : St) (q : Nat) (s : Hs) (l : Nat) : Prop := S.1 q 0 = s.a ∧ S.1 q 1 = s.b ∧ S.1 q 2 = s.w ∧ S.1 q 3 = s.f ∧ S.1 q 4 = nI l ∧ S.1 q 5 = s.g
theorem dep_new {nm : Nat → Nat} {i : Nat} (h : ∀ j, j < i → nm j < 10) : dep nm i = -1000000 ↔ nm i ∉ mru nm i := by
  rw [dep_mru h]
  by_cases q : nm i ∈ mru nm i
  · rw [if_pos q]
    have h1 := (bfr_lt _ q).1
    have h2 := mru_len h
    exact ⟨fun z => absurd z (nI_nN (by omega)), fun z => absurd q z⟩
  · rw [if_neg q]; exact ⟨fun _ => q, fun _ => rfl⟩
theorem mru_new {nm : Nat → Nat} {i : Nat} (h : ∀ j, j < i → nm j < 10) : (mru nm (i + 1)).length = (mru nm i).length + (if dep nm i = -1000000 then 1 else 0) := by
  rw [mru_suc]
  by_cases q : nm i ∈ mru nm i
  · have h1 := (bfr_lt _ q).1
    rw [if_neg (by omega), if_neg (fun z => (dep_new h).mp z q)]
  · rw [bfr_all _ q, if_pos rfl, if_pos ((dep_new h).mpr q)]
theorem hit_mru {nm : Nat → Nat} {c i : Nat} (hc : c ≤ 6) (h : ∀ j, j < i → nm j < 10) : hitB nm c i = true ↔ nm i ∈ mru nm i ∧ (bfr (nm i) (mru nm i)).length < c := by
  unfold hitB
  rw [decide_eq_true_iff, dep_new h]
  constructor
  · rintro ⟨h1, h2⟩
    have h1 := Classical.not_not.mp h1
    have h3 := (bfr_lt _ h1).1
    have h4 := mru_len h
    rw [dep_mru h, if_pos h1, i_lt, nI_toInt (by omega), nI_toInt (by omega)] at h2
    exact ⟨h1, by omega⟩
  · rintro ⟨h1, h2⟩
    refine ⟨fun z => z h1, ?_⟩
    rw [dep_mru h, if_pos h1, i_lt, nI_toInt (by omega), nI_toInt (by omega)]
    omega
theorem nI_nle0 {n : Nat} (h : 0 < n) (h2 : n < 2 ^ 31) : ¬ nI n ≤ 0 := by
  rw [i_le, nI_toInt h2, show (0 : Int32).toInt = 0 by decide]; omega
theorem gap_congr {f g : Nat → Int32} {i : Nat} (h : ∀ j, j ≤ i → f j = g j) : gapN f i = gapN g i := by
  unfold gapN
  rw [h 0 (by omega), h i (by omega), h (i - 1) (by omega)]
theorem c_comesAt {Γ : GG} {S : St} {b i k : Nat} {tk E : Nat → Int32} (hb : IsRow b) (hi : i < 40) (hk : k < 5) (ht : ∀ j, j ≤ i → S.1 (b + 1) j = tk j) (hE6 : ∀ j, j < i → S.1 61 j = E j) :
    kX1_comesAt Γ [.ref (Γ.1 60), .ref (Γ.1 b), .int (nI i), .int (nI k)] S (rI (comN tk k E i) S) := by
  refine oX1_comesAt (fun X hX hE => ?_)
  have g1 := gap_congr ht
  by_cases h0 : k = 0
  · subst h0
    have e : comN tk 0 E i = tk i := if_neg (by omega)
    rw [e] at hE
    refine g_iload_n (i := 3) hX dX1_comesAt_0 rfl rfl ?_
    refine g_if_le (tgt := 9) hX dX1_comesAt_1 (by decide) (fun _ => ?_) (fun h9 => absurd ((by decide)) h9)
    refine g_iconst hX dX1_comesAt_9 ic1 ?_
    refine g_goto (tgt := 14) hX dX1_comesAt_10 (by decide) ?_
    refine g_istore hX dX1_comesAt_14 (by decide) rfl ?_
    refine g_iload hX dX1_comesAt_16 rfl ?_
    refine g_if_eq (tgt := 30) hX dX1_comesAt_18 (by decide) (fun h9 => absurd h9 ((by decide))) (fun _ => ?_)
    refine g_aload_n (i := 1) hX dX1_comesAt_21 rfl rfl ?_
    refine fX1_54 hX hb dX1_comesAt_22 ?_
    refine g_iload_n (i := 2) hX dX1_comesAt_25 rfl rfl ?_
    refine g_ialoadN hX ((hb).a1) rfl (hi) (by first | decide | assumption | omega) dX1_comesAt_26 ?_
    refine g_goto (tgt := 44) hX dX1_comesAt_27 (by decide) ?_
    refine g_iret (st := []) hX hE rfl dX1_comesAt_44 (⟨by rw [ht i (by omega)], rfl⟩)
  · by_cases h1 : i < k
    · have e : comN tk k E i = tk i := if_neg (by omega)
      rw [e] at hE
      refine g_iload_n (i := 3) hX dX1_comesAt_0 rfl rfl ?_
      refine g_if_le (tgt := 9) hX dX1_comesAt_1 (by decide) (fun h9 => absurd h9 (nI_nle0 (by omega) (by omega))) (fun _ => ?_)
      refine g_iload_n (i := 2) hX dX1_comesAt_4 rfl rfl ?_
      refine g_iload_n (i := 3) hX dX1_comesAt_5 rfl rfl ?_
      refine g_icmp_ge (tgt := 13) hX dX1_comesAt_6 (by decide) (fun h9 => absurd h9 (nI_ge h1 (by omega))) (fun _ => ?_)
      refine g_iconst hX dX1_comesAt_9 ic1 ?_
      refine g_goto (tgt := 14) hX dX1_comesAt_10 (by decide) ?_
      refine g_istore hX dX1_comesAt_14 (by decide) rfl ?_
      refine g_iload hX dX1_comesAt_16 rfl ?_
      refine g_if_eq (tgt := 30) hX dX1_comesAt_18 (by decide) (fun h9 => absurd h9 ((by decide))) (fun _ => ?_)
      refine g_aload_n (i := 1) hX dX1_comesAt_21 rfl rfl ?_
      refine fX1_54 hX hb dX1_comesAt_22 ?_
      refine g_iload_n (i := 2) hX dX1_comesAt_25 rfl rfl ?_
      refine g_ialoadN hX ((hb).a1) rfl (hi) (by first | decide | assumption | omega) dX1_comesAt_26 ?_
      refine g_goto (tgt := 44) hX dX1_comesAt_27 (by decide) ?_
      refine g_iret (st := []) hX hE rfl dX1_comesAt_44 (⟨by rw [ht i (by omega)], rfl⟩)
    · have e : comN tk k E i = E (i - k) + gapN tk i := if_pos (by omega)
      rw [e] at hE
      refine g_iload_n (i := 3) hX dX1_comesAt_0 rfl rfl ?_
      refine g_if_le (tgt := 9) hX dX1_comesAt_1 (by decide) (fun h9 => absurd h9 (nI_nle0 (by omega) (by omega))) (fun _ => ?_)
      refine g_iload_n (i := 2) hX dX1_comesAt_4 rfl rfl ?_
      refine g_iload_n (i := 3) hX dX1_comesAt_5 rfl rfl ?_
      refine g_icmp_ge (tgt := 13) hX dX1_comesAt_6 (by decide) (fun _ => ?_) (fun h9 => absurd (nI_le (by omega) (by omega)) h9)
      refine g_iconst hX dX1_comesAt_13 ic0 ?_
      refine g_istore hX dX1_comesAt_14 (by decide) rfl ?_
      refine g_iload hX dX1_comesAt_16 rfl ?_
      refine g_if_eq (tgt := 30) hX dX1_comesAt_18 (by decide) (fun _ => ?_) (fun h9 => absurd (rfl) h9)
      refine g_aload_n (i := 0) hX dX1_comesAt_30 rfl rfl ?_
      refine fX1_21 hX dX1_comesAt_31 ?_
      refine g_iload_n (i := 2) hX dX1_comesAt_34 rfl rfl ?_
      refine g_iload_n (i := 3) hX dX1_comesAt_35 rfl rfl ?_
      refine g_isub hX dX1_comesAt_36 ?_
      refine g_ialoadN hX (ia61) (nI_sub (by omega)) ((show i - k < 40 by omega)) (by first | decide | assumption | omega) dX1_comesAt_37 ?_
      refine g_aload_n (i := 1) hX dX1_comesAt_38 rfl rfl ?_
      refine g_iload_n (i := 2) hX dX1_comesAt_39 rfl rfl ?_
      refine sX1_57 hX hb ⟨Nat.le_of_ble_eq_true rfl, Nat.le_of_ble_eq_true rfl⟩ (Nat.le_of_ble_eq_true rfl) dX1_comesAt_40 (c_gapOf hb hi) ?_
      refine g_iadd hX dX1_comesAt_43 ?_
      refine g_iret (st := []) hX hE rfl dX1_comesAt_44 (⟨?_, rfl⟩)
      rw [g1, hE6 (i - k) (by omega)]
theorem c_isHit {Γ : GG} {S : St} {b c i : Nat} {nm : Nat → Nat} (hb : IsRow b) (hi : i < 40) (hd : S.1 (b + 4) i = dep nm i) (hc : S.1 60 0 = nI c) : kX1_isHit Γ [.ref (Γ.1 60), .ref (Γ.1 b), .int (nI i)] S (rI (if hitB nm c i = true then 1 else 0) S) := by
  refine oX1_isHit (fun X hX hE => ?_)
  by_cases h1 : dep nm i = -1000000
  · rw [if_neg (by unfold hitB; rw [decide_eq_true_iff]; exact fun z => z.1 h1)] at hE
    refine g_aload_n (i := 1) hX dX1_isHit_0 rfl rfl ?_
    refine fX1_68 hX hb dX1_isHit_1 ?_
    refine g_iload_n (i := 2) hX dX1_isHit_4 rfl rfl ?_
    refine g_ialoadN hX ((hb).a4) rfl (hi) (by first | decide | assumption | omega) dX1_isHit_5 ?_
    refine g_ldc hX ccX1_71 dX1_isHit_6 ?_
    refine g_icmp_eq (tgt := 28) hX dX1_isHit_8 (by decide) (fun _ => ?_) (fun h9 => absurd ((by rw [hd, h1])) h9)
    refine g_iconst hX dX1_isHit_28 ic0 ?_
    refine g_zret (st := []) hX hE rfl (nz_narrow (Or.inl rfl)).1 dX1_isHit_29 (⟨rfl, rfl⟩)
  · by_cases h2 : dep nm i < nI c
    · rw [if_pos (by unfold hitB; rw [decide_eq_true_iff]; exact ⟨h1, h2⟩)] at hE
      refine g_aload_n (i := 1) hX dX1_isHit_0 rfl rfl ?_
      refine fX1_68 hX hb dX1_isHit_1 ?_
      refine g_iload_n (i := 2) hX dX1_isHit_4 rfl rfl ?_
      refine g_ialoadN hX ((hb).a4) rfl (hi) (by first | decide | assumption | omega) dX1_isHit_5 ?_
      refine g_ldc hX ccX1_71 dX1_isHit_6 ?_
      refine g_icmp_eq (tgt := 28) hX dX1_isHit_8 (by decide) (fun h9 => absurd h9 ((by rw [hd]; exact h1))) (fun _ => ?_)
      refine g_aload_n (i := 1) hX dX1_isHit_11 rfl rfl ?_
      refine fX1_68 hX hb dX1_isHit_12 ?_
      refine g_iload_n (i := 2) hX dX1_isHit_15 rfl rfl ?_
      refine g_ialoadN hX ((hb).a4) rfl (hi) (by first | decide | assumption | omega) dX1_isHit_16 ?_
      refine g_aload_n (i := 0) hX dX1_isHit_17 rfl rfl ?_
      refine fX1_9 hX dX1_isHit_18 ?_
      refine g_icmp_ge (tgt := 28) hX dX1_isHit_21 (by decide) (fun h9 => absurd h9 ((by rw [hd, hc, i_le]; rw [i_lt] at h2; omega))) (fun _ => ?_)
      refine g_iconst hX dX1_isHit_24 ic1 ?_
      refine g_goto (tgt := 29) hX dX1_isHit_25 (by decide) ?_
      refine g_zret (st := []) hX hE rfl (nz_narrow (Or.inr rfl)).1 dX1_isHit_29 (⟨rfl, rfl⟩)
    · rw [if_neg (by unfold hitB; rw [decide_eq_true_iff]; exact fun z => h2 z.2)] at hE
      refine g_aload_n (i := 1) hX dX1_isHit_0 rfl rfl ?_
      refine fX1_68 hX hb dX1_isHit_1 ?_
      refine g_iload_n (i := 2) hX dX1_isHit_4 rfl rfl ?_
      refine g_ialoadN hX ((hb).a4) rfl (hi) (by first | decide | assumption | omega) dX1_isHit_5 ?_
      refine g_ldc hX ccX1_71 dX1_isHit_6 ?_
      refine g_icmp_eq (tgt := 28) hX dX1_isHit_8 (by decide) (fun h9 => absurd h9 ((by rw [hd]; exact h1))) (fun _ => ?_)
      refine g_aload_n (i := 1) hX dX1_isHit_11 rfl rfl ?_
      refine fX1_68 hX hb dX1_isHit_12 ?_
      refine g_iload_n (i := 2) hX dX1_isHit_15 rfl rfl ?_
      refine g_ialoadN hX ((hb).a4) rfl (hi) (by first | decide | assumption | omega) dX1_isHit_16 ?_
      refine g_aload_n (i := 0) hX dX1_isHit_17 rfl rfl ?_
      refine fX1_9 hX dX1_isHit_18 ?_
      refine g_icmp_ge (tgt := 28) hX dX1_isHit_21 (by decide) (fun _ => ?_) (fun h9 => absurd ((by rw [hd, hc, i_le]; rw [i_lt] at h2; omega)) h9)
      refine g_iconst hX dX1_isHit_28 ic0 ?_
      refine g_zret (st := []) hX hE rfl (nz_narrow (Or.inl rfl)).1 dX1_isHit_29 (⟨rfl, rfl⟩)
theorem c_takes {Γ : GG} {S : St} {b c i : Nat} {nm : Nat → Nat} {gr : Nat → Int32} (hb : IsRow b) (hi : i < 40) (hd : S.1 (b + 4) i = dep nm i) (hg : S.1 (b + 3) i = gr i) (hc : S.1 60 0 = nI c) : kX1_takes Γ [.ref (Γ.1 60), .ref (Γ.1 b), .int (nI i)] S (rI (tksN gr (S.1 60 1) (S.1 60 2) (hitB nm c i) i) S) := by
  refine oX1_takes (fun X hX hE => ?_)
  have hh := c_isHit (Γ := Γ) hb hi hd hc
  cases q : hitB nm c i with
  | true =>
    rw [q] at hE hh
    refine g_aload_n (i := 0) hX dX1_takes_0 rfl rfl ?_
    refine g_aload_n (i := 1) hX dX1_takes_1 rfl rfl ?_
    refine g_iload_n (i := 2) hX dX1_takes_2 rfl rfl ?_
    refine sX1_61 hX ⟨Nat.le_of_ble_eq_true rfl, Nat.le_of_ble_eq_true rfl⟩ (Nat.le_of_ble_eq_true rfl) dX1_takes_3 (hh) ?_
    refine g_if_eq (tgt := 16) hX dX1_takes_6 (by decide) (fun h9 => absurd h9 ((by decide))) (fun _ => ?_)
    refine g_aload_n (i := 0) hX dX1_takes_9 rfl rfl ?_
    refine fX1_15 hX dX1_takes_10 ?_
    refine g_goto (tgt := 32) hX dX1_takes_13 (by decide) ?_
    refine g_iret (st := []) hX hE rfl dX1_takes_32 (⟨rfl, rfl⟩)
  | false =>
    rw [q] at hE hh
    refine g_aload_n (i := 0) hX dX1_takes_0 rfl rfl ?_
    refine g_aload_n (i := 1) hX dX1_takes_1 rfl rfl ?_
    refine g_iload_n (i := 2) hX dX1_takes_2 rfl rfl ?_
    refine sX1_61 hX ⟨Nat.le_of_ble_eq_true rfl, Nat.le_of_ble_eq_true rfl⟩ (Nat.le_of_ble_eq_true rfl) dX1_takes_3 (hh) ?_
    refine g_if_eq (tgt := 16) hX dX1_takes_6 (by decide) (fun _ => ?_) (fun h9 => absurd ((by decide)) h9)
    refine g_aload_n (i := 0) hX dX1_takes_16 rfl rfl ?_
    refine fX1_15 hX dX1_takes_17 ?_
    refine g_aload_n (i := 0) hX dX1_takes_20 rfl rfl ?_
    refine fX1_18 hX dX1_takes_21 ?_
    refine g_iadd hX dX1_takes_24 ?_
    refine g_aload_n (i := 1) hX dX1_takes_25 rfl rfl ?_
    refine fX1_65 hX hb dX1_takes_26 ?_
    refine g_iload_n (i := 2) hX dX1_takes_29 rfl rfl ?_
    refine g_ialoadN hX ((hb).a3) rfl (hi) (by first | decide | assumption | omega) dX1_takes_30 ?_
    refine g_iadd hX dX1_takes_31 ?_
    refine g_iret (st := []) hX hE rfl dX1_takes_32 (⟨?_, rfl⟩)
    rw [hg]; rfl
theorem c_countCache {Γ : GG} {S : St} {b c i l q : Nat} {nm : Nat → Nat} (hb : IsRow b) (ha : IsArr q 6) (hq : ∀ x, (b ≤ x ∧ x < b + 5) ∨ x = 60 ∨ x = 61 → x ≠ q) (hi : i < 40) (hd : S.1 (b + 4) i = dep nm i) (hc : S.1 60 0 = nI c) (hc6 : c ≤ 6) (hl : S.1 q 4 = nI l) (hl10 : l ≤ 10) :
    kX1_countCache Γ [.ref (Γ.1 60), .ref (Γ.1 b), .int (nI i), .ref (Γ.1 q)] S (eV (fun S1 => (S1.1 q 0 = S.1 q 0 + (if hitB nm c i = true then 1 else 0) ∧ S1.1 q 1 = S.1 q 1 ∧ S1.1 q 2 = S.1 q 2 ∧ S1.1 q 4 = nI (l + (if dep nm i = -1000000 then 1 else 0)) ∧ S1.1 q 5 = S.1 q 5 + (if hitB nm c i = true then 0 else if c ≤ l then 1 else 0)) ∧ Fq [q] [] S S1)) := by
  refine oX1_countCache (fun X hX hE => ?_)
  have hh := c_isHit (Γ := Γ) hb hi hd hc
  cases z : hitB nm c i with
  | true =>
    rw [z] at hE hh
    have z1 : ¬ dep nm i = -1000000 := by
      unfold hitB at z; rw [decide_eq_true_iff] at z; exact z.1
    rw [if_neg z1] at hE
    refine g_aload_n (i := 0) hX dX1_countCache_0 rfl rfl ?_
    refine g_aload_n (i := 1) hX dX1_countCache_1 rfl rfl ?_
    refine g_iload_n (i := 2) hX dX1_countCache_2 rfl rfl ?_
    refine sX1_61 hX ⟨Nat.le_of_ble_eq_true rfl, Nat.le_of_ble_eq_true rfl⟩ (Nat.le_of_ble_eq_true rfl) dX1_countCache_3 (hh) ?_
    refine g_if_eq (tgt := 17) hX dX1_countCache_6 (by decide) (fun h9 => absurd h9 ((by decide))) (fun _ => ?_)
    refine g_aload_n (i := 3) hX dX1_countCache_9 rfl rfl ?_
    refine g_iconst hX dX1_countCache_10 ic0 ?_
    refine g_dup2 hX dX1_countCache_11 rfl rfl ?_
    refine g_ialoadN (i := 0) hX (ha) rfl (by decide) (by first | decide | assumption | omega) dX1_countCache_12 ?_
    refine g_iconst hX dX1_countCache_13 ic1 ?_
    refine g_iadd hX dX1_countCache_14 ?_
    refine g_iastoreN (i := 0) hX (ha) rfl (by decide) (by first | decide | assumption | omega) dX1_countCache_15 ?_
    refine g_vret (st := []) hX hE rfl dX1_countCache_16 (⟨rfl, ⟨?_, ?_, ?_, ?_, ?_⟩, Fq.rf.R (by simp)⟩)
    · rw [pR_self, upd_self]; rfl
    · rw [pR_self, upd_ne _ _ (by decide)]
    · rw [pR_self, upd_ne _ _ (by decide)]
    · rw [pR_self, upd_ne _ _ (by decide)]; exact hl
    · rw [pR_self, upd_ne _ _ (by decide)]; exact (Int32.add_zero _).symm
  | false =>
    rw [z] at hE hh
    have last : ∀ T v, T.1 q 0 = S.1 q 0 → T.1 q 1 = S.1 q 1 → T.1 q 2 = S.1 q 2 → T.1 q 4 = nI l → T.1 q 5 = S.1 q 5 + (if c ≤ l then 1 else 0) → Fq [q] [] S T → G Γ X T 46 [(0, .ref (Γ.1 60)), (1, .ref (Γ.1 b)), (2, .int (nI i)), (3, .ref (Γ.1 q)), (4, .int v)] [] := by
      intro T v t0 t1 t2 t4 t5 hF
      have hdT : T.1 (b + 4) i = dep nm i := by rw [hF.row (k := b + 4) (by simp only [List.mem_cons, List.not_mem_nil, or_false]; exact hq _ (by omega)) (fun _ z => by cases z)]; exact hd
      by_cases h1 : dep nm i = -1000000
      · rw [if_pos h1] at hE
        refine g_aload_n (i := 1) hX dX1_countCache_46 rfl rfl ?_
        refine fX1_68 hX hb dX1_countCache_47 ?_
        refine g_iload_n (i := 2) hX dX1_countCache_50 rfl rfl ?_
        refine g_ialoadN hX ((hb).a4) rfl (hi) (by first | decide | assumption | omega) dX1_countCache_51 ?_
        refine g_ldc hX ccX1_71 dX1_countCache_52 ?_
        refine g_icmp_ne (tgt := 64) hX dX1_countCache_54 (by decide) (fun h9 => absurd ((by rw [hdT, h1])) h9) (fun _ => ?_)
        refine g_aload_n (i := 3) hX dX1_countCache_57 rfl rfl ?_
        refine g_iconst hX dX1_countCache_58 ic4 ?_
        refine g_dup2 hX dX1_countCache_59 rfl rfl ?_
        refine g_ialoadN (i := 4) hX (ha) rfl (by decide) (by first | decide | assumption | omega) dX1_countCache_60 ?_
        refine g_iconst hX dX1_countCache_61 ic1 ?_
        refine g_iadd hX dX1_countCache_62 ?_
        refine g_iastoreN (i := 4) hX (ha) rfl (by decide) (by first | decide | assumption | omega) dX1_countCache_63 ?_
        refine g_vret (st := []) hX hE rfl dX1_countCache_64 (⟨rfl, ⟨?_, ?_, ?_, ?_, ?_⟩, hF.R (by simp)⟩)
        · rw [pR_self, upd_ne _ _ (by decide), t0]; exact (Int32.add_zero _).symm
        · rw [pR_self, upd_ne _ _ (by decide), t1]
        · rw [pR_self, upd_ne _ _ (by decide), t2]
        · rw [pR_self, upd_self, t4, nI_1]
        · rw [pR_self, upd_ne _ _ (by decide), t5]; rfl
      · rw [if_neg h1] at hE
        refine g_aload_n (i := 1) hX dX1_countCache_46 rfl rfl ?_
        refine fX1_68 hX hb dX1_countCache_47 ?_
        refine g_iload_n (i := 2) hX dX1_countCache_50 rfl rfl ?_
        refine g_ialoadN hX ((hb).a4) rfl (hi) (by first | decide | assumption | omega) dX1_countCache_51 ?_
        refine g_ldc hX ccX1_71 dX1_countCache_52 ?_
        refine g_icmp_ne (tgt := 64) hX dX1_countCache_54 (by decide) (fun _ => ?_) (fun h9 => absurd h9 ((by rw [hdT]; exact h1)))
        refine g_vret (st := []) hX hE rfl dX1_countCache_64 (⟨rfl, ⟨?_, ?_, ?_, ?_, ?_⟩, hF⟩)
        · rw [t0]; exact (Int32.add_zero _).symm
        · exact t1
        · exact t2
        · exact t4
        · rw [t5]; rfl
    by_cases h2 : c ≤ l
    · refine g_aload_n (i := 0) hX dX1_countCache_0 rfl rfl ?_
      refine g_aload_n (i := 1) hX dX1_countCache_1 rfl rfl ?_
      refine g_iload_n (i := 2) hX dX1_countCache_2 rfl rfl ?_
      refine sX1_61 hX ⟨Nat.le_of_ble_eq_true rfl, Nat.le_of_ble_eq_true rfl⟩ (Nat.le_of_ble_eq_true rfl) dX1_countCache_3 (hh) ?_
      refine g_if_eq (tgt := 17) hX dX1_countCache_6 (by decide) (fun _ => ?_) (fun h9 => absurd ((by decide)) h9)
      refine g_aload_n (i := 3) hX dX1_countCache_17 rfl rfl ?_
      refine g_iconst hX dX1_countCache_18 ic4 ?_
      refine g_ialoadN (i := 4) hX (ha) rfl (by decide) (by first | decide | assumption | omega) dX1_countCache_19 ?_
      refine g_aload_n (i := 0) hX dX1_countCache_20 rfl rfl ?_
      refine fX1_9 hX dX1_countCache_21 ?_
      refine g_icmp_lt (tgt := 31) hX dX1_countCache_24 (by decide) (fun h9 => absurd h9 ((by rw [hl, hc]; exact nI_nlt h2 (by omega)))) (fun _ => ?_)
      refine g_iconst hX dX1_countCache_27 ic1 ?_
      refine g_goto (tgt := 32) hX dX1_countCache_28 (by decide) ?_
      refine g_istore hX dX1_countCache_32 (by decide) rfl ?_
      refine g_iload hX dX1_countCache_34 rfl ?_
      refine g_if_eq (tgt := 46) hX dX1_countCache_36 (by decide) (fun h9 => absurd h9 ((by decide))) (fun _ => ?_)
      refine g_aload_n (i := 3) hX dX1_countCache_39 rfl rfl ?_
      refine g_iconst hX dX1_countCache_40 ic5 ?_
      refine g_dup2 hX dX1_countCache_41 rfl rfl ?_
      refine g_ialoadN (i := 5) hX (ha) rfl (by decide) (by first | decide | assumption | omega) dX1_countCache_42 ?_
      refine g_iconst hX dX1_countCache_43 ic1 ?_
      refine g_iadd hX dX1_countCache_44 ?_
      refine g_iastoreN (i := 5) hX (ha) rfl (by decide) (by first | decide | assumption | omega) dX1_countCache_45 ?_
      refine last _ _ ?_ ?_ ?_ ?_ ?_ (Fq.rf.R (by simp))
      · rw [pR_self, upd_ne _ _ (by decide)]
      · rw [pR_self, upd_ne _ _ (by decide)]
      · rw [pR_self, upd_ne _ _ (by decide)]
      · rw [pR_self, upd_ne _ _ (by decide)]; exact hl
      · rw [pR_self, upd_self, if_pos h2]
    · refine g_aload_n (i := 0) hX dX1_countCache_0 rfl rfl ?_
      refine g_aload_n (i := 1) hX dX1_countCache_1 rfl rfl ?_
      refine g_iload_n (i := 2) hX dX1_countCache_2 rfl rfl ?_
      refine sX1_61 hX ⟨Nat.le_of_ble_eq_true rfl, Nat.le_of_ble_eq_true rfl⟩ (Nat.le_of_ble_eq_true rfl) dX1_countCache_3 (hh) ?_
      refine g_if_eq (tgt := 17) hX dX1_countCache_6 (by decide) (fun _ => ?_) (fun h9 => absurd ((by decide)) h9)
      refine g_aload_n (i := 3) hX dX1_countCache_17 rfl rfl ?_
      refine g_iconst hX dX1_countCache_18 ic4 ?_
      refine g_ialoadN (i := 4) hX (ha) rfl (by decide) (by first | decide | assumption | omega) dX1_countCache_19 ?_
      refine g_aload_n (i := 0) hX dX1_countCache_20 rfl rfl ?_
      refine fX1_9 hX dX1_countCache_21 ?_
      refine g_icmp_lt (tgt := 31) hX dX1_countCache_24 (by decide) (fun _ => ?_) (fun h9 => absurd ((by rw [hl, hc, i_lt, nI_toInt (by omega), nI_toInt (by omega)]; omega)) h9)
      refine g_iconst hX dX1_countCache_31 ic0 ?_
      refine g_istore hX dX1_countCache_32 (by decide) rfl ?_
      refine g_iload hX dX1_countCache_34 rfl ?_
      refine g_if_eq (tgt := 46) hX dX1_countCache_36 (by decide) (fun _ => ?_) (fun h9 => absurd (rfl) h9)
      exact last _ _ rfl rfl rfl hl (by rw [if_neg h2, Int32.add_zero]) Fq.rf
theorem c_house {Γ : GG} {S : St} {b n c k q : Nat} {tk : Nat → Int32} {nm : Nat → Nat} {gr : Nat → Int32} (hb : IsRow b) (hr : RwC S b n tk nm gr) (ha : IsArr q 6) (hq : ∀ x, (b ≤ x ∧ x < b + 5) ∨ x = 60 ∨ x = 61 → x ≠ q) (hb6 : b + 5 ≤ 60) (hk : k < 5) (hc : S.1 60 0 = nI c) (hc6 : c ≤ 6) :
    kX1_step Γ [.ref (Γ.1 60), .ref (Γ.1 b), .int (nI k), .ref (Γ.1 q)] S (eV (fun S1 => Num6 S1 q (hsN tk nm gr c (S.1 60 1) (S.1 60 2) k n) (mru nm n).length ∧ Fq [61, q] [] S S1)) := by
  refine oX1_step (fun X hX hE => ?_)
  have h40 := hr.1
  have hnm : ∀ i, i < n → nm i < 10 := fun i hi => (hr.2.2 i hi).2.2.1
  have q61 : 61 ≠ q := hq 61 (by omega)
  have ff : ∀ T, Fq [61, q] [] S T → RwC T b n tk nm gr ∧ T.1 60 0 = nI c ∧ T.1 60 = S.1 60 := by
    intro T hF
    have h6 : T.1 60 = S.1 60 := hF.row (by simp only [List.mem_cons, List.not_mem_nil, or_false]; exact fun z => z.elim (by omega) (hq 60 (by omega))) (fun _ z => by cases z)
    exact ⟨hr.keep (fun x hx => hF.row (by simp only [List.mem_cons, List.not_mem_nil, or_false]; exact fun z => z.elim (by omega) (hq x (by omega))) (fun _ z => by cases z)), by rw [h6]; exact hc, h6⟩
  have loop : ∀ d i T, i + d = n → T.1 q 0 = (hsN tk nm gr c (S.1 60 1) (S.1 60 2) k i).a → T.1 q 1 = (hsN tk nm gr c (S.1 60 1) (S.1 60 2) k i).b → T.1 q 2 = (hsN tk nm gr c (S.1 60 1) (S.1 60 2) k i).w → T.1 q 4 = nI (mru nm i).length → T.1 q 5 = (hsN tk nm gr c (S.1 60 1) (S.1 60 2) k i).g → (∀ j, j < i → T.1 61 j = (hsN tk nm gr c (S.1 60 1) (S.1 60 2) k i).e j) → Fq [61, q] [] S T → G Γ X T 19 [(0, .ref (Γ.1 60)), (1, .ref (Γ.1 b)), (2, .int (nI k)), (3, .ref (Γ.1 q)), (4, .int (hsN tk nm gr c (S.1 60 1) (S.1 60 2) k i).f), (5, .int (nI i))] [] := by
    intro d
    induction d with
    | zero =>
      intro i T hi t0 t1 t2 t4 t5 te hF
      obtain rfl : i = n := by omega
      obtain ⟨f1, f2, f3⟩ := ff T hF
      refine g_iload hX dX1_step_19 rfl ?_
      refine g_aload_n (i := 1) hX dX1_step_21 rfl rfl ?_
      refine fX1_31 hX hb dX1_step_22 ?_
      refine g_icmp_ge (tgt := 107) hX dX1_step_25 (by decide) (fun _ => ?_) (fun h9 => absurd ((by rw [f1.2.1]; exact nI_le (Nat.le_refl _) (by omega))) h9)
      refine g_aload_n (i := 3) hX dX1_step_107 rfl rfl ?_
      refine g_iconst hX dX1_step_108 ic3 ?_
      refine g_iload hX dX1_step_109 rfl ?_
      refine g_iastoreN (i := 3) hX (ha) rfl (by decide) (by first | decide | assumption | omega) dX1_step_111 ?_
      refine g_vret (st := []) hX hE rfl dX1_step_112 (⟨rfl, ⟨?_, ?_, ?_, ?_, ?_, ?_⟩, hF.R (by simp)⟩)
      · rw [pR_self, upd_ne _ _ (by decide)]; exact t0
      · rw [pR_self, upd_ne _ _ (by decide)]; exact t1
      · rw [pR_self, upd_ne _ _ (by decide)]; exact t2
      · rw [pR_self, upd_self]
      · rw [pR_self, upd_ne _ _ (by decide)]; exact t4
      · rw [pR_self, upd_ne _ _ (by decide)]; exact t5
    | succ d ih =>
      intro i T hi t0 t1 t2 t4 t5 te hF
      obtain ⟨f1, f2, f3⟩ := ff T hF
      have hin : i < n := by omega
      have hi4 : i < 40 := by omega
      have h10 : ∀ j, j < i → nm j < 10 := fun j hj => hnm j (by omega)
      obtain ⟨q1, q2, q3, q4, q5⟩ := f1.2.2 i hin
      have ih2 := ih (i + 1)
      rw [show hsN tk nm gr c (S.1 60 1) (S.1 60 2) k (i + 1) = hsS tk nm gr c (S.1 60 1) (S.1 60 2) k i (hsN tk nm gr c (S.1 60 1) (S.1 60 2) k i) from rfl] at ih2
      generalize hsN tk nm gr c (S.1 60 1) (S.1 60 2) k i = s at *
      have c1 := c_comesAt (Γ := Γ) (S := T) (k := k) (E := s.e) hb hi4 hk (fun j hj => (f1.2.2 j (by omega)).1) te
      have c2 := c_takes (Γ := Γ) (gr := gr) hb hi4 q5 q4 f2
      rw [f3] at c2
      have eB : (if comN tk k s.e i < s.f then s.f else comN tk k s.e i) = begN tk k i s := rfl
      have eL : begN tk k i s - comN tk k s.e i = latN tk k i s := rfl
      have eE : begN tk k i s + tksN gr (S.1 60 1) (S.1 60 2) (hitB nm c i) i = endN tk nm gr c (S.1 60 1) (S.1 60 2) k i s := rfl
      refine g_iload hX dX1_step_19 rfl ?_
      refine g_aload_n (i := 1) hX dX1_step_21 rfl rfl ?_
      refine fX1_31 hX hb dX1_step_22 ?_
      refine g_icmp_ge (tgt := 107) hX dX1_step_25 (by decide) (fun h9 => absurd h9 ((by rw [f1.2.1]; exact nI_ge hin (by omega)))) (fun _ => ?_)
      refine g_aload_n (i := 0) hX dX1_step_28 rfl rfl ?_
      refine g_aload_n (i := 1) hX dX1_step_29 rfl rfl ?_
      refine g_iload hX dX1_step_30 rfl ?_
      refine g_iload_n (i := 2) hX dX1_step_32 rfl rfl ?_
      refine sX1_36 hX ⟨Nat.le_of_ble_eq_true rfl, Nat.le_of_ble_eq_true rfl⟩ (Nat.le_of_ble_eq_true rfl) dX1_step_33 (c1) ?_
      refine g_istore hX dX1_step_36 (by decide) rfl ?_
      refine g_iload hX dX1_step_38 rfl ?_
      refine g_iload hX dX1_step_40 rfl ?_
      refine sX1_40 hX (Nat.le_of_ble_eq_true rfl) (Nat.le_of_ble_eq_true rfl) dX1_step_42 ?_
      rw [eB]
      refine g_istore hX dX1_step_45 (by decide) rfl ?_
      refine g_iload hX dX1_step_47 rfl ?_
      refine g_aload_n (i := 0) hX dX1_step_49 rfl rfl ?_
      refine g_aload_n (i := 1) hX dX1_step_50 rfl rfl ?_
      refine g_iload hX dX1_step_51 rfl ?_
      refine sX1_46 hX ⟨Nat.le_of_ble_eq_true rfl, Nat.le_of_ble_eq_true rfl⟩ (Nat.le_of_ble_eq_true rfl) dX1_step_53 (c2) ?_
      refine g_iadd hX dX1_step_56 ?_
      rw [eE]
      refine g_istore hX dX1_step_57 (by decide) rfl ?_
      refine g_aload_n (i := 0) hX dX1_step_59 rfl rfl ?_
      refine fX1_21 hX dX1_step_60 ?_
      refine g_iload hX dX1_step_63 rfl ?_
      refine g_iload hX dX1_step_65 rfl ?_
      refine g_iastoreN hX (ia61) rfl (hi4) (by first | decide | assumption | omega) dX1_step_67 ?_
      refine g_aload_n (i := 3) hX dX1_step_68 rfl rfl ?_
      refine g_iconst hX dX1_step_69 ic1 ?_
      refine g_dup2 hX dX1_step_70 rfl rfl ?_
      refine g_ialoadN (i := 1) hX (ha) rfl (by decide) (by first | decide | assumption | omega) dX1_step_71 ?_
      refine g_iload hX dX1_step_72 rfl ?_
      refine g_iload hX dX1_step_74 rfl ?_
      refine g_isub hX dX1_step_76 ?_
      rw [eL]
      refine g_iadd hX dX1_step_77 ?_
      refine g_iastoreN (i := 1) hX (ha) rfl (by decide) (by first | decide | assumption | omega) dX1_step_78 ?_
      refine g_aload_n (i := 3) hX dX1_step_79 rfl rfl ?_
      refine g_iconst hX dX1_step_80 ic2 ?_
      refine g_aload_n (i := 3) hX dX1_step_81 rfl rfl ?_
      refine g_iconst hX dX1_step_82 ic2 ?_
      refine g_ialoadN (i := 2) hX (ha) rfl (by decide) (by first | decide | assumption | omega) dX1_step_83 ?_
      refine g_iload hX dX1_step_84 rfl ?_
      refine g_iload hX dX1_step_86 rfl ?_
      refine g_isub hX dX1_step_88 ?_
      rw [eL]
      have a1 : (pI T 61 i (endN tk nm gr c (S.1 60 1) (S.1 60 2) k i s)).1 q = T.1 q := pR_ne _ _ (fun z => q61 z.symm)
      rw [a1]
      have a2 : (pI (pI T 61 i (endN tk nm gr c (S.1 60 1) (S.1 60 2) k i s)) q 1 (T.1 q 1 + latN tk k i s)).1 q 2 = s.w := by rw [pR_self, upd_ne _ _ (by decide), a1]; exact t2
      rw [a2, t1]
      rw [t1] at a2
      refine sX1_40 hX (Nat.le_of_ble_eq_true rfl) (Nat.le_of_ble_eq_true rfl) dX1_step_89 ?_
      refine g_iastoreN (i := 2) hX (ha) rfl (by decide) (by first | decide | assumption | omega) dX1_step_92 ?_
      have eW : (if s.w < latN tk k i s then latN tk k i s else s.w) = mxI s.w (latN tk k i s) := rfl
      rw [eW]
      generalize hU : pI (pI (pI T 61 i (endN tk nm gr c (S.1 60 1) (S.1 60 2) k i s)) q 1 (s.b + latN tk k i s)) q 2 (mxI s.w (latN tk k i s)) = U
      have hFU : Fq [61, q] [] S U := by subst hU; exact ((hF.R (by simp)).R (by simp)).R (by simp)
      have u0 : U.1 q 0 = s.a := by subst hU; rw [pR_self, upd_ne _ _ (by decide), pR_self, upd_ne _ _ (by decide), a1]; exact t0
      have u1 : U.1 q 1 = s.b + latN tk k i s := by subst hU; rw [pR_self, upd_ne _ _ (by decide), pR_self, upd_self]
      have u2 : U.1 q 2 = mxI s.w (latN tk k i s) := by subst hU; rw [pR_self, upd_self]
      have u4 : U.1 q 4 = nI (mru nm i).length := by subst hU; rw [pR_self, upd_ne _ _ (by decide), pR_self, upd_ne _ _ (by decide), a1]; exact t4
      have u5 : U.1 q 5 = s.g := by subst hU; rw [pR_self, upd_ne _ _ (by decide), pR_self, upd_ne _ _ (by decide), a1]; exact t5
      have ue : U.1 61 = upd (T.1 61) i (endN tk nm gr c (S.1 60 1) (S.1 60 2) k i s) := by subst hU; rw [pR_ne _ _ q61, pR_ne _ _ q61, pR_self]
      clear hU a1 a2
      obtain ⟨g1, g2, g3⟩ := ff U hFU
      have c3 := c_countCache (Γ := Γ) (nm := nm) hb ha hq hi4 (g1.2.2 i hin).2.2.2.2 g2 hc6 u4 (mru_len h10)
      refine g_aload_n (i := 0) hX dX1_step_93 rfl rfl ?_
      refine g_aload_n (i := 1) hX dX1_step_94 rfl rfl ?_
      refine g_iload hX dX1_step_95 rfl ?_
      refine g_aload_n (i := 3) hX dX1_step_97 rfl rfl ?_
      refine eX1_50 hX ⟨Nat.le_of_ble_eq_true rfl, Nat.le_of_ble_eq_true rfl⟩ (Nat.le_of_ble_eq_true rfl) dX1_step_98 (c3) (fun V hV => ?_)
      refine g_iinc hX dX1_step_101 rfl ic1 (by decide) rfl ?_
      refine g_goto (tgt := 19) hX dX1_step_104 (by decide) ?_
      obtain ⟨⟨v0, v1, v2, v4, v5⟩, hV2⟩ := hV
      have v61 : V.1 61 = U.1 61 := hV2.row (by simp only [List.mem_cons, List.not_mem_nil, or_false]; exact q61) (fun _ z => by cases z)
      rw [nI_1]
      refine g_weak (ih2 V (by omega) ?_ ?_ ?_ ?_ ?_ ?_ (hFU.tr (hV2.mono (by simp) (fun _ z => by cases z)))) (as_c rfl (as_c rfl (as_c rfl (as_c rfl (as_c rfl (as_c rfl (as_n)))))))
      · rw [v0, u0]; rfl
      · rw [v1, u1]; rfl
      · rw [v2, u2]; rfl
      · rw [v4, mru_new h10]
      · rw [v5, u5]; rfl
      · intro j hj
        rw [v61, ue]
        show upd (T.1 61) i _ j = upd s.e i _ j
        by_cases e : j = i
        · subst e; rw [upd_self, upd_self]
        · rw [upd_ne _ _ e, upd_ne _ _ e]; exact te j (by omega)
  refine g_aload_n (i := 3) hX dX1_step_0 rfl rfl ?_
  refine g_iconst hX dX1_step_1 ic0 ?_
  refine sX1_25 hX ⟨Nat.le_of_ble_eq_true rfl, Nat.le_of_ble_eq_true rfl⟩ (Nat.le_of_ble_eq_true rfl) dX1_step_2 (c_fill ha (by decide)) ?_
  refine g_aload_n (i := 3) hX dX1_step_5 rfl rfl ?_
  refine g_alen hX (ha).1 (ha).2 dX1_step_6 ?_
  refine g_bipush hX dX1_step_7 bp6 ?_
  refine g_icmp_ge (tgt := 13) hX dX1_step_9 (by decide) (fun _ => ?_) (fun h9 => absurd ((by decide)) h9)
  refine g_iconst hX dX1_step_13 ic0 ?_
  refine g_istore hX dX1_step_14 (by decide) rfl ?_
  refine g_iconst hX dX1_step_16 ic0 ?_
  refine g_istore hX dX1_step_17 (by decide) rfl ?_
  refine loop n 0 _ (by omega) ?_ ?_ ?_ ?_ ?_ (fun j hj => absurd hj (by omega)) (Fq.rf.R (by simp)) <;> (rw [pR_self]; rfl)
