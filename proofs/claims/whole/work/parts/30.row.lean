/-! rows: the class's -/
theorem sub1 (x : Int32) : x - 1 = x + (-1) := Int32.sub_eq_add_neg x 1
theorem c_lastTick {Γ : GG} {S : St} {b n : Nat} (hb : IsRow b) (hn : n ≤ 40) (hc : S.1 b 4 = nI n) : kX6_lastTick Γ [.ref (Γ.1 b)] S (rI (if n = 0 then 0 else S.1 (b + 1) (n - 1)) S) := by
  refine oX6_lastTick (fun X hX hE => ?_)
  by_cases h : n = 0
  · subst h
    refine g_aload_n (i := 0) hX dX6_lastTick_0 rfl rfl ?_
    refine fX6_24 hX hb dX6_lastTick_1 ?_
    refine g_if_ne (tgt := 11) hX dX6_lastTick_4 (by decide) (fun h9 => absurd (hc) h9) (fun _ => ?_)
    refine g_iconst hX dX6_lastTick_7 ic0 ?_
    refine g_goto (tgt := 22) hX dX6_lastTick_8 (by decide) ?_
    refine g_iret (st := []) hX hE rfl dX6_lastTick_22 (⟨rfl, rfl⟩)
  · rw [if_neg h] at hE
    refine g_aload_n (i := 0) hX dX6_lastTick_0 rfl rfl ?_
    refine fX6_24 hX hb dX6_lastTick_1 ?_
    refine g_if_ne (tgt := 11) hX dX6_lastTick_4 (by decide) (fun _ => ?_) (fun h9 => absurd h9 ((by rw [hc]; exact nI_ne0 (by omega) (by omega))))
    refine g_aload_n (i := 0) hX dX6_lastTick_11 rfl rfl ?_
    refine fX6_9 hX hb dX6_lastTick_12 ?_
    refine g_aload_n (i := 0) hX dX6_lastTick_15 rfl rfl ?_
    refine fX6_24 hX hb dX6_lastTick_16 ?_
    refine g_iconst hX dX6_lastTick_19 ic1 ?_
    refine g_isub hX dX6_lastTick_20 ?_
    refine g_ialoadN hX ((hb).a1) ((by rw [hc]; exact nI_m1 (by omega))) ((show n - 1 < 40 by omega)) (by first | decide | assumption | omega) dX6_lastTick_21 ?_
    refine g_iret (st := []) hX hE rfl dX6_lastTick_22 (⟨rfl, rfl⟩)
/-- the gap before ask i -/
def gapN (tk : Nat → Int32) (i : Nat) : Int32 := if i = 0 then tk 0 else tk i - tk (i - 1)
theorem c_gapOf {Γ : GG} {S : St} {b i : Nat} (hb : IsRow b) (hi : i < 40) : kX6_gapOf Γ [.ref (Γ.1 b), .int (nI i)] S (rI (gapN (S.1 (b + 1)) i) S) := by
  refine oX6_gapOf (fun X hX hE => ?_)
  by_cases h : i = 0
  · subst h
    refine g_iload_n (i := 1) hX dX6_gapOf_0 rfl rfl ?_
    refine g_if_ne (tgt := 13) hX dX6_gapOf_1 (by decide) (fun h9 => absurd (rfl) h9) (fun _ => ?_)
    refine g_aload_n (i := 0) hX dX6_gapOf_4 rfl rfl ?_
    refine fX6_9 hX hb dX6_gapOf_5 ?_
    refine g_iconst hX dX6_gapOf_8 ic0 ?_
    refine g_ialoadN (i := 0) hX ((hb).a1) rfl (by decide) (by first | decide | assumption | omega) dX6_gapOf_9 ?_
    refine g_goto (tgt := 28) hX dX6_gapOf_10 (by decide) ?_
    refine g_iret (st := []) hX hE rfl dX6_gapOf_28 (⟨rfl, rfl⟩)
  · rw [show gapN (S.1 (b + 1)) i = S.1 (b + 1) i - S.1 (b + 1) (i - 1) from if_neg h] at hE
    refine g_iload_n (i := 1) hX dX6_gapOf_0 rfl rfl ?_
    refine g_if_ne (tgt := 13) hX dX6_gapOf_1 (by decide) (fun _ => ?_) (fun h9 => absurd h9 ((nI_ne0 (by omega) (by omega))))
    refine g_aload_n (i := 0) hX dX6_gapOf_13 rfl rfl ?_
    refine fX6_9 hX hb dX6_gapOf_14 ?_
    refine g_iload_n (i := 1) hX dX6_gapOf_17 rfl rfl ?_
    refine g_ialoadN hX ((hb).a1) rfl (hi) (by first | decide | assumption | omega) dX6_gapOf_18 ?_
    refine g_aload_n (i := 0) hX dX6_gapOf_19 rfl rfl ?_
    refine fX6_9 hX hb dX6_gapOf_20 ?_
    refine g_iload_n (i := 1) hX dX6_gapOf_23 rfl rfl ?_
    refine g_iconst hX dX6_gapOf_24 ic1 ?_
    refine g_isub hX dX6_gapOf_25 ?_
    refine g_ialoadN hX ((hb).a1) (nI_m1 (by omega)) ((show i - 1 < 40 by omega)) (by first | decide | assumption | omega) dX6_gapOf_26 ?_
    refine g_isub hX dX6_gapOf_27 ?_
    refine g_iret (st := []) hX hE rfl dX6_gapOf_28 (⟨rfl, rfl⟩)
theorem c_depthOf {Γ : GG} {S : St} {b n x : Nat} {nm : Nat → Nat} (hb : IsRow b) (hn : n ≤ 40) (hc : S.1 b 4 = nI n) (hx : x < 10) (hnm : ∀ i, i < n → S.1 (b + 2) i = nI (nm i) ∧ nm i < 10) : kX6_depthOf Γ [.ref (Γ.1 b), .int (nI x)] S (rI (scan nm x n 0) S) := by
  refine oX6_depthOf (fun X hX hE => ?_)
  have loop : ∀ k m, k ≤ n → m < 1024 → scan nm x k m = scan nm x n 0 → G Γ X S 9 [(0, .ref (Γ.1 b)), (1, .int (nI x)), (2, .int (nI m)), (3, .int (nI k + (-1)))] [] := by
    intro k
    induction k with
    | zero =>
      intro m hk hm e
      refine g_iload_n (i := 3) hX dX6_depthOf_9 rfl rfl ?_
      refine g_if_lt (tgt := 45) hX dX6_depthOf_10 (by decide) (fun _ => ?_) (fun h9 => absurd ((by decide)) h9)
      refine g_ldc hX ccX6_41 dX6_depthOf_45 ?_
      refine g_iret (st := []) hX hE rfl dX6_depthOf_47 (⟨?_, rfl⟩)
      rw [← e]; rfl
    | succ k ih =>
      intro m hk hm e
      obtain ⟨e1, e2⟩ := hnm k (by omega)
      rw [pk_m1]
      by_cases h : nm k = x
      · refine g_iload_n (i := 3) hX dX6_depthOf_9 rfl rfl ?_
        refine g_if_lt (tgt := 45) hX dX6_depthOf_10 (by decide) (fun h9 => absurd h9 (nI_pos (by omega))) (fun _ => ?_)
        refine g_aload_n (i := 0) hX dX6_depthOf_13 rfl rfl ?_
        refine fX6_15 hX hb dX6_depthOf_14 ?_
        refine g_iload_n (i := 3) hX dX6_depthOf_17 rfl rfl ?_
        refine g_ialoadN hX ((hb).a2) rfl ((show k < 40 by omega)) (by first | decide | assumption | omega) dX6_depthOf_18 ?_
        refine g_iload_n (i := 1) hX dX6_depthOf_19 rfl rfl ?_
        refine g_icmp_ne (tgt := 28) hX dX6_depthOf_20 (by decide) (fun h9 => absurd ((by rw [e1, h])) h9) (fun _ => ?_)
        refine g_iload_n (i := 2) hX dX6_depthOf_23 rfl rfl ?_
        refine sX6_36 hX ⟨Nat.le_of_ble_eq_true rfl, Nat.le_of_ble_eq_true rfl⟩ (Nat.le_of_ble_eq_true rfl) dX6_depthOf_24 (c_bitCount) ?_
        refine g_iret (st := []) hX hE rfl dX6_depthOf_27 (⟨?_, rfl⟩)
        rw [← e, scan, if_pos h, bc_popA m hm]
      · refine g_iload_n (i := 3) hX dX6_depthOf_9 rfl rfl ?_
        refine g_if_lt (tgt := 45) hX dX6_depthOf_10 (by decide) (fun h9 => absurd h9 (nI_pos (by omega))) (fun _ => ?_)
        refine g_aload_n (i := 0) hX dX6_depthOf_13 rfl rfl ?_
        refine fX6_15 hX hb dX6_depthOf_14 ?_
        refine g_iload_n (i := 3) hX dX6_depthOf_17 rfl rfl ?_
        refine g_ialoadN hX ((hb).a2) rfl ((show k < 40 by omega)) (by first | decide | assumption | omega) dX6_depthOf_18 ?_
        refine g_iload_n (i := 1) hX dX6_depthOf_19 rfl rfl ?_
        refine g_icmp_ne (tgt := 28) hX dX6_depthOf_20 (by decide) (fun _ => ?_) (fun h9 => absurd h9 ((by rw [e1]; exact nI_ne (by omega) (by omega) h)))
        refine g_iload_n (i := 2) hX dX6_depthOf_28 rfl rfl ?_
        refine g_iconst hX dX6_depthOf_29 ic1 ?_
        refine g_aload_n (i := 0) hX dX6_depthOf_30 rfl rfl ?_
        refine fX6_15 hX hb dX6_depthOf_31 ?_
        refine g_iload_n (i := 3) hX dX6_depthOf_34 rfl rfl ?_
        refine g_ialoadN hX ((hb).a2) rfl ((show k < 40 by omega)) (by first | decide | assumption | omega) dX6_depthOf_35 ?_
        refine g_ishl hX dX6_depthOf_36 ?_
        refine g_ior hX dX6_depthOf_37 ?_
        refine g_istore_n (i := 2) hX dX6_depthOf_38 rfl (by decide) rfl ?_
        refine g_iinc hX dX6_depthOf_39 rfl icm1 (by decide) rfl ?_
        refine g_goto (tgt := 9) hX dX6_depthOf_42 (by decide) ?_
        rw [e1, shl_name _ e2, (or_name m hm _ e2).1]
        exact ih _ (by omega) (or_name m hm _ e2).2 (by rw [← e, scan, if_neg h])
  refine g_iconst hX dX6_depthOf_0 ic0 ?_
  refine g_istore_n (i := 2) hX dX6_depthOf_1 rfl (by decide) rfl ?_
  refine g_aload_n (i := 0) hX dX6_depthOf_2 rfl rfl ?_
  refine fX6_24 hX hb dX6_depthOf_3 ?_
  refine g_iconst hX dX6_depthOf_6 ic1 ?_
  refine g_isub hX dX6_depthOf_7 ?_
  refine g_istore_n (i := 3) hX dX6_depthOf_8 rfl (by decide) rfl ?_
  rw [hc, sub1]
  exact loop n 0 (Nat.le_refl n) (by decide) rfl
theorem scan_congr {nm nm' : Nat → Nat} {x : Nat} : ∀ k m, (∀ j, j < k → nm' j = nm j) → scan nm' x k m = scan nm x k m := by
  intro k
  induction k with
  | zero => intro m _; rfl
  | succ k ih =>
    intro m h
    simp only [scan]
    rw [h k (by omega), ih _ (fun j hj => h j (by omega))]
theorem dep_congr {nm nm' : Nat → Nat} {i : Nat} (h : ∀ j, j ≤ i → nm' j = nm j) : dep nm' i = dep nm i := by
  unfold dep
  rw [h i (Nat.le_refl i), scan_congr i 0 (fun j hj => h j (by omega))]
theorem RwC.congr {S : St} {b n : Nat} {tk tk' : Nat → Int32} {nm nm' : Nat → Nat} {gr gr' : Nat → Int32} (h : RwC S b n tk nm gr) (h1 : ∀ i, i < n → tk' i = tk i) (h2 : ∀ i, i < n → nm' i = nm i) (h3 : ∀ i, i < n → gr' i = gr i) : RwC S b n tk' nm' gr' := by
  refine ⟨h.1, h.2.1, fun i hi => ?_⟩
  obtain ⟨a, c, d, e, f⟩ := h.2.2 i hi
  exact ⟨by rw [h1 i hi]; exact a, by rw [h2 i hi]; exact c, by rw [h2 i hi]; exact d, by rw [h3 i hi]; exact e, by rw [dep_congr (fun j hj => h2 j (by omega))]; exact f⟩
/-- one ask comes behind -/
theorem c_append_t {Γ : GG} {S : St} {b n : Nat} {tk : Nat → Int32} {nm : Nat → Nat} {gr : Nat → Int32} (hb : IsRow b) (h : RwC S b n tk nm gr) (hn : n < 40) (hx : nm n < 10) : kX6_append Γ [.ref (Γ.1 b), .int (tk n), .int (nI (nm n)), .int (gr n)] S (eV (fun S1 => RwC S1 b (n + 1) tk nm gr ∧ Fq [b, b + 1, b + 2, b + 3, b + 4] [] S S1)) := by
  refine oX6_append (fun X hX hE => ?_)
  obtain ⟨h0, hc, hr⟩ := h
  have hd : kX6_depthOf Γ [.ref (Γ.1 b), .int (nI (nm n))] S (rI (dep nm n) S) := c_depthOf hb h0 hc hx (fun i hi => ⟨(hr i hi).2.1, (hr i hi).2.2.1⟩)
  have c1 : ∀ f, (pR S (b + 4) f).1 b 4 = nI n := fun f => by rw [pR_ne _ _ (by omega), hc]
  have c2 : ∀ f g, (pR (pR S (b + 4) f) (b + 1) g).1 b 4 = nI n := fun f g => by rw [pR_ne _ _ (by omega), c1]
  have c3 : ∀ f g h, (pR (pR (pR S (b + 4) f) (b + 1) g) (b + 2) h).1 b 4 = nI n := fun f g h => by rw [pR_ne _ _ (by omega), c2]
  have c4 : ∀ f g h e, (pR (pR (pR (pR S (b + 4) f) (b + 1) g) (b + 2) h) (b + 3) e).1 b 4 = nI n := fun f g h e => by rw [pR_ne _ _ (by omega), c3]
  refine g_aload_n (i := 0) hX dX6_append_0 rfl rfl ?_
  refine fX6_24 hX hb dX6_append_1 ?_
  refine g_bipush hX dX6_append_4 bp40 ?_
  refine sX6_28 hX ⟨Nat.le_of_ble_eq_true rfl, Nat.le_of_ble_eq_true rfl⟩ (Nat.le_of_ble_eq_true rfl) dX6_append_6 ((by rw [hc]; exact isB_t (n := 40) hn (by decide))) ?_
  refine g_if_ne (tgt := 13) hX dX6_append_9 (by decide) (fun _ => ?_) (fun h9 => absurd h9 ((by decide)))
  refine g_aload_n (i := 0) hX dX6_append_13 rfl rfl ?_
  refine fX6_21 hX hb dX6_append_14 ?_
  refine g_aload_n (i := 0) hX dX6_append_17 rfl rfl ?_
  refine fX6_24 hX hb dX6_append_18 ?_
  refine g_aload_n (i := 0) hX dX6_append_21 rfl rfl ?_
  refine g_iload_n (i := 2) hX dX6_append_22 rfl rfl ?_
  refine sX6_32 hX hb ⟨Nat.le_of_ble_eq_true rfl, Nat.le_of_ble_eq_true rfl⟩ (Nat.le_of_ble_eq_true rfl) dX6_append_23 (hd) ?_
  refine g_iastoreN hX ((hb).a4) (hc) (hn) (by first | decide | assumption | omega) dX6_append_26 ?_
  refine g_aload_n (i := 0) hX dX6_append_27 rfl rfl ?_
  refine fX6_9 hX hb dX6_append_28 ?_
  refine g_aload_n (i := 0) hX dX6_append_31 rfl rfl ?_
  refine fX6_24 hX hb dX6_append_32 ?_
  refine g_iload_n (i := 1) hX dX6_append_35 rfl rfl ?_
  refine g_iastoreN hX ((hb).a1) (c1 _) (hn) (by first | decide | assumption | omega) dX6_append_36 ?_
  refine g_aload_n (i := 0) hX dX6_append_37 rfl rfl ?_
  refine fX6_15 hX hb dX6_append_38 ?_
  refine g_aload_n (i := 0) hX dX6_append_41 rfl rfl ?_
  refine fX6_24 hX hb dX6_append_42 ?_
  refine g_iload_n (i := 2) hX dX6_append_45 rfl rfl ?_
  refine g_iastoreN hX ((hb).a2) (c2 _ _) (hn) (by first | decide | assumption | omega) dX6_append_46 ?_
  refine g_aload_n (i := 0) hX dX6_append_47 rfl rfl ?_
  refine fX6_18 hX hb dX6_append_48 ?_
  refine g_aload_n (i := 0) hX dX6_append_51 rfl rfl ?_
  refine fX6_24 hX hb dX6_append_52 ?_
  refine g_iload_n (i := 3) hX dX6_append_55 rfl rfl ?_
  refine g_iastoreN hX ((hb).a3) (c3 _ _ _) (hn) (by first | decide | assumption | omega) dX6_append_56 ?_
  refine g_aload_n (i := 0) hX dX6_append_57 rfl rfl ?_
  refine g_dup hX dX6_append_58 rfl ?_
  refine fX6_24 hX hb dX6_append_59 ?_
  refine g_iconst hX dX6_append_62 ic1 ?_
  refine g_iadd hX dX6_append_63 ?_
  refine pX6_24 hX hb dX6_append_64 ?_
  refine g_vret (st := []) hX hE rfl dX6_append_67 (⟨rfl, ?_, ?_⟩)
  · rw [c4, nI_1]
    refine ⟨by omega, by rw [pR_self, upd_self], fun i hi => ?_⟩
    by_cases e : i = n
    · subst e
      refine ⟨?_, ?_, hx, ?_, ?_⟩
      · rw [pR_ne _ _ (by omega), pR_ne _ _ (by omega), pR_ne _ _ (by omega), pR_self, upd_self]
      · rw [pR_ne _ _ (by omega), pR_ne _ _ (by omega), pR_self, upd_self]
      · rw [pR_ne _ _ (by omega), pR_self, upd_self]
      · rw [pR_ne _ _ (by omega), pR_ne _ _ (by omega), pR_ne _ _ (by omega), pR_ne _ _ (by omega), pR_self, upd_self]
    · obtain ⟨q1, q2, q3, q4, q5⟩ := hr i (by omega)
      refine ⟨?_, ?_, q3, ?_, ?_⟩
      · rw [pR_ne _ _ (by omega), pR_ne _ _ (by omega), pR_ne _ _ (by omega), pR_self, upd_ne _ _ e, pR_ne _ _ (by omega)]; exact q1
      · rw [pR_ne _ _ (by omega), pR_ne _ _ (by omega), pR_self, upd_ne _ _ e, pR_ne _ _ (by omega), pR_ne _ _ (by omega)]; exact q2
      · rw [pR_ne _ _ (by omega), pR_self, upd_ne _ _ e, pR_ne _ _ (by omega), pR_ne _ _ (by omega), pR_ne _ _ (by omega)]; exact q4
      · rw [pR_ne _ _ (by omega), pR_ne _ _ (by omega), pR_ne _ _ (by omega), pR_ne _ _ (by omega), pR_self, upd_ne _ _ e]; exact q5
  · exact ((((Fq.rf.R (by simp)).R (by simp)).R (by simp)).R (by simp)).R (by simp)
theorem c_append_f {Γ : GG} {S : St} {b : Nat} {t x g : Int32} (hb : IsRow b) (hc : S.1 b 4 = nI 40) : kX6_append Γ [.ref (Γ.1 b), .int t, .int x, .int g] S (rV S) := by
  refine oX6_append (fun X hX hE => ?_)
  refine g_aload_n (i := 0) hX dX6_append_0 rfl rfl ?_
  refine fX6_24 hX hb dX6_append_1 ?_
  refine g_bipush hX dX6_append_4 bp40 ?_
  refine sX6_28 hX ⟨Nat.le_of_ble_eq_true rfl, Nat.le_of_ble_eq_true rfl⟩ (Nat.le_of_ble_eq_true rfl) dX6_append_6 ((by rw [hc]; exact isB_f (n := 40) (by decide) (by rintro ⟨j, hj, e⟩; exact absurd (nI_inj (by decide) (by omega) e) (by omega)))) ?_
  refine g_if_ne (tgt := 13) hX dX6_append_9 (by decide) (fun h9 => absurd (rfl) h9) (fun _ => ?_)
  refine g_vret (st := []) hX hE rfl dX6_append_12 (⟨rfl, rfl⟩)
/-- the names asked so far, as a set -/
def setN (nm : Nat → Nat) : Nat → Nat
  | 0 => 0
  | k + 1 => setN nm k ||| 2 ^ nm k
theorem setN_lt {nm : Nat → Nat} : ∀ n, (∀ i, i < n → nm i < 10) → setN nm n < 1024 := by
  intro n
  induction n with
  | zero => intro _; exact (by decide : (0 : Nat) < 1024)
  | succ n ih => intro h; exact (or_name _ (ih (fun i hi => h i (by omega))) _ (h n (by omega))).2
theorem c_namesAsked {Γ : GG} {S : St} {b n : Nat} {nm : Nat → Nat} (hb : IsRow b) (hn : n ≤ 40) (hc : S.1 b 4 = nI n) (hnm : ∀ i, i < n → S.1 (b + 2) i = nI (nm i) ∧ nm i < 10) : kX6_namesAsked Γ [.ref (Γ.1 b)] S (rI (nI (setN nm n)) S) := by
  refine oX6_namesAsked (fun X hX hE => ?_)
  have loop : ∀ d i, i + d = n → G Γ X S 4 [(0, .ref (Γ.1 b)), (1, .int (nI (setN nm i))), (2, .int (nI i))] [] := by
    intro d
    induction d with
    | zero =>
      intro i hi
      obtain rfl : i = n := by omega
      refine g_iload_n (i := 2) hX dX6_namesAsked_4 rfl rfl ?_
      refine g_aload_n (i := 0) hX dX6_namesAsked_5 rfl rfl ?_
      refine fX6_24 hX hb dX6_namesAsked_6 ?_
      refine g_icmp_ge (tgt := 29) hX dX6_namesAsked_9 (by decide) (fun _ => ?_) (fun h9 => absurd ((by rw [hc]; exact nI_le (Nat.le_refl _) (by omega))) h9)
      refine g_iload_n (i := 1) hX dX6_namesAsked_29 rfl rfl ?_
      refine g_iret (st := []) hX hE rfl dX6_namesAsked_30 (⟨rfl, rfl⟩)
    | succ d ih =>
      intro i hi
      obtain ⟨e1, e2⟩ := hnm i (by omega)
      have hlt := setN_lt (nm := nm) i (fun j hj => (hnm j (by omega)).2)
      refine g_iload_n (i := 2) hX dX6_namesAsked_4 rfl rfl ?_
      refine g_aload_n (i := 0) hX dX6_namesAsked_5 rfl rfl ?_
      refine fX6_24 hX hb dX6_namesAsked_6 ?_
      refine g_icmp_ge (tgt := 29) hX dX6_namesAsked_9 (by decide) (fun h9 => absurd h9 ((by rw [hc]; exact nI_ge (by omega) (by omega)))) (fun _ => ?_)
      refine g_iload_n (i := 1) hX dX6_namesAsked_12 rfl rfl ?_
      refine g_iconst hX dX6_namesAsked_13 ic1 ?_
      refine g_aload_n (i := 0) hX dX6_namesAsked_14 rfl rfl ?_
      refine fX6_15 hX hb dX6_namesAsked_15 ?_
      refine g_iload_n (i := 2) hX dX6_namesAsked_18 rfl rfl ?_
      refine g_ialoadN hX ((hb).a2) rfl ((show i < 40 by omega)) (by first | decide | assumption | omega) dX6_namesAsked_19 ?_
      refine g_ishl hX dX6_namesAsked_20 ?_
      refine g_ior hX dX6_namesAsked_21 ?_
      refine g_istore_n (i := 1) hX dX6_namesAsked_22 rfl (by decide) rfl ?_
      refine g_iinc hX dX6_namesAsked_23 rfl ic1 (by decide) rfl ?_
      refine g_goto (tgt := 4) hX dX6_namesAsked_26 (by decide) ?_
      rw [nI_1, e1, shl_name _ e2, (or_name _ hlt _ e2).1]
      exact ih (i + 1) (by omega)
  refine g_iconst hX dX6_namesAsked_0 ic0 ?_
  refine g_istore_n (i := 1) hX dX6_namesAsked_1 rfl (by decide) rfl ?_
  refine g_iconst hX dX6_namesAsked_2 ic0 ?_
  refine g_istore_n (i := 2) hX dX6_namesAsked_3 rfl (by decide) rfl ?_
  exact loop n 0 (by omega)
def nad (nm : Nat → Nat) (d : Nat) : Nat → Nat → Nat
  | 0, _ => 0
  | k + 1, m => if m.testBit (nm k) = false ∧ popN m = d then nm k else nad nm d k (m ||| 2 ^ nm k)
theorem popN_lt : ∀ m, m < 1024 → popN m ≤ 10 := by decide +kernel
theorem c_nameAtDepth {Γ : GG} {S : St} {b n d : Nat} {nm : Nat → Nat} (hb : IsRow b) (hn : n ≤ 40) (hc : S.1 b 4 = nI n) (hd : d < 2 ^ 31) (hnm : ∀ i, i < n → S.1 (b + 2) i = nI (nm i) ∧ nm i < 10) : kX6_nameAtDepth Γ [.ref (Γ.1 b), .int (nI d)] S (rI (nI (nad nm d n 0)) S) := by
  refine oX6_nameAtDepth (fun X hX hE => ?_)
  have loop : ∀ k m, k ≤ n → m < 1024 → nad nm d k m = nad nm d n 0 → G Γ X S 9 [(0, .ref (Γ.1 b)), (1, .int (nI d)), (2, .int (nI m)), (3, .int (nI k + (-1)))] [] := by
    intro k
    induction k with
    | zero =>
      intro m hk hm e
      refine g_iload_n (i := 3) hX dX6_nameAtDepth_9 rfl rfl ?_
      refine g_if_lt (tgt := 70) hX dX6_nameAtDepth_10 (by decide) (fun _ => ?_) (fun h9 => absurd ((by decide)) h9)
      refine g_iconst hX dX6_nameAtDepth_70 ic0 ?_
      refine g_iret (st := []) hX hE rfl dX6_nameAtDepth_71 (⟨?_, rfl⟩)
      rw [← e]; rfl
    | succ k ih =>
      intro m hk hm e
      obtain ⟨e1, e2⟩ := hnm k (by omega)
      have hp := popN_lt m hm
      rw [pk_m1]
      have next : ∀ v, ¬ (m.testBit (nm k) = false ∧ popN m = d) → G Γ X S 53 [(0, .ref (Γ.1 b)), (1, .int (nI d)), (2, .int (nI m)), (3, .int (nI k)), (4, .int v)] [] := by
        intro v hv
        refine g_iload_n (i := 2) hX dX6_nameAtDepth_53 rfl rfl ?_
        refine g_iconst hX dX6_nameAtDepth_54 ic1 ?_
        refine g_aload_n (i := 0) hX dX6_nameAtDepth_55 rfl rfl ?_
        refine fX6_15 hX hb dX6_nameAtDepth_56 ?_
        refine g_iload_n (i := 3) hX dX6_nameAtDepth_59 rfl rfl ?_
        refine g_ialoadN hX ((hb).a2) rfl ((show k < 40 by omega)) (by first | decide | assumption | omega) dX6_nameAtDepth_60 ?_
        refine g_ishl hX dX6_nameAtDepth_61 ?_
        refine g_ior hX dX6_nameAtDepth_62 ?_
        refine g_istore_n (i := 2) hX dX6_nameAtDepth_63 rfl (by decide) rfl ?_
        refine g_iinc hX dX6_nameAtDepth_64 rfl icm1 (by decide) rfl ?_
        refine g_goto (tgt := 9) hX dX6_nameAtDepth_67 (by decide) ?_
        rw [e1, shl_name _ e2, (or_name m hm _ e2).1]
        exact g_weak (ih _ (by omega) (or_name m hm _ e2).2 (by rw [← e, nad, if_neg hv])) (as_c rfl (as_c rfl (as_c rfl (as_c rfl (as_n)))))
      by_cases ht : m.testBit (nm k) = false
      · have hz : nI m &&& ((1 : Int32) <<< (S.1 (b + 2) k &&& 31)) = 0 := by rw [e1, shl_name _ e2]; exact (and_name m hm _ e2).mpr ht
        by_cases hpd : popN m = d
        · refine g_iload_n (i := 3) hX dX6_nameAtDepth_9 rfl rfl ?_
          refine g_if_lt (tgt := 70) hX dX6_nameAtDepth_10 (by decide) (fun h9 => absurd h9 (nI_pos (by omega))) (fun _ => ?_)
          refine g_iload_n (i := 2) hX dX6_nameAtDepth_13 rfl rfl ?_
          refine g_iconst hX dX6_nameAtDepth_14 ic1 ?_
          refine g_aload_n (i := 0) hX dX6_nameAtDepth_15 rfl rfl ?_
          refine fX6_15 hX hb dX6_nameAtDepth_16 ?_
          refine g_iload_n (i := 3) hX dX6_nameAtDepth_19 rfl rfl ?_
          refine g_ialoadN hX ((hb).a2) rfl ((show k < 40 by omega)) (by first | decide | assumption | omega) dX6_nameAtDepth_20 ?_
          refine g_ishl hX dX6_nameAtDepth_21 ?_
          refine g_iand hX dX6_nameAtDepth_22 ?_
          refine g_if_eq (tgt := 30) hX dX6_nameAtDepth_23 (by decide) (fun _ => ?_) (fun h9 => absurd (hz) h9)
          refine g_iconst hX dX6_nameAtDepth_30 ic0 ?_
          refine g_istore hX dX6_nameAtDepth_31 (by decide) rfl ?_
          refine g_iload hX dX6_nameAtDepth_33 rfl ?_
          refine g_if_ne (tgt := 53) hX dX6_nameAtDepth_35 (by decide) (fun h9 => absurd (rfl) h9) (fun _ => ?_)
          refine g_iload_n (i := 2) hX dX6_nameAtDepth_38 rfl rfl ?_
          refine sX6_36 hX ⟨Nat.le_of_ble_eq_true rfl, Nat.le_of_ble_eq_true rfl⟩ (Nat.le_of_ble_eq_true rfl) dX6_nameAtDepth_39 (c_bitCount) ?_
          refine g_iload_n (i := 1) hX dX6_nameAtDepth_42 rfl rfl ?_
          refine g_icmp_ne (tgt := 53) hX dX6_nameAtDepth_43 (by decide) (fun h9 => absurd ((by rw [bc_popA m hm, hpd])) h9) (fun _ => ?_)
          refine g_aload_n (i := 0) hX dX6_nameAtDepth_46 rfl rfl ?_
          refine fX6_15 hX hb dX6_nameAtDepth_47 ?_
          refine g_iload_n (i := 3) hX dX6_nameAtDepth_50 rfl rfl ?_
          refine g_ialoadN hX ((hb).a2) rfl ((show k < 40 by omega)) (by first | decide | assumption | omega) dX6_nameAtDepth_51 ?_
          refine g_iret (st := []) hX hE rfl dX6_nameAtDepth_52 (⟨?_, rfl⟩)
          rw [← e, nad, if_pos ⟨ht, hpd⟩, e1]
        · refine g_iload_n (i := 3) hX dX6_nameAtDepth_9 rfl rfl ?_
          refine g_if_lt (tgt := 70) hX dX6_nameAtDepth_10 (by decide) (fun h9 => absurd h9 (nI_pos (by omega))) (fun _ => ?_)
          refine g_iload_n (i := 2) hX dX6_nameAtDepth_13 rfl rfl ?_
          refine g_iconst hX dX6_nameAtDepth_14 ic1 ?_
          refine g_aload_n (i := 0) hX dX6_nameAtDepth_15 rfl rfl ?_
          refine fX6_15 hX hb dX6_nameAtDepth_16 ?_
          refine g_iload_n (i := 3) hX dX6_nameAtDepth_19 rfl rfl ?_
          refine g_ialoadN hX ((hb).a2) rfl ((show k < 40 by omega)) (by first | decide | assumption | omega) dX6_nameAtDepth_20 ?_
          refine g_ishl hX dX6_nameAtDepth_21 ?_
          refine g_iand hX dX6_nameAtDepth_22 ?_
          refine g_if_eq (tgt := 30) hX dX6_nameAtDepth_23 (by decide) (fun _ => ?_) (fun h9 => absurd (hz) h9)
          refine g_iconst hX dX6_nameAtDepth_30 ic0 ?_
          refine g_istore hX dX6_nameAtDepth_31 (by decide) rfl ?_
          refine g_iload hX dX6_nameAtDepth_33 rfl ?_
          refine g_if_ne (tgt := 53) hX dX6_nameAtDepth_35 (by decide) (fun h9 => absurd (rfl) h9) (fun _ => ?_)
          refine g_iload_n (i := 2) hX dX6_nameAtDepth_38 rfl rfl ?_
          refine sX6_36 hX ⟨Nat.le_of_ble_eq_true rfl, Nat.le_of_ble_eq_true rfl⟩ (Nat.le_of_ble_eq_true rfl) dX6_nameAtDepth_39 (c_bitCount) ?_
          refine g_iload_n (i := 1) hX dX6_nameAtDepth_42 rfl rfl ?_
          refine g_icmp_ne (tgt := 53) hX dX6_nameAtDepth_43 (by decide) (fun _ => ?_) (fun h9 => absurd h9 ((by rw [bc_popA m hm]; exact nI_ne (by omega) hd hpd)))
          exact next _ (fun q => hpd q.2)
      · have hz : ¬ nI m &&& ((1 : Int32) <<< (S.1 (b + 2) k &&& 31)) = 0 := by rw [e1, shl_name _ e2]; exact fun q => ht ((and_name m hm _ e2).mp q)
        refine g_iload_n (i := 3) hX dX6_nameAtDepth_9 rfl rfl ?_
        refine g_if_lt (tgt := 70) hX dX6_nameAtDepth_10 (by decide) (fun h9 => absurd h9 (nI_pos (by omega))) (fun _ => ?_)
        refine g_iload_n (i := 2) hX dX6_nameAtDepth_13 rfl rfl ?_
        refine g_iconst hX dX6_nameAtDepth_14 ic1 ?_
        refine g_aload_n (i := 0) hX dX6_nameAtDepth_15 rfl rfl ?_
        refine fX6_15 hX hb dX6_nameAtDepth_16 ?_
        refine g_iload_n (i := 3) hX dX6_nameAtDepth_19 rfl rfl ?_
        refine g_ialoadN hX ((hb).a2) rfl ((show k < 40 by omega)) (by first | decide | assumption | omega) dX6_nameAtDepth_20 ?_
        refine g_ishl hX dX6_nameAtDepth_21 ?_
        refine g_iand hX dX6_nameAtDepth_22 ?_
        refine g_if_eq (tgt := 30) hX dX6_nameAtDepth_23 (by decide) (fun h9 => absurd h9 (hz)) (fun _ => ?_)
        refine g_iconst hX dX6_nameAtDepth_26 ic1 ?_
        refine g_goto (tgt := 31) hX dX6_nameAtDepth_27 (by decide) ?_
        refine g_istore hX dX6_nameAtDepth_31 (by decide) rfl ?_
        refine g_iload hX dX6_nameAtDepth_33 rfl ?_
        refine g_if_ne (tgt := 53) hX dX6_nameAtDepth_35 (by decide) (fun _ => ?_) (fun h9 => absurd h9 ((by decide)))
        exact next _ (fun q => ht q.1)
  refine g_iconst hX dX6_nameAtDepth_0 ic0 ?_
  refine g_istore_n (i := 2) hX dX6_nameAtDepth_1 rfl (by decide) rfl ?_
  refine g_aload_n (i := 0) hX dX6_nameAtDepth_2 rfl rfl ?_
  refine fX6_24 hX hb dX6_nameAtDepth_3 ?_
  refine g_iconst hX dX6_nameAtDepth_6 ic1 ?_
  refine g_isub hX dX6_nameAtDepth_7 ?_
  refine g_istore_n (i := 3) hX dX6_nameAtDepth_8 rfl (by decide) rfl ?_
  rw [hc, sub1]
  exact loop n 0 (Nat.le_refl n) (by decide) rfl
def lnn (m : Nat) : Nat → Nat → Nat
  | 0, x => x
  | d + 1, x => if m.testBit x = true then lnn m d (x + 1) else x
theorem c_leastNewName {Γ : GG} {S : St} {b n : Nat} {nm : Nat → Nat} (hb : IsRow b) (hn : n ≤ 40) (hc : S.1 b 4 = nI n) (hnm : ∀ i, i < n → S.1 (b + 2) i = nI (nm i) ∧ nm i < 10) : kX6_leastNewName Γ [.ref (Γ.1 b)] S (rI (nI (lnn (setN nm n) 9 0)) S) := by
  refine oX6_leastNewName (fun X hX hE => ?_)
  have hlt := setN_lt (nm := nm) n (fun j hj => (hnm j hj).2)
  have loop : ∀ d x, x + d = 9 → lnn (setN nm n) d x = lnn (setN nm n) 9 0 → G Γ X S 7 [(0, .ref (Γ.1 b)), (1, .int (nI (setN nm n))), (2, .int (nI x))] [] := by
    intro d
    induction d with
    | zero =>
      intro x hx e
      obtain rfl : x = 9 := by omega
      refine g_iload_n (i := 2) hX dX6_leastNewName_7 rfl rfl ?_
      refine g_bipush hX dX6_leastNewName_8 bp9 ?_
      refine g_icmp_ge (tgt := 27) hX dX6_leastNewName_10 (by decide) (fun _ => ?_) (fun h9 => absurd (Int32.le_refl _) h9)
      refine g_iload_n (i := 2) hX dX6_leastNewName_27 rfl rfl ?_
      refine g_iret (st := []) hX hE rfl dX6_leastNewName_28 (⟨?_, rfl⟩)
      rw [← e]; rfl
    | succ d ih =>
      intro x hx e
      by_cases ht : (setN nm n).testBit x = true
      · refine g_iload_n (i := 2) hX dX6_leastNewName_7 rfl rfl ?_
        refine g_bipush hX dX6_leastNewName_8 bp9 ?_
        refine g_icmp_ge (tgt := 27) hX dX6_leastNewName_10 (by decide) (fun h9 => absurd h9 (nI_ge (show x < 9 by omega) (by decide))) (fun _ => ?_)
        refine g_iload_n (i := 1) hX dX6_leastNewName_13 rfl rfl ?_
        refine g_iconst hX dX6_leastNewName_14 ic1 ?_
        refine g_iload_n (i := 2) hX dX6_leastNewName_15 rfl rfl ?_
        refine g_ishl hX dX6_leastNewName_16 ?_
        refine g_iand hX dX6_leastNewName_17 ?_
        refine g_if_eq (tgt := 27) hX dX6_leastNewName_18 (by decide) (fun h9 => absurd h9 ((by rw [shl_name x (by omega)]; exact fun q => by rw [(and_name _ hlt x (by omega)).mp q] at ht; cases ht))) (fun _ => ?_)
        refine g_iinc hX dX6_leastNewName_21 rfl ic1 (by decide) rfl ?_
        refine g_goto (tgt := 7) hX dX6_leastNewName_24 (by decide) ?_
        rw [nI_1]
        exact ih (x + 1) (by omega) (by rw [← e, lnn, if_pos ht])
      · refine g_iload_n (i := 2) hX dX6_leastNewName_7 rfl rfl ?_
        refine g_bipush hX dX6_leastNewName_8 bp9 ?_
        refine g_icmp_ge (tgt := 27) hX dX6_leastNewName_10 (by decide) (fun h9 => absurd h9 (nI_ge (show x < 9 by omega) (by decide))) (fun _ => ?_)
        refine g_iload_n (i := 1) hX dX6_leastNewName_13 rfl rfl ?_
        refine g_iconst hX dX6_leastNewName_14 ic1 ?_
        refine g_iload_n (i := 2) hX dX6_leastNewName_15 rfl rfl ?_
        refine g_ishl hX dX6_leastNewName_16 ?_
        refine g_iand hX dX6_leastNewName_17 ?_
        refine g_if_eq (tgt := 27) hX dX6_leastNewName_18 (by decide) (fun _ => ?_) (fun h9 => absurd ((by rw [shl_name x (by omega)]; exact (and_name _ hlt x (by omega)).mpr (by simpa using ht))) h9)
        refine g_iload_n (i := 2) hX dX6_leastNewName_27 rfl rfl ?_
        refine g_iret (st := []) hX hE rfl dX6_leastNewName_28 (⟨?_, rfl⟩)
        rw [← e, lnn, if_neg ht]
  refine g_aload_n (i := 0) hX dX6_leastNewName_0 rfl rfl ?_
  refine sX6_42 hX hb ⟨Nat.le_of_ble_eq_true rfl, Nat.le_of_ble_eq_true rfl⟩ (Nat.le_of_ble_eq_true rfl) dX6_leastNewName_1 (c_namesAsked hb hn hc hnm) ?_
  refine g_istore_n (i := 1) hX dX6_leastNewName_4 rfl (by decide) rfl ?_
  refine g_iconst hX dX6_leastNewName_5 ic0 ?_
  refine g_istore_n (i := 2) hX dX6_leastNewName_6 rfl (by decide) rfl ?_
  exact loop 9 0 (by omega) rfl
