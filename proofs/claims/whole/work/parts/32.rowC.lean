/-- the slot of ask i for a part: gaps, names, greatness -/
def slotP (tk : Nat → Int32) (nm : Nat → Nat) (gr : Nat → Int32) (p i : Nat) : Int32 := if p = 0 then (if (10 : Int32) < gapN tk i then 10 else gapN tk i) else if p = 1 then slotI (dep nm i) else gr i
theorem gapN_congr {tk tk' : Nat → Int32} {i : Nat} (h : ∀ j, j ≤ i → tk' j = tk j) : gapN tk' i = gapN tk i := by
  unfold gapN
  by_cases e : i = 0
  · rw [if_pos e, if_pos e, h 0 (by omega)]
  · rw [if_neg e, if_neg e, h i (by omega), h (i - 1) (by omega)]
theorem c_slotOf {Γ : GG} {S : St} {b n p i : Nat} {tk : Nat → Int32} {nm : Nat → Nat} {gr : Nat → Int32} (hb : IsRow b) (h : RwC S b n tk nm gr) (hp : p < 3) (hi : i < n) : kX6_slotOf Γ [.ref (Γ.1 b), .int (nI p), .int (nI i)] S (rI (slotP tk nm gr p i) S) := by
  refine oX6_slotOf (fun X hX hE => ?_)
  have h40 := h.1
  obtain ⟨q1, q2, q3, q4, q5⟩ := h.2.2 i hi
  rcases (by omega : p = 0 ∨ p = 1 ∨ p = 2) with rfl | rfl | rfl
  · refine g_iload_n (i := 1) hX dX6_slotOf_0 rfl rfl ?_
    refine g_lookup (off := 27) (tgt := 28) hX dX6_slotOf_1 (by decide) (by decide) (by decide) ?_
    refine g_aload_n (i := 0) hX dX6_slotOf_28 rfl rfl ?_
    refine g_iload_n (i := 2) hX dX6_slotOf_29 rfl rfl ?_
    refine sX6_60 hX hb ⟨Nat.le_of_ble_eq_true rfl, Nat.le_of_ble_eq_true rfl⟩ (Nat.le_of_ble_eq_true rfl) dX6_slotOf_30 (c_gapOf hb (by omega)) ?_
    refine g_bipush hX dX6_slotOf_33 bp10 ?_
    refine sX6_63 hX (Nat.le_of_ble_eq_true rfl) (Nat.le_of_ble_eq_true rfl) dX6_slotOf_35 ?_
    refine g_iret (st := []) hX hE rfl dX6_slotOf_38 (⟨?_, rfl⟩)
    rw [gapN_congr (tk' := S.1 (b + 1)) (tk := tk) (fun j hj => (h.2.2 j (by omega)).1)]
    rfl
  · by_cases e : dep nm i = -1000000
    · refine g_iload_n (i := 1) hX dX6_slotOf_0 rfl rfl ?_
      refine g_lookup (off := 38) (tgt := 39) hX dX6_slotOf_1 (by decide) (by decide) (by decide) ?_
      refine g_aload_n (i := 0) hX dX6_slotOf_39 rfl rfl ?_
      refine fX6_21 hX hb dX6_slotOf_40 ?_
      refine g_iload_n (i := 2) hX dX6_slotOf_43 rfl rfl ?_
      refine g_ialoadN hX ((hb).a4) rfl ((show i < 40 by omega)) (by first | decide | assumption | omega) dX6_slotOf_44 ?_
      refine g_ldc hX ccX6_41 dX6_slotOf_45 ?_
      refine g_icmp_ne (tgt := 55) hX dX6_slotOf_47 (by decide) (fun h9 => absurd ((by rw [q5]; exact e)) h9) (fun _ => ?_)
      refine g_bipush hX dX6_slotOf_50 bp10 ?_
      refine g_goto (tgt := 61) hX dX6_slotOf_52 (by decide) ?_
      refine g_iret (st := []) hX hE rfl dX6_slotOf_61 (⟨?_, rfl⟩)
      show _ = some (Value.int (slotI (dep nm i)))
      rw [slotI, if_pos e]
    · refine g_iload_n (i := 1) hX dX6_slotOf_0 rfl rfl ?_
      refine g_lookup (off := 38) (tgt := 39) hX dX6_slotOf_1 (by decide) (by decide) (by decide) ?_
      refine g_aload_n (i := 0) hX dX6_slotOf_39 rfl rfl ?_
      refine fX6_21 hX hb dX6_slotOf_40 ?_
      refine g_iload_n (i := 2) hX dX6_slotOf_43 rfl rfl ?_
      refine g_ialoadN hX ((hb).a4) rfl ((show i < 40 by omega)) (by first | decide | assumption | omega) dX6_slotOf_44 ?_
      refine g_ldc hX ccX6_41 dX6_slotOf_45 ?_
      refine g_icmp_ne (tgt := 55) hX dX6_slotOf_47 (by decide) (fun _ => ?_) (fun h9 => absurd h9 ((by rw [q5]; exact e)))
      refine g_aload_n (i := 0) hX dX6_slotOf_55 rfl rfl ?_
      refine fX6_21 hX hb dX6_slotOf_56 ?_
      refine g_iload_n (i := 2) hX dX6_slotOf_59 rfl rfl ?_
      refine g_ialoadN hX ((hb).a4) rfl ((show i < 40 by omega)) (by first | decide | assumption | omega) dX6_slotOf_60 ?_
      refine g_iret (st := []) hX hE rfl dX6_slotOf_61 (⟨?_, rfl⟩)
      show _ = some (Value.int (slotI (dep nm i)))
      rw [slotI, if_neg e, q5]
  · refine g_iload_n (i := 1) hX dX6_slotOf_0 rfl rfl ?_
    refine g_lookup (off := 61) (tgt := 62) hX dX6_slotOf_1 (by decide) (by decide) (by decide) ?_
    refine g_aload_n (i := 0) hX dX6_slotOf_62 rfl rfl ?_
    refine fX6_18 hX hb dX6_slotOf_63 ?_
    refine g_iload_n (i := 2) hX dX6_slotOf_66 rfl rfl ?_
    refine g_ialoadN hX ((hb).a3) rfl ((show i < 40 by omega)) (by first | decide | assumption | omega) dX6_slotOf_67 ?_
    refine g_iret (st := []) hX hE rfl dX6_slotOf_68 (⟨?_, rfl⟩)
    rw [q4]; rfl
def cntF (sl : Nat → Int32) (n : Nat) (f : Nat → Int32) : Nat → Int32 := fun d => if d < 11 then nI (cntE sl n d) else f d
theorem cntF_hit {S : St} {k i s : Nat} {sl : Nat → Int32} {f : Nat → Int32} (hs : s < 11) (e : sl i = nI s) : pI (pR S k (cntF sl i f)) k s (cntF sl i f s + 1) = pR S k (cntF sl (i + 1) f) := by
  show pR (pR S k _) k (upd ((pR S k _).1 k) s _) = _
  rw [pR_self, pR_pR]
  congr 1
  funext d
  by_cases hd : d = s
  · subst hd
    rw [upd_self]
    simp only [cntF, hs, if_true, cntE, e]
    rw [nI_1]
  · rw [upd_ne _ _ hd]
    by_cases hl : d < 11
    · have : ¬ sl i = nI d := by rw [e]; exact nI_ne (by omega) (by omega) (Ne.symm hd)
      simp only [cntF, hl, if_true, cntE, this, if_false, Nat.add_zero]
    · simp only [cntF, hl, if_false]
theorem cntF_miss {S : St} {k i : Nat} {sl : Nat → Int32} {f : Nat → Int32} (e : ¬ inB (sl i) 11) : pR S k (cntF sl i f) = pR S k (cntF sl (i + 1) f) := by
  congr 1
  funext d
  by_cases hl : d < 11
  · have : ¬ sl i = nI d := fun q => e ⟨d, hl, q⟩
    simp only [cntF, hl, if_true, cntE, this, if_false, Nat.add_zero]
  · simp only [cntF, hl, if_false]
theorem c_countSlots {Γ : GG} {S : St} {b n p k : Nat} {tk : Nat → Int32} {nm : Nat → Nat} {gr : Nat → Int32} (hb : IsRow b) (h : RwC S b n tk nm gr) (hp : p < 3) (hk : IsArr k 11) (hne : k < b ∨ b + 5 ≤ k) : kX6_countSlots Γ [.ref (Γ.1 b), .int (nI p), .ref (Γ.1 k)] S (rV (pR S k (cntF (slotP tk nm gr p) n (S.1 k)))) := by
  refine oX6_countSlots (fun X hX hE => ?_)
  have hR : ∀ f, RwC (pR S k f) b n tk nm gr := fun f => h.keep (fun q hq => pR_ne _ _ (by omega))
  have hc : ∀ f, (pR S k f).1 b 4 = nI n := fun f => (hR f).2.1
  have h40 := h.1
  have loop : ∀ d i, i + d = n → G Γ X (pR S k (cntF (slotP tk nm gr p) i (S.1 k))) 13 [(0, .ref (Γ.1 b)), (1, .int (nI p)), (2, .ref (Γ.1 k)), (3, .int (nI i))] [] := by
    intro d
    induction d with
    | zero =>
      intro i hi
      obtain rfl : i = n := by omega
      refine g_iload_n (i := 3) hX dX6_countSlots_13 rfl rfl ?_
      refine g_aload_n (i := 0) hX dX6_countSlots_14 rfl rfl ?_
      refine fX6_24 hX hb dX6_countSlots_15 ?_
      refine g_icmp_ge (tgt := 53) hX dX6_countSlots_18 (by decide) (fun _ => ?_) (fun h9 => absurd ((by rw [hc]; exact nI_le (Nat.le_refl _) (by omega))) h9)
      refine g_vret (st := []) hX hE rfl dX6_countSlots_53 (⟨rfl, rfl⟩)
    | succ d ih =>
      intro i hi
      have h2 := ih (i + 1) (by omega)
      by_cases hs : inB (slotP tk nm gr p i) 11
      · obtain ⟨s, hs, e⟩ := hs
        have he : (pR S k (cntF (slotP tk nm gr p) i (S.1 k))).1 k s = cntF (slotP tk nm gr p) i (S.1 k) s := by rw [pR_self]
        refine g_iload_n (i := 3) hX dX6_countSlots_13 rfl rfl ?_
        refine g_aload_n (i := 0) hX dX6_countSlots_14 rfl rfl ?_
        refine fX6_24 hX hb dX6_countSlots_15 ?_
        refine g_icmp_ge (tgt := 53) hX dX6_countSlots_18 (by decide) (fun h9 => absurd h9 ((by rw [hc]; exact nI_ge (by omega) (by omega)))) (fun _ => ?_)
        refine g_aload_n (i := 0) hX dX6_countSlots_21 rfl rfl ?_
        refine g_iload_n (i := 1) hX dX6_countSlots_22 rfl rfl ?_
        refine g_iload_n (i := 3) hX dX6_countSlots_23 rfl rfl ?_
        refine sX6_56 hX hb ⟨Nat.le_of_ble_eq_true rfl, Nat.le_of_ble_eq_true rfl⟩ (Nat.le_of_ble_eq_true rfl) dX6_countSlots_24 (c_slotOf hb (hR _) hp (by omega)) ?_
        refine g_istore hX dX6_countSlots_27 (by decide) rfl ?_
        refine g_iload hX dX6_countSlots_29 rfl ?_
        refine g_aload_n (i := 2) hX dX6_countSlots_31 rfl rfl ?_
        refine g_alen hX (hk).1 (hk).2 dX6_countSlots_32 ?_
        refine sX6_28 hX ⟨Nat.le_of_ble_eq_true rfl, Nat.le_of_ble_eq_true rfl⟩ (Nat.le_of_ble_eq_true rfl) dX6_countSlots_33 ((by rw [e]; exact isB_t hs (by decide))) ?_
        refine g_if_eq (tgt := 47) hX dX6_countSlots_36 (by decide) (fun h9 => absurd h9 ((by decide))) (fun _ => ?_)
        refine g_aload_n (i := 2) hX dX6_countSlots_39 rfl rfl ?_
        refine g_iload hX dX6_countSlots_40 rfl ?_
        refine g_dup2 hX dX6_countSlots_42 rfl rfl ?_
        refine g_ialoadN hX (hk) (e) (hs) (by first | decide | assumption | omega) dX6_countSlots_43 ?_
        refine g_iconst hX dX6_countSlots_44 ic1 ?_
        refine g_iadd hX dX6_countSlots_45 ?_
        refine g_iastoreN hX (hk) (e) (hs) (by first | decide | assumption | omega) dX6_countSlots_46 ?_
        refine g_iinc hX dX6_countSlots_47 rfl ic1 (by decide) rfl ?_
        refine g_goto (tgt := 13) hX dX6_countSlots_50 (by decide) ?_
        rw [he, cntF_hit hs e, nI_1]
        exact g_weak h2 (as_c rfl (as_c rfl (as_c rfl (as_c rfl (as_n)))))
      · refine g_iload_n (i := 3) hX dX6_countSlots_13 rfl rfl ?_
        refine g_aload_n (i := 0) hX dX6_countSlots_14 rfl rfl ?_
        refine fX6_24 hX hb dX6_countSlots_15 ?_
        refine g_icmp_ge (tgt := 53) hX dX6_countSlots_18 (by decide) (fun h9 => absurd h9 ((by rw [hc]; exact nI_ge (by omega) (by omega)))) (fun _ => ?_)
        refine g_aload_n (i := 0) hX dX6_countSlots_21 rfl rfl ?_
        refine g_iload_n (i := 1) hX dX6_countSlots_22 rfl rfl ?_
        refine g_iload_n (i := 3) hX dX6_countSlots_23 rfl rfl ?_
        refine sX6_56 hX hb ⟨Nat.le_of_ble_eq_true rfl, Nat.le_of_ble_eq_true rfl⟩ (Nat.le_of_ble_eq_true rfl) dX6_countSlots_24 (c_slotOf hb (hR _) hp (by omega)) ?_
        refine g_istore hX dX6_countSlots_27 (by decide) rfl ?_
        refine g_iload hX dX6_countSlots_29 rfl ?_
        refine g_aload_n (i := 2) hX dX6_countSlots_31 rfl rfl ?_
        refine g_alen hX (hk).1 (hk).2 dX6_countSlots_32 ?_
        refine sX6_28 hX ⟨Nat.le_of_ble_eq_true rfl, Nat.le_of_ble_eq_true rfl⟩ (Nat.le_of_ble_eq_true rfl) dX6_countSlots_33 (isB_f (by decide) hs) ?_
        refine g_if_eq (tgt := 47) hX dX6_countSlots_36 (by decide) (fun _ => ?_) (fun h9 => absurd (rfl) h9)
        refine g_iinc hX dX6_countSlots_47 rfl ic1 (by decide) rfl ?_
        refine g_goto (tgt := 13) hX dX6_countSlots_50 (by decide) ?_
        rw [cntF_miss hs, nI_1]
        exact g_weak h2 (as_c rfl (as_c rfl (as_c rfl (as_c rfl (as_n)))))
  have h0 := loop n 0 (by omega)
  have e0 : pR S k (cntF (slotP tk nm gr p) 0 (S.1 k)) = pR S k (fun j => if j < 11 then 0 else S.1 k j) := by
    congr 1
  rw [e0] at h0
  refine g_aload_n (i := 2) hX dX6_countSlots_0 rfl rfl ?_
  refine g_iconst hX dX6_countSlots_1 ic0 ?_
  refine sX6_50 hX ⟨Nat.le_of_ble_eq_true rfl, Nat.le_of_ble_eq_true rfl⟩ (Nat.le_of_ble_eq_true rfl) dX6_countSlots_2 (c_fill hk (by decide)) ?_
  refine g_iload_n (i := 1) hX dX6_countSlots_5 rfl rfl ?_
  refine g_iconst hX dX6_countSlots_6 ic3 ?_
  refine g_icmp_ne (tgt := 11) hX dX6_countSlots_7 (by decide) (fun _ => ?_) (fun h9 => absurd h9 ((nI_ne (b := 3) (by omega) (by decide) (by omega))))
  refine g_iconst hX dX6_countSlots_11 ic0 ?_
  refine g_istore_n (i := 3) hX dX6_countSlots_12 rfl (by decide) rfl ?_
  exact h0
theorem c_countSlots3 {Γ : GG} {S : St} {b k : Nat} (hb : IsRow b) (hk : IsArr k 11) : kX6_countSlots Γ [.ref (Γ.1 b), .int (nI 3), .ref (Γ.1 k)] S (rV (pR S k (fun d => if d < 11 then 0 else S.1 k d))) := by
  refine oX6_countSlots (fun X hX hE => ?_)
  refine g_aload_n (i := 2) hX dX6_countSlots_0 rfl rfl ?_
  refine g_iconst hX dX6_countSlots_1 ic0 ?_
  refine sX6_50 hX ⟨Nat.le_of_ble_eq_true rfl, Nat.le_of_ble_eq_true rfl⟩ (Nat.le_of_ble_eq_true rfl) dX6_countSlots_2 (c_fill hk (by decide)) ?_
  refine g_iload_n (i := 1) hX dX6_countSlots_5 rfl rfl ?_
  refine g_iconst hX dX6_countSlots_6 ic3 ?_
  refine g_icmp_ne (tgt := 11) hX dX6_countSlots_7 (by decide) (fun h9 => absurd (rfl) h9) (fun _ => ?_)
  refine g_vret (st := []) hX hE rfl dX6_countSlots_10 (⟨rfl, rfl⟩)
/-- every second ask from the first f on -/
def hfN (n f : Nat) : Nat := (n + 1 - f) / 2
theorem c_becomeHalf {Γ : GG} {S : St} {b c n f : Nat} {tk : Nat → Int32} {nm : Nat → Nat} {gr : Nat → Int32} (hb : IsRow b) (hc : IsRow c) (h : RwC S c n tk nm gr) (hf : f < 2) (hne : b + 5 ≤ c ∨ c + 5 ≤ b) :
    kX6_becomeHalf Γ [.ref (Γ.1 b), .ref (Γ.1 c), .int (nI f)] S (eV (fun S1 => RwC S1 b (hfN n f) (fun i => tk (f + 2 * i)) (fun i => nm (f + 2 * i)) (fun i => gr (f + 2 * i)) ∧ Fq [b, b + 1, b + 2, b + 3, b + 4] [] S S1)) := by
  refine oX6_becomeHalf (fun X hX hE => ?_)
  have h40 := h.1
  have loop : ∀ d j T, j + d = hfN n f → RwC T b j (fun i => tk (f + 2 * i)) (fun i => nm (f + 2 * i)) (fun i => gr (f + 2 * i)) → Fq [b, b + 1, b + 2, b + 3, b + 4] [] S T → G Γ X T 7 [(0, .ref (Γ.1 b)), (1, .ref (Γ.1 c)), (2, .int (nI f)), (3, .int (nI (f + 2 * j)))] [] := by
    intro d
    induction d with
    | zero =>
      intro j T hj hT hF
      obtain rfl : j = hfN n f := by omega
      have hTc : RwC T c n tk nm gr := h.keep (fun q hq => hF.row (by simp only [List.mem_cons, List.not_mem_nil, or_false]; omega) (fun _ z => by cases z))
      refine g_iload_n (i := 3) hX dX6_becomeHalf_7 rfl rfl ?_
      refine g_aload_n (i := 1) hX dX6_becomeHalf_8 rfl rfl ?_
      refine fX6_24 hX hc dX6_becomeHalf_9 ?_
      refine g_icmp_ge (tgt := 43) hX dX6_becomeHalf_12 (by decide) (fun _ => ?_) (fun h9 => absurd ((by rw [hTc.2.1]; exact nI_le (by unfold hfN; omega) (by unfold hfN; omega))) h9)
      refine g_vret (st := []) hX hE rfl dX6_becomeHalf_43 (⟨rfl, hT, hF⟩)
    | succ d ih =>
      intro j T hj hT hF
      have hTc : RwC T c n tk nm gr := h.keep (fun q hq => hF.row (by simp only [List.mem_cons, List.not_mem_nil, or_false]; omega) (fun _ z => by cases z))
      have hlt : f + 2 * j < n := by unfold hfN at hj; omega
      obtain ⟨q1, q2, q3, q4, -⟩ := hTc.2.2 (f + 2 * j) hlt
      have hap := c_append_t (Γ := Γ) hb hT (show j < 40 by omega) (show nm (f + 2 * j) < 10 from q3)
      refine g_iload_n (i := 3) hX dX6_becomeHalf_7 rfl rfl ?_
      refine g_aload_n (i := 1) hX dX6_becomeHalf_8 rfl rfl ?_
      refine fX6_24 hX hc dX6_becomeHalf_9 ?_
      refine g_icmp_ge (tgt := 43) hX dX6_becomeHalf_12 (by decide) (fun h9 => absurd h9 ((by rw [hTc.2.1]; exact nI_ge hlt (by omega)))) (fun _ => ?_)
      refine g_aload_n (i := 0) hX dX6_becomeHalf_15 rfl rfl ?_
      refine g_aload_n (i := 1) hX dX6_becomeHalf_16 rfl rfl ?_
      refine fX6_9 hX hc dX6_becomeHalf_17 ?_
      refine g_iload_n (i := 3) hX dX6_becomeHalf_20 rfl rfl ?_
      refine g_ialoadN hX ((hc).a1) rfl ((show f + 2 * j < 40 by omega)) (by first | decide | assumption | omega) dX6_becomeHalf_21 ?_
      refine g_aload_n (i := 1) hX dX6_becomeHalf_22 rfl rfl ?_
      refine fX6_15 hX hc dX6_becomeHalf_23 ?_
      refine g_iload_n (i := 3) hX dX6_becomeHalf_26 rfl rfl ?_
      refine g_ialoadN hX ((hc).a2) rfl ((show f + 2 * j < 40 by omega)) (by first | decide | assumption | omega) dX6_becomeHalf_27 ?_
      refine g_aload_n (i := 1) hX dX6_becomeHalf_28 rfl rfl ?_
      refine fX6_18 hX hc dX6_becomeHalf_29 ?_
      refine g_iload_n (i := 3) hX dX6_becomeHalf_32 rfl rfl ?_
      refine g_ialoadN hX ((hc).a3) rfl ((show f + 2 * j < 40 by omega)) (by first | decide | assumption | omega) dX6_becomeHalf_33 ?_
      refine eX6_46 hX hb ⟨Nat.le_of_ble_eq_true rfl, Nat.le_of_ble_eq_true rfl⟩ (Nat.le_of_ble_eq_true rfl) dX6_becomeHalf_34 ((by rw [q1, q2, q4]; exact hap)) (fun T1 hT1 => ?_)
      refine g_iinc hX dX6_becomeHalf_37 rfl ic2 (by decide) rfl ?_
      refine g_goto (tgt := 7) hX dX6_becomeHalf_40 (by decide) ?_
      rw [show nI (f + 2 * j) + 2 = nI (f + 2 * (j + 1)) from by rw [show (2 : Int32) = nI 2 from rfl, nI_add2]; congr 1]
      exact ih (j + 1) T1 (by omega) hT1.1 (hF.tr hT1.2)
  refine g_aload_n (i := 0) hX dX6_becomeHalf_0 rfl rfl ?_
  refine g_iconst hX dX6_becomeHalf_1 ic0 ?_
  refine pX6_24 hX hb dX6_becomeHalf_2 ?_
  refine g_iload_n (i := 2) hX dX6_becomeHalf_5 rfl rfl ?_
  refine g_istore_n (i := 3) hX dX6_becomeHalf_6 rfl (by decide) rfl ?_
  exact loop (hfN n f) 0 _ (by omega) ⟨by omega, by rw [pR_self, upd_self]; rfl, fun i hi => absurd hi (by omega)⟩ (Fq.rf.R (by simp))
