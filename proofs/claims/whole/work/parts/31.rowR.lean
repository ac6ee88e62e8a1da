/-! rows: the reference's; halves, counts -/
theorem nI_40 (r i : Nat) : (40 : Int32) * nI r + nI i = nI (40 * r + i) := by
  rw [show (40 : Int32) = nI 40 from rfl, nI_mul, nI_add2]
def addS (S : St) (r n : Nat) (t x g : Int32) : St := pI (pI (pI (pI S 72 (40 * r + n) t) 73 (40 * r + n) x) 74 (40 * r + n) g) 71 r (nI (n + 1))
theorem c_add {Γ : GG} {S : St} {r n : Nat} {t x g : Int32} (hr : r < 5) (hn : n < 40) (hc : S.1 71 r = nI n) : kX10_add Γ [.ref (Γ.1 67), .int (nI r), .int t, .int x, .int g] S (rV (addS S r n t x g)) := by
  refine oX10_add (fun X hX hE => ?_)
  have e : (40 : Int32) * nI r + S.1 71 r = nI (40 * r + n) := by rw [hc, nI_40]
  refine g_bipush hX dX10_add_0 bp40 ?_
  refine g_iload_n (i := 1) hX dX10_add_2 rfl rfl ?_
  refine g_imul hX dX10_add_3 ?_
  refine g_aload_n (i := 0) hX dX10_add_4 rfl rfl ?_
  refine fX10_19 hX dX10_add_5 ?_
  refine g_iload_n (i := 1) hX dX10_add_8 rfl rfl ?_
  refine g_ialoadN hX (ia71) rfl (hr) (by first | decide | assumption | omega) dX10_add_9 ?_
  refine g_iadd hX dX10_add_10 ?_
  refine g_istore hX dX10_add_11 (by decide) rfl ?_
  refine g_aload_n (i := 0) hX dX10_add_13 rfl rfl ?_
  refine fX10_22 hX dX10_add_14 ?_
  refine g_iload hX dX10_add_17 rfl ?_
  refine g_iload_n (i := 2) hX dX10_add_19 rfl rfl ?_
  refine g_iastoreN hX (ia72) (e) ((show 40 * r + n < 200 by omega)) (by first | decide | assumption | omega) dX10_add_20 ?_
  refine g_aload_n (i := 0) hX dX10_add_21 rfl rfl ?_
  refine fX10_25 hX dX10_add_22 ?_
  refine g_iload hX dX10_add_25 rfl ?_
  refine g_iload_n (i := 3) hX dX10_add_27 rfl rfl ?_
  refine g_iastoreN hX (ia73) (e) ((show 40 * r + n < 200 by omega)) (by first | decide | assumption | omega) dX10_add_28 ?_
  refine g_aload_n (i := 0) hX dX10_add_29 rfl rfl ?_
  refine fX10_28 hX dX10_add_30 ?_
  refine g_iload hX dX10_add_33 rfl ?_
  refine g_iload hX dX10_add_35 rfl ?_
  refine g_iastoreN hX (ia74) (e) ((show 40 * r + n < 200 by omega)) (by first | decide | assumption | omega) dX10_add_37 ?_
  refine g_aload_n (i := 0) hX dX10_add_38 rfl rfl ?_
  refine fX10_19 hX dX10_add_39 ?_
  refine g_iload_n (i := 1) hX dX10_add_42 rfl rfl ?_
  refine g_dup2 hX dX10_add_43 rfl rfl ?_
  refine g_ialoadN hX (ia71) rfl (hr) (by first | decide | assumption | omega) dX10_add_44 ?_
  refine g_iconst hX dX10_add_45 ic1 ?_
  refine g_iadd hX dX10_add_46 ?_
  refine g_iastoreN hX (ia71) rfl (hr) (by first | decide | assumption | omega) dX10_add_47 ?_
  refine g_vret (st := []) hX hE rfl dX10_add_48 (⟨rfl, ?_⟩)
  show pI _ 71 r (S.1 71 r + 1) = _
  rw [hc, nI_1]
  rfl
theorem addS_F {S : St} {r n : Nat} {t x g : Int32} : Fq [71, 72, 73, 74] [] S (addS S r n t x g) := (((Fq.rf.R (by decide)).R (by decide)).R (by decide)).R (by decide)
theorem RwR.push {S : St} {r n : Nat} {tk : Nat → Int32} {nm : Nat → Nat} {gr : Nat → Int32} (h : RwR S r n tk nm gr) : RwR (addS S r n (tk n) (nI (nm n)) (gr n)) r (n + 1) tk nm gr := by
  refine ⟨upd_self _ _ _, fun i hi => ?_⟩
  show upd (S.1 72) (40 * r + n) (tk n) (40 * r + i) = _ ∧ upd (S.1 73) (40 * r + n) (nI (nm n)) (40 * r + i) = _ ∧ upd (S.1 74) (40 * r + n) (gr n) (40 * r + i) = _
  by_cases e : i = n
  · subst e; exact ⟨upd_self _ _ _, upd_self _ _ _, upd_self _ _ _⟩
  · rw [upd_ne _ _ (by omega), upd_ne _ _ (by omega), upd_ne _ _ (by omega)]
    exact h.2 i (by omega)
theorem RwR.other {S : St} {r n r' n' : Nat} {t x g : Int32} {tk : Nat → Int32} {nm : Nat → Nat} {gr : Nat → Int32} (h : RwR S r' n' tk nm gr) (hr : r' ≠ r) (hn : n < 40) (hn' : n' ≤ 40) : RwR (addS S r n t x g) r' n' tk nm gr := by
  refine ⟨(upd_ne _ _ hr).trans h.1, fun i hi => ?_⟩
  show upd (S.1 72) (40 * r + n) t (40 * r' + i) = _ ∧ upd (S.1 73) (40 * r + n) x (40 * r' + i) = _ ∧ upd (S.1 74) (40 * r + n) g (40 * r' + i) = _
  rw [upd_ne _ _ (by omega), upd_ne _ _ (by omega), upd_ne _ _ (by omega)]
  exact h.2 i hi
theorem RwR.congr {S : St} {r n : Nat} {tk tk' : Nat → Int32} {nm nm' : Nat → Nat} {gr gr' : Nat → Int32} (h : RwR S r n tk nm gr) (h1 : ∀ i, i < n → tk' i = tk i) (h2 : ∀ i, i < n → nm' i = nm i) (h3 : ∀ i, i < n → gr' i = gr i) : RwR S r n tk' nm' gr' := by
  refine ⟨h.1, fun i hi => ?_⟩
  rw [h1 i hi, h2 i hi, h3 i hi]
  exact h.2 i hi
theorem c_gapOfR {Γ : GG} {S : St} {r i : Nat} (hr : r < 5) (hi : i < 40) : kX10_gapOf Γ [.ref (Γ.1 67), .int (nI r), .int (nI i)] S (rI (gapN (fun j => S.1 72 (40 * r + j)) i) S) := by
  refine oX10_gapOf (fun X hX hE => ?_)
  by_cases h : i = 0
  · subst h
    refine g_bipush hX dX10_gapOf_0 bp40 ?_
    refine g_iload_n (i := 1) hX dX10_gapOf_2 rfl rfl ?_
    refine g_imul hX dX10_gapOf_3 ?_
    refine g_iload_n (i := 2) hX dX10_gapOf_4 rfl rfl ?_
    refine g_iadd hX dX10_gapOf_5 ?_
    refine g_istore_n (i := 3) hX dX10_gapOf_6 rfl (by decide) rfl ?_
    refine g_iload_n (i := 2) hX dX10_gapOf_7 rfl rfl ?_
    refine g_if_ne (tgt := 20) hX dX10_gapOf_8 (by decide) (fun h9 => absurd (rfl) h9) (fun _ => ?_)
    refine g_aload_n (i := 0) hX dX10_gapOf_11 rfl rfl ?_
    refine fX10_22 hX dX10_gapOf_12 ?_
    refine g_iload_n (i := 3) hX dX10_gapOf_15 rfl rfl ?_
    refine g_ialoadN hX (ia72) (nI_40 r 0) ((show 40 * r + 0 < 200 by omega)) (by first | decide | assumption | omega) dX10_gapOf_16 ?_
    refine g_goto (tgt := 35) hX dX10_gapOf_17 (by decide) ?_
    refine g_iret (st := []) hX hE rfl dX10_gapOf_35 (⟨rfl, rfl⟩)
  · rw [show gapN (fun j => S.1 72 (40 * r + j)) i = S.1 72 (40 * r + i) - S.1 72 (40 * r + (i - 1)) from if_neg h] at hE
    have e : (40 : Int32) * nI r + nI i - 1 = nI (40 * r + (i - 1)) := by rw [nI_40, nI_m1 (by omega)]; congr 1; omega
    refine g_bipush hX dX10_gapOf_0 bp40 ?_
    refine g_iload_n (i := 1) hX dX10_gapOf_2 rfl rfl ?_
    refine g_imul hX dX10_gapOf_3 ?_
    refine g_iload_n (i := 2) hX dX10_gapOf_4 rfl rfl ?_
    refine g_iadd hX dX10_gapOf_5 ?_
    refine g_istore_n (i := 3) hX dX10_gapOf_6 rfl (by decide) rfl ?_
    refine g_iload_n (i := 2) hX dX10_gapOf_7 rfl rfl ?_
    refine g_if_ne (tgt := 20) hX dX10_gapOf_8 (by decide) (fun _ => ?_) (fun h9 => absurd h9 (nI_ne0 (by omega) (by omega)))
    refine g_aload_n (i := 0) hX dX10_gapOf_20 rfl rfl ?_
    refine fX10_22 hX dX10_gapOf_21 ?_
    refine g_iload_n (i := 3) hX dX10_gapOf_24 rfl rfl ?_
    refine g_ialoadN hX (ia72) (nI_40 r i) ((show 40 * r + i < 200 by omega)) (by first | decide | assumption | omega) dX10_gapOf_25 ?_
    refine g_aload_n (i := 0) hX dX10_gapOf_26 rfl rfl ?_
    refine fX10_22 hX dX10_gapOf_27 ?_
    refine g_iload_n (i := 3) hX dX10_gapOf_30 rfl rfl ?_
    refine g_iconst hX dX10_gapOf_31 ic1 ?_
    refine g_isub hX dX10_gapOf_32 ?_
    refine g_ialoadN hX (ia72) (e) ((show 40 * r + (i - 1) < 200 by omega)) (by first | decide | assumption | omega) dX10_gapOf_33 ?_
    refine g_isub hX dX10_gapOf_34 ?_
    refine g_iret (st := []) hX hE rfl dX10_gapOf_35 (⟨rfl, rfl⟩)
theorem c_depthOfR {Γ : GG} {S : St} {r i : Nat} {nm : Nat → Nat} (hr : r < 5) (hi : i < 40) (hnm : ∀ j, j ≤ i → S.1 73 (40 * r + j) = nI (nm j) ∧ nm j < 10) : kX10_depthOf Γ [.ref (Γ.1 67), .int (nI r), .int (nI i)] S (rI (dep nm i) S) := by
  refine oX10_depthOf (fun X hX hE => ?_)
  have ei : S.1 73 (40 * r + i) = nI (nm i) := (hnm i (Nat.le_refl i)).1
  have hxi := (hnm i (Nat.le_refl i)).2
  have loop : ∀ k m, k ≤ i → m < 1024 → scan nm (nm i) k m = dep nm i → G Γ X S 10 [(0, .ref (Γ.1 67)), (1, .int (nI r)), (2, .int (nI i)), (3, .int (nI m)), (4, .int (nI (popN m))), (5, .int (nI k + (-1)))] [] := by
    intro k
    induction k with
    | zero =>
      intro m hk hm e
      refine g_iload hX dX10_depthOf_10 rfl ?_
      refine g_if_lt (tgt := 80) hX dX10_depthOf_12 (by decide) (fun _ => ?_) (fun h9 => absurd ((by decide)) h9)
      refine g_ldc hX ccX10_106 dX10_depthOf_80 ?_
      refine g_iret (st := []) hX hE rfl dX10_depthOf_82 (⟨?_, rfl⟩)
      rw [← e]; rfl
    | succ k ih =>
      intro m hk hm e
      obtain ⟨e1, e2⟩ := hnm k (by omega)
      rw [pk_m1]
      by_cases h : nm k = nm i
      · refine g_iload hX dX10_depthOf_10 rfl ?_
        refine g_if_lt (tgt := 80) hX dX10_depthOf_12 (by decide) (fun h9 => absurd h9 (nI_pos (by omega))) (fun _ => ?_)
        refine g_aload_n (i := 0) hX dX10_depthOf_15 rfl rfl ?_
        refine fX10_25 hX dX10_depthOf_16 ?_
        refine g_bipush hX dX10_depthOf_19 bp40 ?_
        refine g_iload_n (i := 1) hX dX10_depthOf_21 rfl rfl ?_
        refine g_imul hX dX10_depthOf_22 ?_
        refine g_iload hX dX10_depthOf_23 rfl ?_
        refine g_iadd hX dX10_depthOf_25 ?_
        refine g_ialoadN hX (ia73) (nI_40 r k) ((show 40 * r + k < 200 by omega)) (by first | decide | assumption | omega) dX10_depthOf_26 ?_
        refine g_istore hX dX10_depthOf_27 (by decide) rfl ?_
        refine g_iload hX dX10_depthOf_29 rfl ?_
        refine g_aload_n (i := 0) hX dX10_depthOf_31 rfl rfl ?_
        refine fX10_25 hX dX10_depthOf_32 ?_
        refine g_bipush hX dX10_depthOf_35 bp40 ?_
        refine g_iload_n (i := 1) hX dX10_depthOf_37 rfl rfl ?_
        refine g_imul hX dX10_depthOf_38 ?_
        refine g_iload_n (i := 2) hX dX10_depthOf_39 rfl rfl ?_
        refine g_iadd hX dX10_depthOf_40 ?_
        refine g_ialoadN hX (ia73) (nI_40 r i) ((show 40 * r + i < 200 by omega)) (by first | decide | assumption | omega) dX10_depthOf_41 ?_
        refine g_icmp_ne (tgt := 48) hX dX10_depthOf_42 (by decide) (fun h9 => absurd ((by rw [e1, ei, h])) h9) (fun _ => ?_)
        refine g_iload hX dX10_depthOf_45 rfl ?_
        refine g_iret (st := []) hX hE rfl dX10_depthOf_47 (⟨?_, rfl⟩)
        rw [← e, scan, if_pos h]
      · have hs := shr_name m hm (nm k) e2
        have hp := pop_or m hm (nm k) e2
        have ho := or_name m hm (nm k) e2
        have he : scan nm (nm i) k (m ||| 2 ^ nm k) = dep nm i := by rw [← e, scan, if_neg h]
        by_cases ht : m.testBit (nm k) = true
        · refine g_iload hX dX10_depthOf_10 rfl ?_
          refine g_if_lt (tgt := 80) hX dX10_depthOf_12 (by decide) (fun h9 => absurd h9 (nI_pos (by omega))) (fun _ => ?_)
          refine g_aload_n (i := 0) hX dX10_depthOf_15 rfl rfl ?_
          refine fX10_25 hX dX10_depthOf_16 ?_
          refine g_bipush hX dX10_depthOf_19 bp40 ?_
          refine g_iload_n (i := 1) hX dX10_depthOf_21 rfl rfl ?_
          refine g_imul hX dX10_depthOf_22 ?_
          refine g_iload hX dX10_depthOf_23 rfl ?_
          refine g_iadd hX dX10_depthOf_25 ?_
          refine g_ialoadN hX (ia73) (nI_40 r k) ((show 40 * r + k < 200 by omega)) (by first | decide | assumption | omega) dX10_depthOf_26 ?_
          refine g_istore hX dX10_depthOf_27 (by decide) rfl ?_
          refine g_iload hX dX10_depthOf_29 rfl ?_
          refine g_aload_n (i := 0) hX dX10_depthOf_31 rfl rfl ?_
          refine fX10_25 hX dX10_depthOf_32 ?_
          refine g_bipush hX dX10_depthOf_35 bp40 ?_
          refine g_iload_n (i := 1) hX dX10_depthOf_37 rfl rfl ?_
          refine g_imul hX dX10_depthOf_38 ?_
          refine g_iload_n (i := 2) hX dX10_depthOf_39 rfl rfl ?_
          refine g_iadd hX dX10_depthOf_40 ?_
          refine g_ialoadN hX (ia73) (nI_40 r i) ((show 40 * r + i < 200 by omega)) (by first | decide | assumption | omega) dX10_depthOf_41 ?_
          refine g_icmp_ne (tgt := 48) hX dX10_depthOf_42 (by decide) (fun _ => ?_) (fun h9 => absurd h9 ((by rw [e1, ei]; exact nI_ne (by omega) (by omega) h)))
          refine g_iload hX dX10_depthOf_48 rfl ?_
          refine g_iload_n (i := 3) hX dX10_depthOf_50 rfl rfl ?_
          refine g_iload hX dX10_depthOf_51 rfl ?_
          refine g_ishr hX dX10_depthOf_53 ?_
          refine g_iconst hX dX10_depthOf_54 ic1 ?_
          refine g_iand hX dX10_depthOf_55 ?_
          refine g_if_ne (tgt := 63) hX dX10_depthOf_56 (by decide) (fun _ => ?_) (fun h9 => absurd h9 ((by rw [e1, hs, if_pos ht]; decide)))
          refine g_iconst hX dX10_depthOf_63 ic0 ?_
          refine g_iadd hX dX10_depthOf_64 ?_
          refine g_istore hX dX10_depthOf_65 (by decide) rfl ?_
          refine g_iload_n (i := 3) hX dX10_depthOf_67 rfl rfl ?_
          refine g_iconst hX dX10_depthOf_68 ic1 ?_
          refine g_iload hX dX10_depthOf_69 rfl ?_
          refine g_ishl hX dX10_depthOf_71 ?_
          refine g_ior hX dX10_depthOf_72 ?_
          refine g_istore_n (i := 3) hX dX10_depthOf_73 rfl (by decide) rfl ?_
          refine g_iinc hX dX10_depthOf_74 rfl icm1 (by decide) rfl ?_
          refine g_goto (tgt := 10) hX dX10_depthOf_77 (by decide) ?_
          have h2 := ih _ (by omega) ho.2 he
          rw [hp, if_pos ht, ← ho.1, ← shl_name _ e2, ← e1] at h2
          exact g_weak h2 (as_c rfl (as_c rfl (as_c rfl (as_c rfl (as_c (by rw [Nat.add_zero]; show some (Value.int (nI (popN m) + 0)) = _; rw [Int32.add_zero]) (as_c rfl as_n))))))
        · refine g_iload hX dX10_depthOf_10 rfl ?_
          refine g_if_lt (tgt := 80) hX dX10_depthOf_12 (by decide) (fun h9 => absurd h9 (nI_pos (by omega))) (fun _ => ?_)
          refine g_aload_n (i := 0) hX dX10_depthOf_15 rfl rfl ?_
          refine fX10_25 hX dX10_depthOf_16 ?_
          refine g_bipush hX dX10_depthOf_19 bp40 ?_
          refine g_iload_n (i := 1) hX dX10_depthOf_21 rfl rfl ?_
          refine g_imul hX dX10_depthOf_22 ?_
          refine g_iload hX dX10_depthOf_23 rfl ?_
          refine g_iadd hX dX10_depthOf_25 ?_
          refine g_ialoadN hX (ia73) (nI_40 r k) ((show 40 * r + k < 200 by omega)) (by first | decide | assumption | omega) dX10_depthOf_26 ?_
          refine g_istore hX dX10_depthOf_27 (by decide) rfl ?_
          refine g_iload hX dX10_depthOf_29 rfl ?_
          refine g_aload_n (i := 0) hX dX10_depthOf_31 rfl rfl ?_
          refine fX10_25 hX dX10_depthOf_32 ?_
          refine g_bipush hX dX10_depthOf_35 bp40 ?_
          refine g_iload_n (i := 1) hX dX10_depthOf_37 rfl rfl ?_
          refine g_imul hX dX10_depthOf_38 ?_
          refine g_iload_n (i := 2) hX dX10_depthOf_39 rfl rfl ?_
          refine g_iadd hX dX10_depthOf_40 ?_
          refine g_ialoadN hX (ia73) (nI_40 r i) ((show 40 * r + i < 200 by omega)) (by first | decide | assumption | omega) dX10_depthOf_41 ?_
          refine g_icmp_ne (tgt := 48) hX dX10_depthOf_42 (by decide) (fun _ => ?_) (fun h9 => absurd h9 ((by rw [e1, ei]; exact nI_ne (by omega) (by omega) h)))
          refine g_iload hX dX10_depthOf_48 rfl ?_
          refine g_iload_n (i := 3) hX dX10_depthOf_50 rfl rfl ?_
          refine g_iload hX dX10_depthOf_51 rfl ?_
          refine g_ishr hX dX10_depthOf_53 ?_
          refine g_iconst hX dX10_depthOf_54 ic1 ?_
          refine g_iand hX dX10_depthOf_55 ?_
          refine g_if_ne (tgt := 63) hX dX10_depthOf_56 (by decide) (fun h9 => absurd ((by rw [e1, hs, if_neg ht]; rfl)) h9) (fun _ => ?_)
          refine g_iconst hX dX10_depthOf_59 ic1 ?_
          refine g_goto (tgt := 64) hX dX10_depthOf_60 (by decide) ?_
          refine g_iadd hX dX10_depthOf_64 ?_
          refine g_istore hX dX10_depthOf_65 (by decide) rfl ?_
          refine g_iload_n (i := 3) hX dX10_depthOf_67 rfl rfl ?_
          refine g_iconst hX dX10_depthOf_68 ic1 ?_
          refine g_iload hX dX10_depthOf_69 rfl ?_
          refine g_ishl hX dX10_depthOf_71 ?_
          refine g_ior hX dX10_depthOf_72 ?_
          refine g_istore_n (i := 3) hX dX10_depthOf_73 rfl (by decide) rfl ?_
          refine g_iinc hX dX10_depthOf_74 rfl icm1 (by decide) rfl ?_
          refine g_goto (tgt := 10) hX dX10_depthOf_77 (by decide) ?_
          have h2 := ih _ (by omega) ho.2 he
          rw [hp, if_neg ht, ← nI_1, ← ho.1, ← shl_name _ e2, ← e1] at h2
          exact g_weak h2 (as_c rfl (as_c rfl (as_c rfl (as_c rfl (as_c rfl (as_c rfl (as_n)))))))
  refine g_iconst hX dX10_depthOf_0 ic0 ?_
  refine g_istore_n (i := 3) hX dX10_depthOf_1 rfl (by decide) rfl ?_
  refine g_iconst hX dX10_depthOf_2 ic0 ?_
  refine g_istore hX dX10_depthOf_3 (by decide) rfl ?_
  refine g_iload_n (i := 2) hX dX10_depthOf_5 rfl rfl ?_
  refine g_iconst hX dX10_depthOf_6 ic1 ?_
  refine g_isub hX dX10_depthOf_7 ?_
  refine g_istore hX dX10_depthOf_8 (by decide) rfl ?_
  rw [sub1]
  exact loop i 0 (Nat.le_refl i) (by decide) rfl
/-- the names' slots: a new one's is 10 -/
def slotI (v : Int32) : Int32 := if v = -1000000 then 10 else v
def cntE (sl : Nat → Int32) : Nat → Nat → Nat
  | 0, _ => 0
  | n + 1, d => cntE sl n d + (if sl n = nI d then 1 else 0)
theorem cntE_congr {sl sl' : Nat → Int32} : ∀ n d, (∀ i, i < n → sl' i = sl i) → cntE sl' n d = cntE sl n d := by
  intro n
  induction n with
  | zero => intro d _; rfl
  | succ n ih => intro d h; simp only [cntE]; rw [ih d (fun i hi => h i (by omega)), h n (by omega)]
theorem cntE_le (sl : Nat → Int32) : ∀ n d, cntE sl n d ≤ n := by
  intro n
  induction n with
  | zero => intro d; exact Nat.le_refl 0
  | succ n ih => intro d; simp only [cntE]; have := ih d; split <;> omega
theorem c_cameOf {Γ : GG} {S : St} {n d : Nat} {tk : Nat → Int32} {nm : Nat → Nat} {gr : Nat → Int32} (hd : d < 11) (hn : n ≤ 40) (h : RwR S 0 n tk nm gr) (hnm : ∀ i, i < n → nm i < 10) : kX10_cameOf Γ [.ref (Γ.1 67), .int (nI d)] S (rI (nI (cntE (fun i => slotI (dep nm i)) n d)) S) := by
  refine oX10_cameOf (fun X hX hE => ?_)
  have hc : S.1 71 0 = nI n := h.1
  have loop : ∀ e i, i + e = n → G Γ X S 4 [(0, .ref (Γ.1 67)), (1, .int (nI d)), (2, .int (nI (cntE (fun i => slotI (dep nm i)) i d))), (3, .int (nI i))] [] := by
    intro e
    induction e with
    | zero =>
      intro i hi
      obtain rfl : i = n := by omega
      refine g_iload_n (i := 3) hX dX10_cameOf_4 rfl rfl ?_
      refine g_aload_n (i := 0) hX dX10_cameOf_5 rfl rfl ?_
      refine fX10_19 hX dX10_cameOf_6 ?_
      refine g_iconst hX dX10_cameOf_9 ic0 ?_
      refine g_ialoadN (i := 0) hX (ia71) rfl (by decide) (by first | decide | assumption | omega) dX10_cameOf_10 ?_
      refine g_icmp_ge (tgt := 55) hX dX10_cameOf_11 (by decide) (fun _ => ?_) (fun h9 => absurd ((by rw [hc]; exact nI_le (Nat.le_refl _) (by omega))) h9)
      refine g_iload_n (i := 2) hX dX10_cameOf_55 rfl rfl ?_
      refine g_iret (st := []) hX hE rfl dX10_cameOf_56 (⟨rfl, rfl⟩)
    | succ e ih =>
      intro i hi
      have hdp : kX10_depthOf Γ [.ref (Γ.1 67), .int 0, .int (nI i)] S (rI (dep nm i) S) := c_depthOfR (r := 0) (by decide) (by omega) (fun j hj => ⟨(h.2 j (by omega)).2.1, hnm j (by omega)⟩)
      have h2 := ih (i + 1) (by omega)
      have yes : slotI (dep nm i) = nI d → G Γ X S 42 [(0, .ref (Γ.1 67)), (1, .int (nI d)), (2, .int (nI (cntE (fun i => slotI (dep nm i)) i d))), (3, .int (nI i)), (4, .int (dep nm i))] [.int (nI (cntE (fun i => slotI (dep nm i)) i d))] := by
        intro q
        refine g_iconst hX dX10_cameOf_42 ic1 ?_
        refine g_goto (tgt := 47) hX dX10_cameOf_43 (by decide) ?_
        refine g_iadd hX dX10_cameOf_47 ?_
        refine g_istore_n (i := 2) hX dX10_cameOf_48 rfl (by decide) rfl ?_
        refine g_iinc hX dX10_cameOf_49 rfl ic1 (by decide) rfl ?_
        refine g_goto (tgt := 4) hX dX10_cameOf_52 (by decide) ?_
        rw [nI_1, nI_1]
        simp only [cntE, q, if_true] at h2
        exact g_weak h2 (as_c rfl (as_c rfl (as_c rfl (as_c rfl (as_n)))))
      have no : ¬ slotI (dep nm i) = nI d → G Γ X S 46 [(0, .ref (Γ.1 67)), (1, .int (nI d)), (2, .int (nI (cntE (fun i => slotI (dep nm i)) i d))), (3, .int (nI i)), (4, .int (dep nm i))] [.int (nI (cntE (fun i => slotI (dep nm i)) i d))] := by
        intro q
        refine g_iconst hX dX10_cameOf_46 ic0 ?_
        refine g_iadd hX dX10_cameOf_47 ?_
        refine g_istore_n (i := 2) hX dX10_cameOf_48 rfl (by decide) rfl ?_
        refine g_iinc hX dX10_cameOf_49 rfl ic1 (by decide) rfl ?_
        refine g_goto (tgt := 4) hX dX10_cameOf_52 (by decide) ?_
        rw [nI_1, Int32.add_zero]
        simp only [cntE, q, if_false, Nat.add_zero] at h2
        exact g_weak h2 (as_c rfl (as_c rfl (as_c rfl (as_c rfl (as_n)))))
      refine g_iload_n (i := 3) hX dX10_cameOf_4 rfl rfl ?_
      refine g_aload_n (i := 0) hX dX10_cameOf_5 rfl rfl ?_
      refine fX10_19 hX dX10_cameOf_6 ?_
      refine g_iconst hX dX10_cameOf_9 ic0 ?_
      refine g_ialoadN (i := 0) hX (ia71) rfl (by decide) (by first | decide | assumption | omega) dX10_cameOf_10 ?_
      refine g_icmp_ge (tgt := 55) hX dX10_cameOf_11 (by decide) (fun h9 => absurd h9 ((by rw [hc]; exact nI_ge (by omega) (by omega)))) (fun _ => ?_)
      refine g_aload_n (i := 0) hX dX10_cameOf_14 rfl rfl ?_
      refine g_iconst hX dX10_cameOf_15 ic0 ?_
      refine g_iload_n (i := 3) hX dX10_cameOf_16 rfl rfl ?_
      refine sX10_116 hX ⟨Nat.le_of_ble_eq_true rfl, Nat.le_of_ble_eq_true rfl⟩ (Nat.le_of_ble_eq_true rfl) dX10_cameOf_17 (hdp) ?_
      refine g_istore hX dX10_cameOf_20 (by decide) rfl ?_
      refine g_iload_n (i := 2) hX dX10_cameOf_22 rfl rfl ?_
      refine g_iload hX dX10_cameOf_23 rfl ?_
      refine g_iload_n (i := 1) hX dX10_cameOf_25 rfl rfl ?_
      refine g_icmp_eq (tgt := 42) hX dX10_cameOf_26 (by decide) (fun q1 => ?_) (fun q1 => ?_)
      · refine yes ?_
        unfold slotI
        rw [if_neg (by rw [q1, i_eq, nI_toInt (by omega), show (-1000000 : Int32).toInt = -1000000 by decide]; omega)]
        exact q1
      · refine g_iload hX dX10_cameOf_29 rfl ?_
        refine g_ldc hX ccX10_106 dX10_cameOf_31 ?_
        refine g_icmp_ne (tgt := 46) hX dX10_cameOf_33 (by decide) (fun q2 => ?_) (fun q2 => ?_)
        · refine no ?_
          unfold slotI
          rw [if_neg q2]
          exact q1
        · refine g_iload_n (i := 1) hX dX10_cameOf_36 rfl rfl ?_
          refine g_bipush hX dX10_cameOf_37 bp10 ?_
          refine g_icmp_ne (tgt := 46) hX dX10_cameOf_39 (by decide) (fun q3 => ?_) (fun q3 => ?_)
          · refine no ?_
            unfold slotI
            rw [if_pos q2]
            exact fun z => q3 z.symm
          · refine yes ?_
            unfold slotI
            rw [if_pos q2]
            exact q3.symm
  refine g_iconst hX dX10_cameOf_0 ic0 ?_
  refine g_istore_n (i := 2) hX dX10_cameOf_1 rfl (by decide) rfl ?_
  refine g_iconst hX dX10_cameOf_2 ic0 ?_
  refine g_istore_n (i := 3) hX dX10_cameOf_3 rfl (by decide) rfl ?_
  exact loop n 0 (by omega)
