/-! a house stepped: the reference's -/
def MruL (S : St) (l : List Nat) : Prop := S.1 67 25 = nI l.length ∧ ∀ j x, l[j]? = some x → S.1 79 j = nI x
theorem nd_len {l : List Nat} (hd : l.Nodup) (h : ∀ x ∈ l, x < 10) : l.length ≤ 10 := by
  rw [← msk_pop _ hd h]
  exact popN_lt _ (msk_lt _ h)
theorem get_lt {l : List Nat} {j x : Nat} (h : l[j]? = some x) : j < l.length := by
  rcases Nat.lt_or_ge j l.length with q | q
  · exact q
  · rw [List.getElem?_eq_none q] at h; cases h
theorem c_toFront {Γ : GG} {S : St} {l : List Nat} {x : Nat} (hx : x < 10) (hd : l.Nodup) (h10 : ∀ y ∈ l, y < 10) (hl : MruL S l) : kX10_toFront Γ [.ref (Γ.1 67), .int (nI x)] S (eV (fun S1 => MruL S1 (x :: l.erase x) ∧ Fq [79] [(67, 25)] S S1)) := by
  refine oX10_toFront (fun X hX hE => ?_)
  have hlen := nd_len hd h10
  have hp : (bfr x l).length < 10 := by
    by_cases q : x ∈ l
    · have := (bfr_lt l q).1; omega
    · have := nd_len (List.nodup_cons.mpr ⟨q, hd⟩) (fun y hy => (List.mem_cons.mp hy).elim (fun e => e ▸ hx) (h10 y))
      rw [List.length_cons] at this
      rw [bfr_all l q]; omega
  have tail : ∀ T, T.1 79 = S.1 79 → T.1 67 25 = nI (x :: l.erase x).length → Fq [79] [(67, 25)] S T → ∀ k U, k ≤ (bfr x l).length → Fq [79] [(67, 25)] S U → U.1 67 25 = nI (x :: l.erase x).length → (∀ j, U.1 79 j = if k < j ∧ j ≤ (bfr x l).length then S.1 79 (j - 1) else S.1 79 j) → G Γ X U 50 [(0, .ref (Γ.1 67)), (1, .int (nI x)), (2, .int (nI (bfr x l).length)), (3, .int (nI k))] [] := by
    intro T _ _ _ k
    induction k with
    | zero =>
      intro U _ hF h25 hU
      refine g_iload_n (i := 3) hX dX10_toFront_50 rfl rfl ?_
      refine g_if_le (tgt := 74) hX dX10_toFront_51 (by decide) (fun _ => ?_) (fun h9 => absurd ((by decide)) h9)
      refine g_aload_n (i := 0) hX dX10_toFront_74 rfl rfl ?_
      refine fX10_44 hX dX10_toFront_75 ?_
      refine g_iconst hX dX10_toFront_78 ic0 ?_
      refine g_iload_n (i := 1) hX dX10_toFront_79 rfl rfl ?_
      refine g_iastoreN (i := 0) hX (ia79) rfl (by decide) (by first | decide | assumption | omega) dX10_toFront_80 ?_
      refine g_vret (st := []) hX hE rfl dX10_toFront_81 (⟨rfl, ⟨?_, ?_⟩, hF.R (by simp)⟩)
      · rw [pR_ne _ _ (by decide)]; exact h25
      · intro j y hy
        rw [pR_self]
        cases j with
        | zero =>
          cases hy
          rw [upd_self]
        | succ j =>
          rw [upd_ne _ _ (by omega), hU]
          have hy : (l.erase x)[j]? = some y := hy
          rw [erase_get] at hy
          by_cases q : j < (bfr x l).length
          · rw [if_pos q] at hy
            rw [if_pos (by omega), Nat.add_sub_cancel]
            exact hl.2 j y hy
          · rw [if_neg q] at hy
            rw [if_neg (by omega)]
            exact hl.2 (j + 1) y hy
    | succ k ih =>
      intro U hk hF h25 hU
      refine g_iload_n (i := 3) hX dX10_toFront_50 rfl rfl ?_
      refine g_if_le (tgt := 74) hX dX10_toFront_51 (by decide) (fun h9 => absurd h9 (nI_nle0 (by omega) (by omega))) (fun _ => ?_)
      refine g_aload_n (i := 0) hX dX10_toFront_54 rfl rfl ?_
      refine fX10_44 hX dX10_toFront_55 ?_
      refine g_iload_n (i := 3) hX dX10_toFront_58 rfl rfl ?_
      refine g_aload_n (i := 0) hX dX10_toFront_59 rfl rfl ?_
      refine fX10_44 hX dX10_toFront_60 ?_
      refine g_iload_n (i := 3) hX dX10_toFront_63 rfl rfl ?_
      refine g_iconst hX dX10_toFront_64 ic1 ?_
      refine g_isub hX dX10_toFront_65 ?_
      refine g_ialoadN hX (ia79) (nI_m1 (by omega)) ((show k + 1 - 1 < 10 by omega)) (by first | decide | assumption | omega) dX10_toFront_66 ?_
      refine g_iastoreN hX (ia79) rfl ((show k + 1 < 10 by omega)) (by first | decide | assumption | omega) dX10_toFront_67 ?_
      refine g_iinc hX dX10_toFront_68 rfl icm1 (by decide) rfl ?_
      refine g_goto (tgt := 50) hX dX10_toFront_71 (by decide) ?_
      rw [pk_m1]
      refine ih _ (by omega) (hF.R (by simp)) (by rw [pR_ne _ _ (by decide)]; exact h25) (fun j => ?_)
      rw [pR_self]
      by_cases e : j = k + 1
      · subst e
        rw [upd_self, if_pos (by omega), hU, if_neg (by omega)]
      · rw [upd_ne _ _ e, hU]
        by_cases q : k + 1 < j ∧ j ≤ (bfr x l).length
        · rw [if_pos q, if_pos (by omega)]
        · rw [if_neg q, if_neg (by omega)]
  have mid : G Γ X S 26 [(0, .ref (Γ.1 67)), (1, .int (nI x)), (2, .int (nI (bfr x l).length))] [] := by
    have fin : ∀ v, v = nI (x :: l.erase x).length → G Γ X (pI S 67 25 v) 50 [(0, .ref (Γ.1 67)), (1, .int (nI x)), (2, .int (nI (bfr x l).length)), (3, .int (nI (bfr x l).length))] [] := by
      intro v hv
      have h1 : (pI S 67 25 v).1 67 25 = nI (x :: l.erase x).length := by rw [pR_self, upd_self, hv]
      have hF : Fq [79] [(67, 25)] S (pI S 67 25 v) := Fq.rf.I (by decide)
      refine tail _ (by rw [pR_ne _ _ (by decide)]) h1 hF _ _ (Nat.le_refl _) hF h1 (fun j => ?_)
      rw [if_neg (by omega), pR_ne _ _ (by decide)]
    by_cases q : x ∈ l
    · have hq := (bfr_lt l q).1
      refine g_aload_n (i := 0) hX dX10_toFront_26 rfl rfl ?_
      refine g_dup hX dX10_toFront_27 rfl ?_
      refine fX10_229 hX dX10_toFront_28 ?_
      refine g_iload_n (i := 2) hX dX10_toFront_31 rfl rfl ?_
      refine g_aload_n (i := 0) hX dX10_toFront_32 rfl rfl ?_
      refine fX10_229 hX dX10_toFront_33 ?_
      refine g_icmp_ne (tgt := 43) hX dX10_toFront_36 (by decide) (fun _ => ?_) (fun h9 => absurd h9 ((by rw [hl.1]; exact nI_ne (by omega) (by omega) (by omega))))
      refine g_iconst hX dX10_toFront_43 ic0 ?_
      refine g_iadd hX dX10_toFront_44 ?_
      refine pX10_229 hX dX10_toFront_45 ?_
      refine g_iload_n (i := 2) hX dX10_toFront_48 rfl rfl ?_
      refine g_istore_n (i := 3) hX dX10_toFront_49 rfl (by decide) rfl ?_
      refine fin _ ?_
      rw [hl.1, Int32.add_zero, List.length_cons, List.length_erase_of_mem q]
      exact congrArg nI (by omega)
    · have hq : (bfr x l).length = l.length := by rw [bfr_all l q]
      refine g_aload_n (i := 0) hX dX10_toFront_26 rfl rfl ?_
      refine g_dup hX dX10_toFront_27 rfl ?_
      refine fX10_229 hX dX10_toFront_28 ?_
      refine g_iload_n (i := 2) hX dX10_toFront_31 rfl rfl ?_
      refine g_aload_n (i := 0) hX dX10_toFront_32 rfl rfl ?_
      refine fX10_229 hX dX10_toFront_33 ?_
      refine g_icmp_ne (tgt := 43) hX dX10_toFront_36 (by decide) (fun h9 => absurd ((by rw [hl.1, hq])) h9) (fun _ => ?_)
      refine g_iconst hX dX10_toFront_39 ic1 ?_
      refine g_goto (tgt := 44) hX dX10_toFront_40 (by decide) ?_
      refine g_iadd hX dX10_toFront_44 ?_
      refine pX10_229 hX dX10_toFront_45 ?_
      refine g_iload_n (i := 2) hX dX10_toFront_48 rfl rfl ?_
      refine g_istore_n (i := 3) hX dX10_toFront_49 rfl (by decide) rfl ?_
      refine fin _ ?_
      rw [hl.1, nI_1, List.length_cons, List.erase_of_not_mem q]
  have loop : ∀ d j, j + d = (bfr x l).length → G Γ X S 2 [(0, .ref (Γ.1 67)), (1, .int (nI x)), (2, .int (nI j))] [] := by
    intro d
    induction d with
    | zero =>
      intro j hj
      obtain rfl : j = (bfr x l).length := by omega
      by_cases q : x ∈ l
      · obtain ⟨b1, b2⟩ := bfr_lt l q
        refine g_iload_n (i := 2) hX dX10_toFront_2 rfl rfl ?_
        refine g_aload_n (i := 0) hX dX10_toFront_3 rfl rfl ?_
        refine fX10_229 hX dX10_toFront_4 ?_
        refine g_icmp_ge (tgt := 26) hX dX10_toFront_7 (by decide) (fun h9 => absurd h9 ((by rw [hl.1]; exact nI_ge b1 (by omega)))) (fun _ => ?_)
        refine g_aload_n (i := 0) hX dX10_toFront_10 rfl rfl ?_
        refine fX10_44 hX dX10_toFront_11 ?_
        refine g_iload_n (i := 2) hX dX10_toFront_14 rfl rfl ?_
        refine g_ialoadN hX (ia79) rfl (hp) (by first | decide | assumption | omega) dX10_toFront_15 ?_
        refine g_iload_n (i := 1) hX dX10_toFront_16 rfl rfl ?_
        refine g_icmp_eq (tgt := 26) hX dX10_toFront_17 (by decide) (fun _ => ?_) (fun h9 => absurd ((hl.2 _ x b2)) h9)
        exact mid
      · refine g_iload_n (i := 2) hX dX10_toFront_2 rfl rfl ?_
        refine g_aload_n (i := 0) hX dX10_toFront_3 rfl rfl ?_
        refine fX10_229 hX dX10_toFront_4 ?_
        refine g_icmp_ge (tgt := 26) hX dX10_toFront_7 (by decide) (fun _ => ?_) (fun h9 => absurd ((by rw [hl.1, bfr_all l q]; exact Int32.le_refl _)) h9)
        exact mid
    | succ d ih =>
      intro j hj
      obtain ⟨y, hy, hne⟩ := bfr_ne l j (show j < (bfr x l).length by omega)
      have hjl := get_lt hy
      have hy10 := h10 y (List.mem_of_getElem? hy)
      refine g_iload_n (i := 2) hX dX10_toFront_2 rfl rfl ?_
      refine g_aload_n (i := 0) hX dX10_toFront_3 rfl rfl ?_
      refine fX10_229 hX dX10_toFront_4 ?_
      refine g_icmp_ge (tgt := 26) hX dX10_toFront_7 (by decide) (fun h9 => absurd h9 ((by rw [hl.1]; exact nI_ge hjl (by omega)))) (fun _ => ?_)
      refine g_aload_n (i := 0) hX dX10_toFront_10 rfl rfl ?_
      refine fX10_44 hX dX10_toFront_11 ?_
      refine g_iload_n (i := 2) hX dX10_toFront_14 rfl rfl ?_
      refine g_ialoadN hX (ia79) rfl ((show j < 10 by omega)) (by first | decide | assumption | omega) dX10_toFront_15 ?_
      refine g_iload_n (i := 1) hX dX10_toFront_16 rfl rfl ?_
      refine g_icmp_eq (tgt := 26) hX dX10_toFront_17 (by decide) (fun h9 => absurd h9 ((by rw [hl.2 j y hy]; exact nI_ne (by omega) (by omega) hne))) (fun _ => ?_)
      refine g_iinc hX dX10_toFront_20 rfl ic1 (by decide) rfl ?_
      refine g_goto (tgt := 2) hX dX10_toFront_23 (by decide) ?_
      rw [nI_1]
      exact ih (j + 1) (by omega)
  refine g_iconst hX dX10_toFront_0 ic0 ?_
  refine g_istore_n (i := 2) hX dX10_toFront_1 rfl (by decide) rfl ?_
  exact loop _ 0 (Nat.zero_add _)
theorem c_serve {Γ : GG} {S : St} {r n c k : Nat} {tk : Nat → Int32} {nm : Nat → Nat} {gr : Nat → Int32} (hr : r < 5) (hn : n ≤ 40) (rr : RwR S r n tk nm gr) (hnm : ∀ i, i < n → nm i < 10) (hk : k < 5) (hc : S.1 67 28 = nI c) (hc6 : c ≤ 6) :
    kX10_serve Γ [.ref (Γ.1 67), .int (nI r), .int (nI k)] S (eV (fun S1 => Num6 S1 81 (hsN tk nm gr c (S.1 67 29) (S.1 67 30) k n) (mru nm n).length ∧ Fq [79, 80, 81] [(67, 25)] S S1)) := by
  refine oX10_serve (fun X hX hE => ?_)
  have ff : ∀ T, Fq [79, 80, 81] [(67, 25)] S T → RwR T r n tk nm gr ∧ T.1 67 28 = nI c ∧ T.1 67 29 = S.1 67 29 ∧ T.1 67 30 = S.1 67 30 := by
    intro T hF
    exact ⟨rr.q hF (by decide), by rw [(hF.s (k := 67) (j := 28) (by decide)).1]; exact hc, (hF.s (by decide)).1, (hF.s (by decide)).1⟩
  have loop : ∀ d i T, i + d = n → T.1 81 0 = (hsN tk nm gr c (S.1 67 29) (S.1 67 30) k i).a → T.1 81 1 = (hsN tk nm gr c (S.1 67 29) (S.1 67 30) k i).b → T.1 81 2 = (hsN tk nm gr c (S.1 67 29) (S.1 67 30) k i).w → MruL T (mru nm i) → T.1 81 5 = (hsN tk nm gr c (S.1 67 29) (S.1 67 30) k i).g → (∀ j, j < i → T.1 80 j = (hsN tk nm gr c (S.1 67 29) (S.1 67 30) k i).e j) → Fq [79, 80, 81] [(67, 25)] S T → G Γ X T 31 [(0, .ref (Γ.1 67)), (1, .int (nI r)), (2, .int (nI k)), (3, .int (hsN tk nm gr c (S.1 67 29) (S.1 67 30) k i).f), (4, .int (nI i))] [] := by
    intro d
    induction d with
    | zero =>
      intro i T hi t0 t1 t2 tm t5 te hF
      obtain rfl : i = n := by omega
      obtain ⟨f1, f2, f3, f4⟩ := ff T hF
      refine g_iload hX dX10_serve_31 rfl ?_
      refine g_aload_n (i := 0) hX dX10_serve_33 rfl rfl ?_
      refine fX10_19 hX dX10_serve_34 ?_
      refine g_iload_n (i := 1) hX dX10_serve_37 rfl rfl ?_
      refine g_ialoadN hX (ia71) rfl (hr) (by first | decide | assumption | omega) dX10_serve_38 ?_
      refine g_icmp_ge (tgt := 315) hX dX10_serve_39 (by decide) (fun _ => ?_) (fun h9 => absurd ((by rw [f1.1]; exact nI_le (Nat.le_refl _) (by omega))) h9)
      refine g_aload_n (i := 0) hX dX10_serve_315 rfl rfl ?_
      refine fX10_60 hX dX10_serve_316 ?_
      refine g_iconst hX dX10_serve_319 ic3 ?_
      refine g_iload_n (i := 3) hX dX10_serve_320 rfl rfl ?_
      refine g_iastoreN (i := 3) hX (ia81) rfl (by decide) (by first | decide | assumption | omega) dX10_serve_321 ?_
      refine g_aload_n (i := 0) hX dX10_serve_322 rfl rfl ?_
      refine fX10_60 hX dX10_serve_323 ?_
      refine g_iconst hX dX10_serve_326 ic4 ?_
      refine g_aload_n (i := 0) hX dX10_serve_327 rfl rfl ?_
      refine fX10_229 hX dX10_serve_328 ?_
      refine g_iastoreN (i := 4) hX (ia81) rfl (by decide) (by first | decide | assumption | omega) dX10_serve_331 ?_
      refine g_vret (st := []) hX hE rfl dX10_serve_332 (⟨rfl, ⟨?_, ?_, ?_, ?_, ?_, ?_⟩, (hF.R (by simp)).R (by simp)⟩)
      · rw [pR_self, upd_ne _ _ (by decide), pR_self, upd_ne _ _ (by decide)]; exact t0
      · rw [pR_self, upd_ne _ _ (by decide), pR_self, upd_ne _ _ (by decide)]; exact t1
      · rw [pR_self, upd_ne _ _ (by decide), pR_self, upd_ne _ _ (by decide)]; exact t2
      · rw [pR_self, upd_ne _ _ (by decide), pR_self, upd_self]
      · rw [pR_self, upd_self, pR_ne _ _ (by decide)]; exact tm.1
      · rw [pR_self, upd_ne _ _ (by decide), pR_self, upd_ne _ _ (by decide)]; exact t5
    | succ d ih =>
      intro i T hi t0 t1 t2 tm t5 te hF
      obtain ⟨f1, f2, f3, f4⟩ := ff T hF
      have hin : i < n := by omega
      have hi4 : i < 40 := by omega
      have hat : 40 * r + i < 200 := by omega
      have h10 : ∀ j, j < i → nm j < 10 := fun j hj => hnm j (by omega)
      obtain ⟨q1, q2, q3⟩ := f1.2 i hin
      have hx := hnm i hin
      have ih2 := ih (i + 1)
      rw [show hsN tk nm gr c (S.1 67 29) (S.1 67 30) k (i + 1) = hsS tk nm gr c (S.1 67 29) (S.1 67 30) k i (hsN tk nm gr c (S.1 67 29) (S.1 67 30) k i) from rfl] at ih2
      generalize hsN tk nm gr c (S.1 67 29) (S.1 67 30) k i = s at *
      have hll := mru_len h10
      have eL : begN tk k i s - comN tk k s.e i = latN tk k i s := rfl
      have rest3 : ∀ U v, U.1 81 0 = (hsS tk nm gr c (S.1 67 29) (S.1 67 30) k i s).a → U.1 81 1 = s.b → U.1 81 2 = s.w → MruL U (mru nm (i + 1)) → U.1 81 5 = (hsS tk nm gr c (S.1 67 29) (S.1 67 30) k i s).g → U.1 80 = T.1 80 → Fq [79, 80, 81] [(67, 25)] S U → G Γ X U 252 [(0, .ref (Γ.1 67)), (1, .int (nI r)), (2, .int (nI k)), (3, .int s.f), (4, .int (nI i)), (5, .int (nI (40 * r + i))), (6, .int (comN tk k s.e i)), (7, .int (begN tk k i s)), (8, .int v)] [.int (endN tk nm gr c (S.1 67 29) (S.1 67 30) k i s)] := by
        intro U v u0 u1 u2 um u5 ue hFU
        have fin : ∀ w V, V.1 81 0 = (hsS tk nm gr c (S.1 67 29) (S.1 67 30) k i s).a → V.1 81 1 = s.b + latN tk k i s → MruL V (mru nm (i + 1)) → V.1 81 5 = (hsS tk nm gr c (S.1 67 29) (S.1 67 30) k i s).g → V.1 80 = upd (T.1 80) i (endN tk nm gr c (S.1 67 29) (S.1 67 30) k i s) → Fq [79, 80, 81] [(67, 25)] S V → w = mxI s.w (latN tk k i s) → G Γ X (pI V 81 2 w) 309 [(0, .ref (Γ.1 67)), (1, .int (nI r)), (2, .int (nI k)), (3, .int (endN tk nm gr c (S.1 67 29) (S.1 67 30) k i s)), (4, .int (nI i)), (5, .int (nI (40 * r + i))), (6, .int (comN tk k s.e i)), (7, .int (begN tk k i s)), (8, .int v)] [] := by
          intro w V v0 v1 vm v5 ve hFV hw
          refine g_iinc hX dX10_serve_309 rfl ic1 (by decide) rfl ?_
          refine g_goto (tgt := 31) hX dX10_serve_312 (by decide) ?_
          rw [nI_1]
          refine g_weak (ih2 _ (by omega) ?_ ?_ ?_ ?_ ?_ ?_ (hFV.R (by simp))) (as_c rfl (as_c rfl (as_c rfl (as_c rfl (as_c rfl (as_n))))))
          · rw [pR_self, upd_ne _ _ (by decide)]; exact v0
          · rw [pR_self, upd_ne _ _ (by decide)]; exact v1
          · rw [pR_self, upd_self, hw]; rfl
          · exact ⟨by rw [pR_ne _ _ (by decide)]; exact vm.1, by rw [pR_ne _ _ (by decide)]; exact vm.2⟩
          · rw [pR_self, upd_ne _ _ (by decide)]; exact v5
          · intro j hj
            rw [pR_ne _ _ (by decide), ve]
            show upd (T.1 80) i _ j = upd s.e i _ j
            by_cases e : j = i
            · subst e; rw [upd_self, upd_self]
            · rw [upd_ne _ _ e, upd_ne _ _ e]; exact te j (by omega)
        refine g_istore_n (i := 3) hX dX10_serve_252 rfl (by decide) rfl ?_
        refine g_aload_n (i := 0) hX dX10_serve_253 rfl rfl ?_
        refine fX10_57 hX dX10_serve_254 ?_
        refine g_iload hX dX10_serve_257 rfl ?_
        refine g_iload_n (i := 3) hX dX10_serve_259 rfl rfl ?_
        refine g_iastoreN hX (ia80) rfl (hi4) (by first | decide | assumption | omega) dX10_serve_260 ?_
        refine g_aload_n (i := 0) hX dX10_serve_261 rfl rfl ?_
        refine fX10_60 hX dX10_serve_262 ?_
        refine g_iconst hX dX10_serve_265 ic1 ?_
        refine g_dup2 hX dX10_serve_266 rfl rfl ?_
        refine g_ialoadN (i := 1) hX (ia81) rfl (by decide) (by first | decide | assumption | omega) dX10_serve_267 ?_
        refine g_iload hX dX10_serve_268 rfl ?_
        refine g_iload hX dX10_serve_270 rfl ?_
        refine g_isub hX dX10_serve_272 ?_
        rw [eL, pR_ne (k := 80) _ _ (by decide), u1]
        refine g_iadd hX dX10_serve_273 ?_
        refine g_iastoreN (i := 1) hX (ia81) rfl (by decide) (by first | decide | assumption | omega) dX10_serve_274 ?_
        generalize hV : pI (pI U 80 i (endN tk nm gr c (S.1 67 29) (S.1 67 30) k i s)) 81 1 (s.b + latN tk k i s) = V
        have v0 : V.1 81 0 = (hsS tk nm gr c (S.1 67 29) (S.1 67 30) k i s).a := by subst hV; rw [pR_self, upd_ne _ _ (by decide), pR_ne _ _ (by decide)]; exact u0
        have v1 : V.1 81 1 = s.b + latN tk k i s := by subst hV; rw [pR_self, upd_self]
        have v2 : V.1 81 2 = s.w := by subst hV; rw [pR_self, upd_ne _ _ (by decide), pR_ne _ _ (by decide)]; exact u2
        have v5 : V.1 81 5 = (hsS tk nm gr c (S.1 67 29) (S.1 67 30) k i s).g := by subst hV; rw [pR_self, upd_ne _ _ (by decide), pR_ne _ _ (by decide)]; exact u5
        have vm : MruL V (mru nm (i + 1)) := by subst hV; exact ⟨by rw [pR_ne _ _ (by decide), pR_ne _ _ (by decide)]; exact um.1, by rw [pR_ne _ _ (by decide), pR_ne _ _ (by decide)]; exact um.2⟩
        have ve : V.1 80 = upd (T.1 80) i (endN tk nm gr c (S.1 67 29) (S.1 67 30) k i s) := by subst hV; rw [pR_ne _ _ (by decide), pR_self, ue]
        have hFV : Fq [79, 80, 81] [(67, 25)] S V := by subst hV; exact (hFU.R (by simp)).R (by simp)
        clear hV
        by_cases hlt : s.w < latN tk k i s
        · refine g_aload_n (i := 0) hX dX10_serve_275 rfl rfl ?_
          refine fX10_60 hX dX10_serve_276 ?_
          refine g_iconst hX dX10_serve_279 ic2 ?_
          refine g_iload hX dX10_serve_280 rfl ?_
          refine g_iload hX dX10_serve_282 rfl ?_
          refine g_isub hX dX10_serve_284 ?_
          refine g_aload_n (i := 0) hX dX10_serve_285 rfl rfl ?_
          refine fX10_60 hX dX10_serve_286 ?_
          refine g_iconst hX dX10_serve_289 ic2 ?_
          refine g_ialoadN (i := 2) hX (ia81) rfl (by decide) (by first | decide | assumption | omega) dX10_serve_290 ?_
          refine g_icmp_le (tgt := 302) hX dX10_serve_291 (by decide) (fun h9 => absurd h9 ((by rw [eL, v2, i_le]; rw [i_lt] at hlt; omega))) (fun _ => ?_)
          refine g_iload hX dX10_serve_294 rfl ?_
          refine g_iload hX dX10_serve_296 rfl ?_
          refine g_isub hX dX10_serve_298 ?_
          refine g_goto (tgt := 308) hX dX10_serve_299 (by decide) ?_
          refine g_iastoreN (i := 2) hX (ia81) rfl (by decide) (by first | decide | assumption | omega) dX10_serve_308 ?_
          exact fin _ V v0 v1 vm v5 ve hFV (if_pos hlt).symm
        · refine g_aload_n (i := 0) hX dX10_serve_275 rfl rfl ?_
          refine fX10_60 hX dX10_serve_276 ?_
          refine g_iconst hX dX10_serve_279 ic2 ?_
          refine g_iload hX dX10_serve_280 rfl ?_
          refine g_iload hX dX10_serve_282 rfl ?_
          refine g_isub hX dX10_serve_284 ?_
          refine g_aload_n (i := 0) hX dX10_serve_285 rfl rfl ?_
          refine fX10_60 hX dX10_serve_286 ?_
          refine g_iconst hX dX10_serve_289 ic2 ?_
          refine g_ialoadN (i := 2) hX (ia81) rfl (by decide) (by first | decide | assumption | omega) dX10_serve_290 ?_
          refine g_icmp_le (tgt := 302) hX dX10_serve_291 (by decide) (fun _ => ?_) (fun h9 => absurd ((by rw [eL, v2, i_le]; rw [i_lt] at hlt; omega)) h9)
          refine g_aload_n (i := 0) hX dX10_serve_302 rfl rfl ?_
          refine fX10_60 hX dX10_serve_303 ?_
          refine g_iconst hX dX10_serve_306 ic2 ?_
          refine g_ialoadN (i := 2) hX (ia81) rfl (by decide) (by first | decide | assumption | omega) dX10_serve_307 ?_
          refine g_iastoreN (i := 2) hX (ia81) rfl (by decide) (by first | decide | assumption | omega) dX10_serve_308 ?_
          exact fin _ V v0 v1 vm v5 ve hFV (v2.trans (if_neg hlt).symm)
      have rest2 : ∀ U, U.1 81 0 = s.a → U.1 81 1 = s.b → U.1 81 2 = s.w → MruL U (mru nm i) → U.1 81 5 = (hsS tk nm gr c (S.1 67 29) (S.1 67 30) k i s).g → U.1 80 = T.1 80 → Fq [79, 80, 81] [(67, 25)] S U → G Γ X U 193 [(0, .ref (Γ.1 67)), (1, .int (nI r)), (2, .int (nI k)), (3, .int s.f), (4, .int (nI i)), (5, .int (nI (40 * r + i))), (6, .int (comN tk k s.e i)), (7, .int (begN tk k i s)), (8, .int (if hitB nm c i = true then 1 else 0))] [] := by
        intro U u0 u1 u2 um u5 ue hFU
        have mm : ∀ v, MruL (pI U 81 0 v) (mru nm i) := fun v => ⟨by rw [pR_ne _ _ (by decide)]; exact um.1, by rw [pR_ne _ _ (by decide)]; exact um.2⟩
        have hFv : ∀ v, Fq [79, 80, 81] [(67, 25)] S (pI U 81 0 v) := fun v => hFU.R (by simp)
        have ct := fun v => c_toFront (Γ := Γ) hx (mru_nd i) (mru_10 h10) (mm v)
        have after : ∀ V v z, v = (hsS tk nm gr c (S.1 67 29) (S.1 67 30) k i s).a → MruL V (nm i :: (mru nm i).erase (nm i)) → Fq [79] [(67, 25)] (pI U 81 0 v) V → G Γ X V 252 [(0, .ref (Γ.1 67)), (1, .int (nI r)), (2, .int (nI k)), (3, .int s.f), (4, .int (nI i)), (5, .int (nI (40 * r + i))), (6, .int (comN tk k s.e i)), (7, .int (begN tk k i s)), (8, .int z)] [.int (endN tk nm gr c (S.1 67 29) (S.1 67 30) k i s)] := by
          intro V v z hv vm hFV
          have v81 : V.1 81 = upd (U.1 81) 0 v := by rw [hFV.r (k := 81) (by decide), pR_self]
          refine rest3 V z ?_ ?_ ?_ vm ?_ ?_ ((hFv v).tr (hFV.mono (by decide) (fun _ z => Or.inl z)))
          · rw [v81, upd_self, hv]
          · rw [v81, upd_ne _ _ (by decide)]; exact u1
          · rw [v81, upd_ne _ _ (by decide)]; exact u2
          · rw [v81, upd_ne _ _ (by decide)]; exact u5
          · rw [hFV.r (k := 80) (by decide), pR_ne _ _ (by decide)]; exact ue
        have g3 : ∀ v V, Fq [79] [(67, 25)] (pI U 81 0 v) V → V.1 67 29 = S.1 67 29 ∧ V.1 67 30 = S.1 67 30 ∧ V.1 74 (40 * r + i) = gr i := by
          intro v V hFV
          obtain ⟨e1, e2, e3, e4⟩ := ff V ((hFv v).tr (hFV.mono (by decide) (fun _ z => Or.inl z)))
          exact ⟨e3, e4, (e1.2 i hin).2.2⟩
        have n3 : ∀ v, (pI U 81 0 v).1 73 (40 * r + i) = nI (nm i) := fun v => ((ff _ (hFv v)).1.2 i hin).2.1
        cases z : hitB nm c i with
        | true =>
          have ea : U.1 81 0 + 1 = (hsS tk nm gr c (S.1 67 29) (S.1 67 30) k i s).a := by rw [u0]; show _ = s.a + _; rw [z]; rfl
          refine g_aload_n (i := 0) hX dX10_serve_193 rfl rfl ?_
          refine fX10_60 hX dX10_serve_194 ?_
          refine g_iconst hX dX10_serve_197 ic0 ?_
          refine g_dup2 hX dX10_serve_198 rfl rfl ?_
          refine g_ialoadN (i := 0) hX (ia81) rfl (by decide) (by first | decide | assumption | omega) dX10_serve_199 ?_
          refine g_iload hX dX10_serve_200 rfl ?_
          refine g_if_eq (tgt := 209) hX dX10_serve_202 (by decide) (fun h9 => absurd h9 ((by decide))) (fun _ => ?_)
          refine g_iconst hX dX10_serve_205 ic1 ?_
          refine g_goto (tgt := 210) hX dX10_serve_206 (by decide) ?_
          refine g_iadd hX dX10_serve_210 ?_
          refine g_iastoreN (i := 0) hX (ia81) rfl (by decide) (by first | decide | assumption | omega) dX10_serve_211 ?_
          refine g_aload_n (i := 0) hX dX10_serve_212 rfl rfl ?_
          refine g_aload_n (i := 0) hX dX10_serve_213 rfl rfl ?_
          refine fX10_25 hX dX10_serve_214 ?_
          refine g_iload hX dX10_serve_217 rfl ?_
          refine g_ialoadN hX (ia73) rfl (hat) (by first | decide | assumption | omega) dX10_serve_219 ?_
          refine eX10_239 hX ⟨Nat.le_of_ble_eq_true rfl, Nat.le_of_ble_eq_true rfl⟩ (Nat.le_of_ble_eq_true rfl) dX10_serve_220 ((by rw [n3]; exact ct _)) (fun V hV => ?_)
          obtain ⟨g1, g2, g4⟩ := g3 _ V hV.2
          refine g_iload hX dX10_serve_223 rfl ?_
          refine g_aload_n (i := 0) hX dX10_serve_225 rfl rfl ?_
          refine fX10_51 hX dX10_serve_226 ?_
          refine g_iadd hX dX10_serve_229 ?_
          refine g_iload hX dX10_serve_230 rfl ?_
          refine g_if_eq (tgt := 239) hX dX10_serve_232 (by decide) (fun h9 => absurd h9 ((by decide))) (fun _ => ?_)
          refine g_iconst hX dX10_serve_235 ic0 ?_
          refine g_goto (tgt := 251) hX dX10_serve_236 (by decide) ?_
          refine g_iadd hX dX10_serve_251 ?_
          have eE : begN tk k i s + V.1 67 29 + 0 = endN tk nm gr c (S.1 67 29) (S.1 67 30) k i s := by
            rw [Int32.add_zero, g1]; unfold endN; rw [z]; rfl
          rw [eE]
          exact after V _ _ ea hV.1 hV.2
        | false =>
          have ea : U.1 81 0 + 0 = (hsS tk nm gr c (S.1 67 29) (S.1 67 30) k i s).a := by rw [u0]; show _ = s.a + _; rw [z]; rfl
          refine g_aload_n (i := 0) hX dX10_serve_193 rfl rfl ?_
          refine fX10_60 hX dX10_serve_194 ?_
          refine g_iconst hX dX10_serve_197 ic0 ?_
          refine g_dup2 hX dX10_serve_198 rfl rfl ?_
          refine g_ialoadN (i := 0) hX (ia81) rfl (by decide) (by first | decide | assumption | omega) dX10_serve_199 ?_
          refine g_iload hX dX10_serve_200 rfl ?_
          refine g_if_eq (tgt := 209) hX dX10_serve_202 (by decide) (fun _ => ?_) (fun h9 => absurd ((by decide)) h9)
          refine g_iconst hX dX10_serve_209 ic0 ?_
          refine g_iadd hX dX10_serve_210 ?_
          refine g_iastoreN (i := 0) hX (ia81) rfl (by decide) (by first | decide | assumption | omega) dX10_serve_211 ?_
          refine g_aload_n (i := 0) hX dX10_serve_212 rfl rfl ?_
          refine g_aload_n (i := 0) hX dX10_serve_213 rfl rfl ?_
          refine fX10_25 hX dX10_serve_214 ?_
          refine g_iload hX dX10_serve_217 rfl ?_
          refine g_ialoadN hX (ia73) rfl (hat) (by first | decide | assumption | omega) dX10_serve_219 ?_
          refine eX10_239 hX ⟨Nat.le_of_ble_eq_true rfl, Nat.le_of_ble_eq_true rfl⟩ (Nat.le_of_ble_eq_true rfl) dX10_serve_220 ((by rw [n3]; exact ct _)) (fun V hV => ?_)
          obtain ⟨g1, g2, g4⟩ := g3 _ V hV.2
          refine g_iload hX dX10_serve_223 rfl ?_
          refine g_aload_n (i := 0) hX dX10_serve_225 rfl rfl ?_
          refine fX10_51 hX dX10_serve_226 ?_
          refine g_iadd hX dX10_serve_229 ?_
          refine g_iload hX dX10_serve_230 rfl ?_
          refine g_if_eq (tgt := 239) hX dX10_serve_232 (by decide) (fun _ => ?_) (fun h9 => absurd ((by decide)) h9)
          refine g_aload_n (i := 0) hX dX10_serve_239 rfl rfl ?_
          refine fX10_54 hX dX10_serve_240 ?_
          refine g_aload_n (i := 0) hX dX10_serve_243 rfl rfl ?_
          refine fX10_28 hX dX10_serve_244 ?_
          refine g_iload hX dX10_serve_247 rfl ?_
          refine g_ialoadN hX (ia74) rfl (hat) (by first | decide | assumption | omega) dX10_serve_249 ?_
          refine g_iadd hX dX10_serve_250 ?_
          refine g_iadd hX dX10_serve_251 ?_
          have eE : begN tk k i s + V.1 67 29 + (V.1 67 30 + V.1 74 (40 * r + i)) = endN tk nm gr c (S.1 67 29) (S.1 67 30) k i s := by
            rw [g1, g2, g4]; unfold endN; rw [z]
            show _ = _ + (S.1 67 29 + S.1 67 30 + gr i)
            rw [Int32.add_assoc, Int32.add_assoc (S.1 67 29)]
          rw [eE]
          exact after V _ _ ea hV.1 hV.2
      have rest : ∀ v, G Γ X T 163 [(0, .ref (Γ.1 67)), (1, .int (nI r)), (2, .int (nI k)), (3, .int s.f), (4, .int (nI i)), (5, .int (nI (40 * r + i))), (6, .int (comN tk k s.e i)), (7, .int (begN tk k i s)), (8, .int (if hitB nm c i = true then 1 else 0)), (9, .int v)] [] := by
        intro v
        have go : ∀ w, w = (hsS tk nm gr c (S.1 67 29) (S.1 67 30) k i s).g → G Γ X (pI T 81 5 w) 193 [(0, .ref (Γ.1 67)), (1, .int (nI r)), (2, .int (nI k)), (3, .int s.f), (4, .int (nI i)), (5, .int (nI (40 * r + i))), (6, .int (comN tk k s.e i)), (7, .int (begN tk k i s)), (8, .int (if hitB nm c i = true then 1 else 0)), (9, .int v)] [] := by
          intro w hw
          refine g_weak (rest2 _ ?_ ?_ ?_ ?_ ?_ ?_ (hF.R (by simp))) (as_c rfl (as_c rfl (as_c rfl (as_c rfl (as_c rfl (as_c rfl (as_c rfl (as_c rfl (as_c rfl (as_n))))))))))
          · rw [pR_self, upd_ne _ _ (by decide)]; exact t0
          · rw [pR_self, upd_ne _ _ (by decide)]; exact t1
          · rw [pR_self, upd_ne _ _ (by decide)]; exact t2
          · exact ⟨by rw [pR_ne _ _ (by decide)]; exact tm.1, by rw [pR_ne _ _ (by decide)]; exact tm.2⟩
          · rw [pR_self, upd_self, hw]
          · rw [pR_ne _ _ (by decide)]
        cases z : hitB nm c i with
        | true =>
          rw [z] at go
          refine g_aload_n (i := 0) hX dX10_serve_163 rfl rfl ?_
          refine fX10_60 hX dX10_serve_164 ?_
          refine g_iconst hX dX10_serve_167 ic5 ?_
          refine g_dup2 hX dX10_serve_168 rfl rfl ?_
          refine g_ialoadN (i := 5) hX (ia81) rfl (by decide) (by first | decide | assumption | omega) dX10_serve_169 ?_
          refine g_iload hX dX10_serve_170 rfl ?_
          refine g_if_ne (tgt := 190) hX dX10_serve_172 (by decide) (fun _ => ?_) (fun h9 => absurd h9 ((by decide)))
          refine g_iconst hX dX10_serve_190 ic0 ?_
          refine g_iadd hX dX10_serve_191 ?_
          refine g_iastoreN (i := 5) hX (ia81) rfl (by decide) (by first | decide | assumption | omega) dX10_serve_192 ?_
          exact go _ (by rw [t5]; show _ = s.g + _; rw [z]; rfl)
        | false =>
          rw [z] at go
          by_cases h2 : c ≤ (mru nm i).length
          · refine g_aload_n (i := 0) hX dX10_serve_163 rfl rfl ?_
            refine fX10_60 hX dX10_serve_164 ?_
            refine g_iconst hX dX10_serve_167 ic5 ?_
            refine g_dup2 hX dX10_serve_168 rfl rfl ?_
            refine g_ialoadN (i := 5) hX (ia81) rfl (by decide) (by first | decide | assumption | omega) dX10_serve_169 ?_
            refine g_iload hX dX10_serve_170 rfl ?_
            refine g_if_ne (tgt := 190) hX dX10_serve_172 (by decide) (fun h9 => absurd (rfl) h9) (fun _ => ?_)
            refine g_aload_n (i := 0) hX dX10_serve_175 rfl rfl ?_
            refine fX10_229 hX dX10_serve_176 ?_
            refine g_aload_n (i := 0) hX dX10_serve_179 rfl rfl ?_
            refine fX10_47 hX dX10_serve_180 ?_
            refine g_icmp_lt (tgt := 190) hX dX10_serve_183 (by decide) (fun h9 => absurd h9 ((by rw [tm.1, f2]; exact nI_nlt h2 (by omega)))) (fun _ => ?_)
            refine g_iconst hX dX10_serve_186 ic1 ?_
            refine g_goto (tgt := 191) hX dX10_serve_187 (by decide) ?_
            refine g_iadd hX dX10_serve_191 ?_
            refine g_iastoreN (i := 5) hX (ia81) rfl (by decide) (by first | decide | assumption | omega) dX10_serve_192 ?_
            exact go _ (by rw [t5]; show _ = s.g + _; rw [z, if_neg (by decide), if_pos h2])
          · refine g_aload_n (i := 0) hX dX10_serve_163 rfl rfl ?_
            refine fX10_60 hX dX10_serve_164 ?_
            refine g_iconst hX dX10_serve_167 ic5 ?_
            refine g_dup2 hX dX10_serve_168 rfl rfl ?_
            refine g_ialoadN (i := 5) hX (ia81) rfl (by decide) (by first | decide | assumption | omega) dX10_serve_169 ?_
            refine g_iload hX dX10_serve_170 rfl ?_
            refine g_if_ne (tgt := 190) hX dX10_serve_172 (by decide) (fun h9 => absurd (rfl) h9) (fun _ => ?_)
            refine g_aload_n (i := 0) hX dX10_serve_175 rfl rfl ?_
            refine fX10_229 hX dX10_serve_176 ?_
            refine g_aload_n (i := 0) hX dX10_serve_179 rfl rfl ?_
            refine fX10_47 hX dX10_serve_180 ?_
            refine g_icmp_lt (tgt := 190) hX dX10_serve_183 (by decide) (fun _ => ?_) (fun h9 => absurd ((by rw [tm.1, f2, i_lt, nI_toInt (by omega), nI_toInt (by omega)]; omega)) h9)
            refine g_iconst hX dX10_serve_190 ic0 ?_
            refine g_iadd hX dX10_serve_191 ?_
            refine g_iastoreN (i := 5) hX (ia81) rfl (by decide) (by first | decide | assumption | omega) dX10_serve_192 ?_
            exact go _ (by rw [t5]; show _ = s.g + _; rw [z, if_neg (by decide), if_neg h2])
      have hhit := hit_mru (c := c) (i := i) hc6 h10
      have inner : ∀ e q, q + e = min (mru nm i).length c → G Γ X T 110 [(0, .ref (Γ.1 67)), (1, .int (nI r)), (2, .int (nI k)), (3, .int s.f), (4, .int (nI i)), (5, .int (nI (40 * r + i))), (6, .int (comN tk k s.e i)), (7, .int (begN tk k i s)), (8, .int (if nm i ∈ mru nm i ∧ (bfr (nm i) (mru nm i)).length < q then 1 else 0)), (9, .int (nI q))] [] := by
        intro e
        induction e with
        | zero =>
          intro q hq
          have hz : (if nm i ∈ mru nm i ∧ (bfr (nm i) (mru nm i)).length < q then (1 : Int32) else 0) = if hitB nm c i = true then 1 else 0 := by
            by_cases y : nm i ∈ mru nm i
            · have := (bfr_lt _ y).1
              by_cases y2 : (bfr (nm i) (mru nm i)).length < q
              · rw [if_pos ⟨y, y2⟩, if_pos (hhit.mpr ⟨y, by omega⟩)]
              · rw [if_neg (fun z => y2 z.2), if_neg (fun z => y2 (by have := (hhit.mp z).2; omega))]
            · rw [if_neg (fun z => y z.1), if_neg (fun z => y (hhit.mp z).1)]
          rw [hz]
          by_cases y : (mru nm i).length ≤ q
          · refine g_iload hX dX10_serve_110 rfl ?_
            refine g_aload_n (i := 0) hX dX10_serve_112 rfl rfl ?_
            refine fX10_229 hX dX10_serve_113 ?_
            refine g_icmp_ge (tgt := 163) hX dX10_serve_116 (by decide) (fun _ => ?_) (fun h9 => absurd ((by rw [tm.1]; exact nI_le y (by omega))) h9)
            exact rest _
          · refine g_iload hX dX10_serve_110 rfl ?_
            refine g_aload_n (i := 0) hX dX10_serve_112 rfl rfl ?_
            refine fX10_229 hX dX10_serve_113 ?_
            refine g_icmp_ge (tgt := 163) hX dX10_serve_116 (by decide) (fun h9 => absurd h9 ((by rw [tm.1]; exact nI_ge (by omega) (by omega)))) (fun _ => ?_)
            refine g_iload hX dX10_serve_119 rfl ?_
            refine g_aload_n (i := 0) hX dX10_serve_121 rfl rfl ?_
            refine fX10_47 hX dX10_serve_122 ?_
            refine g_icmp_ge (tgt := 163) hX dX10_serve_125 (by decide) (fun _ => ?_) (fun h9 => absurd ((by rw [f2]; exact nI_le (by omega) (by omega))) h9)
            exact rest _
        | succ e ih3 =>
          intro q hq
          have hql : q < (mru nm i).length := by omega
          have hqc : q < c := by omega
          have h3 := ih3 (q + 1) (by omega)
          have hy : (mru nm i)[q]? = some (mru nm i)[q] := List.getElem?_eq_getElem hql
          have hy10 := mru_10 h10 _ (List.getElem_mem hql)
          have hT := tm.2 q _ hy
          by_cases y : nm i ∈ mru nm i ∧ (bfr (nm i) (mru nm i)).length < q
          · rw [if_pos ⟨y.1, by omega⟩] at h3
            rw [if_pos y]
            refine g_iload hX dX10_serve_110 rfl ?_
            refine g_aload_n (i := 0) hX dX10_serve_112 rfl rfl ?_
            refine fX10_229 hX dX10_serve_113 ?_
            refine g_icmp_ge (tgt := 163) hX dX10_serve_116 (by decide) (fun h9 => absurd h9 ((by rw [tm.1]; exact nI_ge hql (by omega)))) (fun _ => ?_)
            refine g_iload hX dX10_serve_119 rfl ?_
            refine g_aload_n (i := 0) hX dX10_serve_121 rfl rfl ?_
            refine fX10_47 hX dX10_serve_122 ?_
            refine g_icmp_ge (tgt := 163) hX dX10_serve_125 (by decide) (fun h9 => absurd h9 ((by rw [f2]; exact nI_ge hqc (by omega)))) (fun _ => ?_)
            refine g_iload hX dX10_serve_128 rfl ?_
            refine g_if_ne (tgt := 150) hX dX10_serve_130 (by decide) (fun _ => ?_) (fun h9 => absurd h9 ((by decide)))
            refine g_iconst hX dX10_serve_150 ic1 ?_
            refine g_goto (tgt := 155) hX dX10_serve_151 (by decide) ?_
            refine g_istore hX dX10_serve_155 (by decide) rfl ?_
            refine g_iinc hX dX10_serve_157 rfl ic1 (by decide) rfl ?_
            refine g_goto (tgt := 110) hX dX10_serve_160 (by decide) ?_
            rw [nI_1]
            exact h3
          · rw [if_neg y]
            by_cases y2 : nm i ∈ mru nm i ∧ (bfr (nm i) (mru nm i)).length = q
            · rw [if_pos ⟨y2.1, by omega⟩] at h3
              have b2 := (bfr_lt _ y2.1).2
              rw [y2.2] at b2
              have e3 : T.1 79 q = nI (nm i) := tm.2 q _ b2
              refine g_iload hX dX10_serve_110 rfl ?_
              refine g_aload_n (i := 0) hX dX10_serve_112 rfl rfl ?_
              refine fX10_229 hX dX10_serve_113 ?_
              refine g_icmp_ge (tgt := 163) hX dX10_serve_116 (by decide) (fun h9 => absurd h9 ((by rw [tm.1]; exact nI_ge hql (by omega)))) (fun _ => ?_)
              refine g_iload hX dX10_serve_119 rfl ?_
              refine g_aload_n (i := 0) hX dX10_serve_121 rfl rfl ?_
              refine fX10_47 hX dX10_serve_122 ?_
              refine g_icmp_ge (tgt := 163) hX dX10_serve_125 (by decide) (fun h9 => absurd h9 ((by rw [f2]; exact nI_ge hqc (by omega)))) (fun _ => ?_)
              refine g_iload hX dX10_serve_128 rfl ?_
              refine g_if_ne (tgt := 150) hX dX10_serve_130 (by decide) (fun h9 => absurd (rfl) h9) (fun _ => ?_)
              refine g_aload_n (i := 0) hX dX10_serve_133 rfl rfl ?_
              refine fX10_44 hX dX10_serve_134 ?_
              refine g_iload hX dX10_serve_137 rfl ?_
              refine g_ialoadN hX (ia79) rfl ((show q < 10 by omega)) (by first | decide | assumption | omega) dX10_serve_139 ?_
              refine g_aload_n (i := 0) hX dX10_serve_140 rfl rfl ?_
              refine fX10_25 hX dX10_serve_141 ?_
              refine g_iload hX dX10_serve_144 rfl ?_
              refine g_ialoadN hX (ia73) rfl (hat) (by first | decide | assumption | omega) dX10_serve_146 ?_
              refine g_icmp_ne (tgt := 154) hX dX10_serve_147 (by decide) (fun h9 => absurd ((by rw [e3, q2])) h9) (fun _ => ?_)
              refine g_iconst hX dX10_serve_150 ic1 ?_
              refine g_goto (tgt := 155) hX dX10_serve_151 (by decide) ?_
              refine g_istore hX dX10_serve_155 (by decide) rfl ?_
              refine g_iinc hX dX10_serve_157 rfl ic1 (by decide) rfl ?_
              refine g_goto (tgt := 110) hX dX10_serve_160 (by decide) ?_
              rw [nI_1]
              exact h3
            · rw [if_neg (fun z => (Nat.lt_or_eq_of_le (Nat.le_of_lt_succ z.2)).elim (fun w => y ⟨z.1, w⟩) (fun w => y2 ⟨z.1, w⟩))] at h3
              have hb : q < (bfr (nm i) (mru nm i)).length := by
                by_cases y3 : nm i ∈ mru nm i
                · rcases Nat.lt_trichotomy q (bfr (nm i) (mru nm i)).length with w | w | w
                  · exact w
                  · exact absurd ⟨y3, w.symm⟩ y2
                  · exact absurd ⟨y3, w⟩ y
                · rw [bfr_all _ y3]; exact hql
              obtain ⟨x2, hx2, hne⟩ := bfr_ne _ q hb
              have hx210 := mru_10 h10 x2 (List.mem_of_getElem? hx2)
              have e3 : T.1 79 q = nI x2 := tm.2 q _ hx2
              refine g_iload hX dX10_serve_110 rfl ?_
              refine g_aload_n (i := 0) hX dX10_serve_112 rfl rfl ?_
              refine fX10_229 hX dX10_serve_113 ?_
              refine g_icmp_ge (tgt := 163) hX dX10_serve_116 (by decide) (fun h9 => absurd h9 ((by rw [tm.1]; exact nI_ge hql (by omega)))) (fun _ => ?_)
              refine g_iload hX dX10_serve_119 rfl ?_
              refine g_aload_n (i := 0) hX dX10_serve_121 rfl rfl ?_
              refine fX10_47 hX dX10_serve_122 ?_
              refine g_icmp_ge (tgt := 163) hX dX10_serve_125 (by decide) (fun h9 => absurd h9 ((by rw [f2]; exact nI_ge hqc (by omega)))) (fun _ => ?_)
              refine g_iload hX dX10_serve_128 rfl ?_
              refine g_if_ne (tgt := 150) hX dX10_serve_130 (by decide) (fun h9 => absurd (rfl) h9) (fun _ => ?_)
              refine g_aload_n (i := 0) hX dX10_serve_133 rfl rfl ?_
              refine fX10_44 hX dX10_serve_134 ?_
              refine g_iload hX dX10_serve_137 rfl ?_
              refine g_ialoadN hX (ia79) rfl ((show q < 10 by omega)) (by first | decide | assumption | omega) dX10_serve_139 ?_
              refine g_aload_n (i := 0) hX dX10_serve_140 rfl rfl ?_
              refine fX10_25 hX dX10_serve_141 ?_
              refine g_iload hX dX10_serve_144 rfl ?_
              refine g_ialoadN hX (ia73) rfl (hat) (by first | decide | assumption | omega) dX10_serve_146 ?_
              refine g_icmp_ne (tgt := 154) hX dX10_serve_147 (by decide) (fun _ => ?_) (fun h9 => absurd h9 ((by rw [e3, q2]; exact nI_ne (by omega) (by omega) hne)))
              refine g_iconst hX dX10_serve_154 ic0 ?_
              refine g_istore hX dX10_serve_155 (by decide) rfl ?_
              refine g_iinc hX dX10_serve_157 rfl ic1 (by decide) rfl ?_
              refine g_goto (tgt := 110) hX dX10_serve_160 (by decide) ?_
              rw [nI_1]
              exact h3
      have body2 : G Γ X T 102 [(0, .ref (Γ.1 67)), (1, .int (nI r)), (2, .int (nI k)), (3, .int s.f), (4, .int (nI i)), (5, .int (nI (40 * r + i))), (6, .int (comN tk k s.e i))] [.int (begN tk k i s)] := by
        refine g_istore hX dX10_serve_102 (by decide) rfl ?_
        refine g_iconst hX dX10_serve_104 ic0 ?_
        refine g_istore hX dX10_serve_105 (by decide) rfl ?_
        refine g_iconst hX dX10_serve_107 ic0 ?_
        refine g_istore hX dX10_serve_108 (by decide) rfl ?_
        have h3 := inner (min (mru nm i).length c) 0 (by omega)
        rw [if_neg (fun z => absurd z.2 (by omega))] at h3
        exact h3
      have body : G Γ X T 88 [(0, .ref (Γ.1 67)), (1, .int (nI r)), (2, .int (nI k)), (3, .int s.f), (4, .int (nI i)), (5, .int (nI (40 * r + i)))] [.int (comN tk k s.e i)] := by
        by_cases hle : comN tk k s.e i ≤ s.f
        · refine g_istore hX dX10_serve_88 (by decide) rfl ?_
          refine g_iload hX dX10_serve_90 rfl ?_
          refine g_iload_n (i := 3) hX dX10_serve_92 rfl rfl ?_
          refine g_icmp_le (tgt := 101) hX dX10_serve_93 (by decide) (fun _ => ?_) (fun h9 => absurd (hle) h9)
          refine g_iload_n (i := 3) hX dX10_serve_101 rfl rfl ?_
          have e : begN tk k i s = s.f := by
            unfold begN mxI
            by_cases z : comN tk k s.e i < s.f
            · exact if_pos z
            · rw [if_neg z, i_eq]; rw [i_lt] at z; rw [i_le] at hle; omega
          rw [e] at body2
          exact body2
        · refine g_istore hX dX10_serve_88 (by decide) rfl ?_
          refine g_iload hX dX10_serve_90 rfl ?_
          refine g_iload_n (i := 3) hX dX10_serve_92 rfl rfl ?_
          refine g_icmp_le (tgt := 101) hX dX10_serve_93 (by decide) (fun h9 => absurd h9 (hle)) (fun _ => ?_)
          refine g_iload hX dX10_serve_96 rfl ?_
          refine g_goto (tgt := 102) hX dX10_serve_98 (by decide) ?_
          have e : begN tk k i s = comN tk k s.e i := if_neg (fun z => hle (by rw [i_le]; rw [i_lt] at z; omega))
          rw [e] at body2
          exact body2
      refine g_iload hX dX10_serve_31 rfl ?_
      refine g_aload_n (i := 0) hX dX10_serve_33 rfl rfl ?_
      refine fX10_19 hX dX10_serve_34 ?_
      refine g_iload_n (i := 1) hX dX10_serve_37 rfl rfl ?_
      refine g_ialoadN hX (ia71) rfl (hr) (by first | decide | assumption | omega) dX10_serve_38 ?_
      refine g_icmp_ge (tgt := 315) hX dX10_serve_39 (by decide) (fun h9 => absurd h9 ((by rw [f1.1]; exact nI_ge hin (by omega)))) (fun _ => ?_)
      refine g_bipush hX dX10_serve_42 bp40 ?_
      refine g_iload_n (i := 1) hX dX10_serve_44 rfl rfl ?_
      refine g_imul hX dX10_serve_45 ?_
      refine g_iload hX dX10_serve_46 rfl ?_
      refine g_iadd hX dX10_serve_48 ?_
      refine g_istore hX dX10_serve_49 (by decide) rfl ?_
      rw [nI_40]
      have gg : kX10_gapOf Γ [.ref (Γ.1 67), .int (nI r), .int (nI i)] T (rI (gapN tk i) T) := by
        have h2 := c_gapOfR (Γ := Γ) (S := T) hr hi4
        rw [gap_congr (g := tk) (fun j hj => (f1.2 j (by omega)).1)] at h2
        exact h2
      by_cases h0 : k = 0
      · subst h0
        have e : comN tk 0 s.e i = tk i := if_neg (by omega)
        rw [e] at body
        refine g_iload_n (i := 2) hX dX10_serve_51 rfl rfl ?_
        refine g_if_le (tgt := 81) hX dX10_serve_52 (by decide) (fun _ => ?_) (fun h9 => absurd ((by decide)) h9)
        refine g_aload_n (i := 0) hX dX10_serve_81 rfl rfl ?_
        refine fX10_22 hX dX10_serve_82 ?_
        refine g_iload hX dX10_serve_85 rfl ?_
        refine g_ialoadN hX (ia72) rfl (hat) (by first | decide | assumption | omega) dX10_serve_87 ?_
        rw [q1]
        exact body
      · by_cases h1 : i < k
        · have e : comN tk k s.e i = tk i := if_neg (by omega)
          rw [e] at body
          refine g_iload_n (i := 2) hX dX10_serve_51 rfl rfl ?_
          refine g_if_le (tgt := 81) hX dX10_serve_52 (by decide) (fun h9 => absurd h9 (nI_nle0 (by omega) (by omega))) (fun _ => ?_)
          refine g_iload hX dX10_serve_55 rfl ?_
          refine g_iload_n (i := 2) hX dX10_serve_57 rfl rfl ?_
          refine g_icmp_lt (tgt := 81) hX dX10_serve_58 (by decide) (fun _ => ?_) (fun h9 => absurd ((by rw [i_lt, nI_toInt (by omega), nI_toInt (by omega)]; omega)) h9)
          refine g_aload_n (i := 0) hX dX10_serve_81 rfl rfl ?_
          refine fX10_22 hX dX10_serve_82 ?_
          refine g_iload hX dX10_serve_85 rfl ?_
          refine g_ialoadN hX (ia72) rfl (hat) (by first | decide | assumption | omega) dX10_serve_87 ?_
          rw [q1]
          exact body
        · have e : comN tk k s.e i = s.e (i - k) + gapN tk i := if_pos (by omega)
          rw [e] at body
          refine g_iload_n (i := 2) hX dX10_serve_51 rfl rfl ?_
          refine g_if_le (tgt := 81) hX dX10_serve_52 (by decide) (fun h9 => absurd h9 (nI_nle0 (by omega) (by omega))) (fun _ => ?_)
          refine g_iload hX dX10_serve_55 rfl ?_
          refine g_iload_n (i := 2) hX dX10_serve_57 rfl rfl ?_
          refine g_icmp_lt (tgt := 81) hX dX10_serve_58 (by decide) (fun h9 => absurd h9 (nI_nlt (by omega) (by omega))) (fun _ => ?_)
          refine g_aload_n (i := 0) hX dX10_serve_61 rfl rfl ?_
          refine fX10_57 hX dX10_serve_62 ?_
          refine g_iload hX dX10_serve_65 rfl ?_
          refine g_iload_n (i := 2) hX dX10_serve_67 rfl rfl ?_
          refine g_isub hX dX10_serve_68 ?_
          refine g_ialoadN hX (ia80) (nI_sub (by omega)) ((show i - k < 40 by omega)) (by first | decide | assumption | omega) dX10_serve_69 ?_
          refine g_aload_n (i := 0) hX dX10_serve_70 rfl rfl ?_
          refine g_iload_n (i := 1) hX dX10_serve_71 rfl rfl ?_
          refine g_iload hX dX10_serve_72 rfl ?_
          refine sX10_120 hX ⟨Nat.le_of_ble_eq_true rfl, Nat.le_of_ble_eq_true rfl⟩ (Nat.le_of_ble_eq_true rfl) dX10_serve_74 (gg) ?_
          refine g_iadd hX dX10_serve_77 ?_
          refine g_goto (tgt := 88) hX dX10_serve_78 (by decide) ?_
          rw [te (i - k) (by omega)]
          exact body
  have first : ∀ d j T, j + d = 6 → (∀ q, q < j → T.1 81 q = 0) → Fq [79, 80, 81] [(67, 25)] S T → G Γ X T 2 [(0, .ref (Γ.1 67)), (1, .int (nI r)), (2, .int (nI k)), (3, .int (nI j))] [] := by
    intro d
    induction d with
    | zero =>
      intro j T hj h0 hF
      obtain rfl : j = 6 := by omega
      refine g_iload_n (i := 3) hX dX10_serve_2 rfl rfl ?_
      refine g_bipush hX dX10_serve_3 bp6 ?_
      refine g_icmp_ge (tgt := 21) hX dX10_serve_5 (by decide) (fun _ => ?_) (fun h9 => absurd ((by decide)) h9)
      refine g_aload_n (i := 0) hX dX10_serve_21 rfl rfl ?_
      refine g_iconst hX dX10_serve_22 ic0 ?_
      refine pX10_229 hX dX10_serve_23 ?_
      refine g_iconst hX dX10_serve_26 ic0 ?_
      refine g_istore_n (i := 3) hX dX10_serve_27 rfl (by decide) rfl ?_
      refine g_iconst hX dX10_serve_28 ic0 ?_
      refine g_istore hX dX10_serve_29 (by decide) rfl ?_
      have g0 : ∀ q, q < 6 → (pI T 67 25 0).1 81 q = 0 := fun q hq => by rw [pR_ne _ _ (by decide)]; exact h0 q hq
      exact loop n 0 _ (by omega) (g0 0 (by decide)) (g0 1 (by decide)) (g0 2 (by decide)) ⟨by rw [pR_self, upd_self]; rfl, fun j x h => by cases h⟩ (g0 5 (by decide)) (fun j hj => absurd hj (by omega)) (hF.I (by simp))
    | succ d ih =>
      intro j T hj h0 hF
      refine g_iload_n (i := 3) hX dX10_serve_2 rfl rfl ?_
      refine g_bipush hX dX10_serve_3 bp6 ?_
      refine g_icmp_ge (tgt := 21) hX dX10_serve_5 (by decide) (fun h9 => absurd h9 (nI_ge (show j < 6 by omega) (by decide))) (fun _ => ?_)
      refine g_aload_n (i := 0) hX dX10_serve_8 rfl rfl ?_
      refine fX10_60 hX dX10_serve_9 ?_
      refine g_iload_n (i := 3) hX dX10_serve_12 rfl rfl ?_
      refine g_iconst hX dX10_serve_13 ic0 ?_
      refine g_iastoreN hX (ia81) rfl ((show j < 6 by omega)) (by first | decide | assumption | omega) dX10_serve_14 ?_
      refine g_iinc hX dX10_serve_15 rfl ic1 (by decide) rfl ?_
      refine g_goto (tgt := 2) hX dX10_serve_18 (by decide) ?_
      rw [nI_1]
      refine ih (j + 1) _ (by omega) (fun q hq => ?_) (hF.R (by simp))
      rw [pR_self]
      by_cases e : q = j
      · subst e; rw [upd_self]
      · rw [upd_ne _ _ e]; exact h0 q (by omega)
  refine g_iconst hX dX10_serve_0 ic0 ?_
  refine g_istore_n (i := 3) hX dX10_serve_1 rfl (by decide) rfl ?_
  exact first 6 0 S (by omega) (fun q hq => absurd hq (by omega)) Fq.rf
