/-! the lots: both sides' draw -/
theorem nextS_F {S : St} : Fq [] [(58, 0), (58, 1)] S (nextS S) := (Fq.rf.J (by decide)).I (by decide)
theorem lotS_F {S : St} : Fq [] [(67, 22), (67, 23)] S (lotS S) := (Fq.rf.J (by decide)).I (by decide)
def drSt (g : Nat → Nat) (n : Nat) (S : St) : St := if sumW g n = 0 then S else nextS S
theorem sub_neg {r v : Nat} (hr : r < 2 ^ 31) (hv : v ≤ 99) (h : r < v) : ¬ 0 ≤ nI r - nI v := by
  have e1 := nI_toInt hr
  have e2 := nI_toInt (n := v) (by omega)
  rw [i_le, i_sub (by omega) (by omega), e1, e2, show (0 : Int32).toInt = 0 by decide]
  omega
theorem dr_rem {g : Nat → Nat} {n : Nat} (x : Int64) (z : sumW g n ≠ 0) (hs : sumW g n < 2 ^ 31) : ∃ r, r < sumW g n ∧ jrem (lotV (nxL x)) (nI (sumW g n)) = nI r ∧ drD g n x = pickN g n 0 r :=
  ⟨lotN x % sumW g n, Nat.mod_lt _ (Nat.pos_of_ne_zero z), by rw [(lotN_ok x).1, jrem_nI (lotN_ok x).2 (Nat.pos_of_ne_zero z) hs], rfl⟩
theorem c_draw {Γ : GG} {S : St} {k f n : Nat} {g : Nat → Nat} (ha : IsArr k 11) (hk : k ≠ 58) (hf : f + n ≤ 11) (hg : ∀ i, i < n → S.1 k (f + i) = nI (g i) ∧ g i ≤ 99) :
    kX3_draw Γ [.ref (Γ.1 58), .ref (Γ.1 k), .int (nI f), .int (nI n)] S (rI (drV g n (S.2 58 0)) (drSt g n S)) := by
  refine oX3_draw (fun X hX hE => ?_)
  have hs := sumW_le (g := g) n (fun j hj => (hg j hj).2)
  have hs2 : sumW g n ≤ 1089 := Nat.le_trans hs (by have := Nat.mul_le_mul_right 99 (show n ≤ 11 by omega); omega)
  have loop1 : (∀ v, G Γ X S 54 [(0, .ref (Γ.1 58)), (1, .ref (Γ.1 k)), (2, .int (nI f)), (3, .int (nI n)), (4, .int (nI (sumW g n))), (5, .int v)] []) → ∀ d i, i + d = n → G Γ X S 31 [(0, .ref (Γ.1 58)), (1, .ref (Γ.1 k)), (2, .int (nI f)), (3, .int (nI n)), (4, .int (nI (sumW g i))), (5, .int (nI i))] [] := by
    intro next d
    induction d with
    | zero =>
      intro i hi
      obtain rfl : i = n := by omega
      refine g_iload hX dX3_draw_31 rfl ?_
      refine g_iload_n (i := 3) hX dX3_draw_33 rfl rfl ?_
      refine g_icmp_ge (tgt := 54) hX dX3_draw_34 (by decide) (fun _ => ?_) (fun h9 => absurd (nI_le (Nat.le_refl _) (by omega)) h9)
      exact next _
    | succ d ih =>
      intro i hi
      refine g_iload hX dX3_draw_31 rfl ?_
      refine g_iload_n (i := 3) hX dX3_draw_33 rfl rfl ?_
      refine g_icmp_ge (tgt := 54) hX dX3_draw_34 (by decide) (fun h9 => absurd h9 (nI_ge (show i < n by omega) (by omega))) (fun _ => ?_)
      refine g_iload hX dX3_draw_37 rfl ?_
      refine g_aload_n (i := 1) hX dX3_draw_39 rfl rfl ?_
      refine g_iload_n (i := 2) hX dX3_draw_40 rfl rfl ?_
      refine g_iload hX dX3_draw_41 rfl ?_
      refine g_iadd hX dX3_draw_43 ?_
      refine g_ialoadN hX (ha) (nI_add2 f i) ((show f + i < 11 by omega)) (by first | decide | assumption | omega) dX3_draw_44 ?_
      refine g_iadd hX dX3_draw_45 ?_
      refine g_istore hX dX3_draw_46 (by decide) rfl ?_
      refine g_iinc hX dX3_draw_48 rfl ic1 (by decide) rfl ?_
      refine g_goto (tgt := 31) hX dX3_draw_51 (by decide) ?_
      rw [(hg i (by omega)).1, nI_1, nI_add2]
      exact ih (i + 1) (by omega)
  refine g_iload_n (i := 2) hX dX3_draw_0 rfl rfl ?_
  refine g_if_lt (tgt := 22) hX dX3_draw_1 (by decide) (fun h9 => absurd h9 (nI_pos (by omega))) (fun _ => ?_)
  refine g_iload_n (i := 3) hX dX3_draw_4 rfl rfl ?_
  refine g_if_lt (tgt := 22) hX dX3_draw_5 (by decide) (fun h9 => absurd h9 (nI_pos (by omega))) (fun _ => ?_)
  refine g_iload_n (i := 3) hX dX3_draw_8 rfl rfl ?_
  refine g_aload_n (i := 1) hX dX3_draw_9 rfl rfl ?_
  refine g_alen hX (ha).1 (ha).2 dX3_draw_10 ?_
  refine g_icmp_gt (tgt := 22) hX dX3_draw_11 (by decide) (fun h9 => absurd h9 (nI_nlt (by omega) (by decide))) (fun _ => ?_)
  refine g_iload_n (i := 2) hX dX3_draw_14 rfl rfl ?_
  refine g_aload_n (i := 1) hX dX3_draw_15 rfl rfl ?_
  refine g_alen hX (ha).1 (ha).2 dX3_draw_16 ?_
  refine g_iload_n (i := 3) hX dX3_draw_17 rfl rfl ?_
  refine g_isub hX dX3_draw_18 ?_
  refine g_icmp_le (tgt := 25) hX dX3_draw_19 (by decide) (fun _ => ?_) (fun h9 => absurd ((by rw [nI_sub (by omega)]; exact nI_le (by omega) (by omega))) h9)
  refine g_iconst hX dX3_draw_25 ic0 ?_
  refine g_istore hX dX3_draw_26 (by decide) rfl ?_
  refine g_iconst hX dX3_draw_28 ic0 ?_
  refine g_istore hX dX3_draw_29 (by decide) rfl ?_
  refine loop1 (fun v => ?_) n 0 (by omega)
  by_cases z : sumW g n = 0
  · rw [show drV g n (S.2 58 0) = -1000000 from if_pos z, show drSt g n S = S from if_pos z] at hE
    refine g_iload hX dX3_draw_54 rfl ?_
    refine g_if_gt (tgt := 62) hX dX3_draw_56 (by decide) (fun h9 => absurd h9 ((by rw [z]; decide))) (fun _ => ?_)
    refine g_ldc hX ccX3_23 dX3_draw_59 ?_
    refine g_iret (st := []) hX hE rfl dX3_draw_61 (⟨rfl, rfl⟩)
  · rw [show drV g n (S.2 58 0) = nI (drD g n (S.2 58 0)) from if_neg z, show drSt g n S = nextS S from if_neg z] at hE
    obtain ⟨r0, hm, hj, hD⟩ := dr_rem (S.2 58 0) z (by omega)
    rw [hD] at hE
    clear hD
    refine g_iload hX dX3_draw_54 rfl ?_
    refine g_if_gt (tgt := 62) hX dX3_draw_56 (by decide) (fun _ => ?_) (fun h9 => absurd ((by rw [i_lt, nI_toInt (by omega), show (0 : Int32).toInt = 0 by decide]; omega)) h9)
    refine g_aload_n (i := 0) hX dX3_draw_62 rfl rfl ?_
    refine sX3_24 hX ⟨Nat.le_of_ble_eq_true rfl, Nat.le_of_ble_eq_true rfl⟩ (Nat.le_of_ble_eq_true rfl) dX3_draw_63 (c_next) ?_
    refine g_iload hX dX3_draw_66 rfl ?_
    refine g_irem hX dX3_draw_68 (nI_ne0 (by omega) (by omega)) ?_
    refine g_istore hX dX3_draw_69 (by decide) rfl ?_
    refine g_iconst hX dX3_draw_71 ic0 ?_
    refine g_istore hX dX3_draw_72 (by decide) rfl ?_
    rw [hj]
    have loop2 : ∀ d i r, i + d = n → r + sumW g i < sumW g n → pickN g d i r = pickN g n 0 r0 → G Γ X (nextS S) 74 [(0, .ref (Γ.1 58)), (1, .ref (Γ.1 k)), (2, .int (nI f)), (3, .int (nI n)), (4, .int (nI (sumW g n))), (5, .int (nI r)), (6, .int (nI i))] [] := by
      intro d
      induction d with
      | zero => intro i r hi h _; rw [show i = n by omega] at h; omega
      | succ d ih =>
        intro i r hi h he
        have hw : (nextS S).1 k (f + i) = nI (g i) := by
          rw [(nextS_F k (f + i) (by simp) (by simp only [List.mem_cons, Prod.mk.injEq, List.not_mem_nil, or_false]; omega)).1]; exact (hg i (by omega)).1
        have hg9 := (hg i (by omega)).2
        rw [pickN] at he
        by_cases q : r < g i
        · rw [if_pos q] at he
          refine g_iload hX dX3_draw_74 rfl ?_
          refine g_iload_n (i := 3) hX dX3_draw_76 rfl rfl ?_
          refine g_icmp_ge (tgt := 105) hX dX3_draw_77 (by decide) (fun h9 => absurd h9 (nI_ge (show i < n by omega) (by omega))) (fun _ => ?_)
          refine g_iload hX dX3_draw_80 rfl ?_
          refine g_aload_n (i := 1) hX dX3_draw_82 rfl rfl ?_
          refine g_iload_n (i := 2) hX dX3_draw_83 rfl rfl ?_
          refine g_iload hX dX3_draw_84 rfl ?_
          refine g_iadd hX dX3_draw_86 ?_
          refine g_ialoadN hX (ha) (nI_add2 f i) ((show f + i < 11 by omega)) (by first | decide | assumption | omega) dX3_draw_87 ?_
          refine g_isub hX dX3_draw_88 ?_
          refine g_istore hX dX3_draw_89 (by decide) rfl ?_
          refine g_iload hX dX3_draw_91 rfl ?_
          refine g_if_ge (tgt := 99) hX dX3_draw_93 (by decide) (fun h9 => absurd h9 ((by rw [hw]; exact sub_neg (by omega) hg9 q))) (fun _ => ?_)
          refine g_iload hX dX3_draw_96 rfl ?_
          refine g_iret (st := []) hX hE rfl dX3_draw_98 (⟨by rw [he], rfl⟩)
        · rw [if_neg q] at he
          have e : nI r - nI (g i) = nI (r - g i) := nI_sub (by omega)
          refine g_iload hX dX3_draw_74 rfl ?_
          refine g_iload_n (i := 3) hX dX3_draw_76 rfl rfl ?_
          refine g_icmp_ge (tgt := 105) hX dX3_draw_77 (by decide) (fun h9 => absurd h9 (nI_ge (show i < n by omega) (by omega))) (fun _ => ?_)
          refine g_iload hX dX3_draw_80 rfl ?_
          refine g_aload_n (i := 1) hX dX3_draw_82 rfl rfl ?_
          refine g_iload_n (i := 2) hX dX3_draw_83 rfl rfl ?_
          refine g_iload hX dX3_draw_84 rfl ?_
          refine g_iadd hX dX3_draw_86 ?_
          refine g_ialoadN hX (ha) (nI_add2 f i) ((show f + i < 11 by omega)) (by first | decide | assumption | omega) dX3_draw_87 ?_
          refine g_isub hX dX3_draw_88 ?_
          refine g_istore hX dX3_draw_89 (by decide) rfl ?_
          rw [hw, e]
          refine g_iload hX dX3_draw_91 rfl ?_
          refine g_if_ge (tgt := 99) hX dX3_draw_93 (by decide) (fun _ => ?_) (fun h9 => absurd (nI_pos' (by omega)) h9)
          refine g_iinc hX dX3_draw_99 rfl ic1 (by decide) rfl ?_
          refine g_goto (tgt := 74) hX dX3_draw_102 (by decide) ?_
          rw [nI_1]
          exact ih (i + 1) (r - g i) (by omega) (by rw [sumW]; omega) he
    exact loop2 n 0 r0 (by omega) (by rw [sumW]; omega) rfl
def drRt (o : Int32) (g : Nat → Nat) (n : Nat) (S : St) : St := if o = 0 then (if sumW g n = 0 then S else lotS S) else S
def drVo (o : Int32) (g : Nat → Nat) (n : Nat) (x : Int64) : Int32 := if o = 0 then drV g n x else -1000000
theorem c_drawR {Γ : GG} {S : St} {p a len n : Nat} {g : Nat → Nat} {e m : Int32} (hp : p < 4) (he : e.toInt = (a + len : Nat) - 1) (hl : a + len ≤ 49) (hg : ∀ i, i < len → S.1 75 (a + i) = nI (g i)) (hg9 : ∀ i, i < n → g i ≤ 99) (hn : n ≤ 11)
    (hm : (m = -1 ∧ n = len) ∨ ∃ q, q < 49 ∧ m = nI q ∧ S.1 75 q = nI (g len) ∧ n = len + 1) :
    kX10_draw Γ [.ref (Γ.1 67), .int (nI p), .int (nI a), .int e, .int m] S (rI (drVo (S.1 77 p) g n (S.2 67 22)) (drRt (S.1 77 p) g n S)) := by
  refine oX10_draw (fun X hX hE => ?_)
  have hs := sumW_le (g := g) n hg9
  have hs2 : sumW g n ≤ 1089 := Nat.le_trans hs (by have := Nat.mul_le_mul_right 99 (show n ≤ 11 by omega); omega)
  have hsum : sumN (fun j => S.1 75 (a + j)) len = nI (sumW g len) := sumN_nI len hg
  have tail : G Γ X S 23 [(0, .ref (Γ.1 67)), (1, .int (nI p)), (2, .int (nI a)), (3, .int e), (4, .int m)] [.int (nI (sumW g n))] := by
    by_cases ho : S.1 77 p = 0
    · rw [show drVo (S.1 77 p) g n (S.2 67 22) = drV g n (S.2 67 22) from if_pos ho, show drRt (S.1 77 p) g n S = (if sumW g n = 0 then S else lotS S) from if_pos ho] at hE
      by_cases z : sumW g n = 0
      · rw [show drV g n (S.2 67 22) = -1000000 from if_pos z, if_pos z] at hE
        refine g_istore hX dX10_draw_23 (by decide) rfl ?_
        refine g_aload_n (i := 0) hX dX10_draw_25 rfl rfl ?_
        refine fX10_37 hX dX10_draw_26 ?_
        refine g_iload_n (i := 1) hX dX10_draw_29 rfl rfl ?_
        refine g_baloadN hX (show 77 < NC by decide) (show lay 77 = (1, 4, []) by decide) rfl (hp) (by decide) dX10_draw_30 ?_
        refine g_if_ne (tgt := 39) hX dX10_draw_31 (by decide) (fun h9 => absurd (ho) h9) (fun _ => ?_)
        refine g_iload hX dX10_draw_34 rfl ?_
        refine g_if_ne (tgt := 42) hX dX10_draw_36 (by decide) (fun h9 => absurd ((by rw [z]; rfl)) h9) (fun _ => ?_)
        refine g_ldc hX ccX10_106 dX10_draw_39 ?_
        refine g_iret (st := []) hX hE rfl dX10_draw_41 (⟨rfl, rfl⟩)
      · rw [show drV g n (S.2 67 22) = nI (drD g n (S.2 67 22)) from if_neg z, if_neg z] at hE
        obtain ⟨r0, hmm, hj, hD⟩ := dr_rem (S.2 67 22) z (by omega)
        rw [hD] at hE
        clear hD
        refine g_istore hX dX10_draw_23 (by decide) rfl ?_
        refine g_aload_n (i := 0) hX dX10_draw_25 rfl rfl ?_
        refine fX10_37 hX dX10_draw_26 ?_
        refine g_iload_n (i := 1) hX dX10_draw_29 rfl rfl ?_
        refine g_baloadN hX (show 77 < NC by decide) (show lay 77 = (1, 4, []) by decide) rfl (hp) (by decide) dX10_draw_30 ?_
        refine g_if_ne (tgt := 39) hX dX10_draw_31 (by decide) (fun h9 => absurd (ho) h9) (fun _ => ?_)
        refine g_iload hX dX10_draw_34 rfl ?_
        refine g_if_ne (tgt := 42) hX dX10_draw_36 (by decide) (fun _ => ?_) (fun h9 => absurd h9 (nI_ne0 (by omega) (by omega)))
        refine g_aload_n (i := 0) hX dX10_draw_42 rfl rfl ?_
        refine sX10_225 hX ⟨Nat.le_of_ble_eq_true rfl, Nat.le_of_ble_eq_true rfl⟩ (Nat.le_of_ble_eq_true rfl) dX10_draw_43 (c_lot) ?_
        refine g_iload hX dX10_draw_46 rfl ?_
        refine g_irem hX dX10_draw_48 (nI_ne0 (by omega) (by omega)) ?_
        refine g_istore hX dX10_draw_49 (by decide) rfl ?_
        refine g_iload_n (i := 2) hX dX10_draw_51 rfl rfl ?_
        refine g_istore hX dX10_draw_52 (by decide) rfl ?_
        rw [hj]
        have loop2 : ∀ d i r, i + d = len → r + sumW g i < sumW g n → pickN g (n - i) i r = pickN g n 0 r0 → G Γ X (lotS S) 54 [(0, .ref (Γ.1 67)), (1, .int (nI p)), (2, .int (nI a)), (3, .int e), (4, .int m), (5, .int (nI (sumW g n))), (6, .int (nI r)), (7, .int (nI (a + i)))] [] := by
          intro d
          induction d with
          | zero =>
            intro i r hi h hq
            obtain rfl : i = len := by omega
            rcases hm with ⟨_, e2⟩ | ⟨q, _, _, _, e2⟩
            · rw [e2] at h; omega
            · subst e2
              rw [show i + 1 - i = 0 + 1 by omega, pickN, if_pos (by rw [sumW] at h; omega)] at hq
              refine g_iload hX dX10_draw_54 rfl ?_
              refine g_iload_n (i := 3) hX dX10_draw_56 rfl rfl ?_
              refine g_icmp_gt (tgt := 88) hX dX10_draw_57 (by decide) (fun _ => ?_) (fun h9 => absurd ((by rw [i_lt, he, nI_toInt (by omega)]; omega)) h9)
              refine g_iload_n (i := 3) hX dX10_draw_88 rfl rfl ?_
              refine g_iload_n (i := 2) hX dX10_draw_89 rfl rfl ?_
              refine g_isub hX dX10_draw_90 ?_
              refine g_iconst hX dX10_draw_91 ic1 ?_
              refine g_iadd hX dX10_draw_92 ?_
              refine g_iret (st := []) hX hE rfl dX10_draw_93 (⟨?_, rfl⟩)
              rw [← hq]
              have e1 := nI_toInt (n := a) (by omega)
              have e3 : (e - nI a).toInt = (i : Int) - 1 := by rw [i_sub (by omega) (by omega)]; omega
              have e4 : e - nI a + 1 = nI i := by rw [i_eq, i_add (by rw [e3, t1]; omega) (by rw [e3, t1]; omega), e3, t1, nI_toInt (by omega)]; omega
              rw [e4]
          | succ d ih =>
            intro i r hi h hq
            have hin : i < n := by rcases hm with ⟨_, e2⟩ | ⟨q, _, _, _, e2⟩ <;> omega
            have hw : (lotS S).1 75 (a + i) = nI (g i) := by
              rw [lotS_F.r (k := 75) (by decide)]; exact hg i (by omega)
            have h99 := hg9 i hin
            rw [show n - i = (n - (i + 1)) + 1 by omega, pickN] at hq
            by_cases q : r < g i
            · rw [if_pos q] at hq
              refine g_iload hX dX10_draw_54 rfl ?_
              refine g_iload_n (i := 3) hX dX10_draw_56 rfl rfl ?_
              refine g_icmp_gt (tgt := 88) hX dX10_draw_57 (by decide) (fun h9 => absurd h9 ((by rw [i_lt, he, nI_toInt (by omega)]; omega))) (fun _ => ?_)
              refine g_iload hX dX10_draw_60 rfl ?_
              refine g_aload_n (i := 0) hX dX10_draw_62 rfl rfl ?_
              refine fX10_31 hX dX10_draw_63 ?_
              refine g_iload hX dX10_draw_66 rfl ?_
              refine g_ialoadN hX (ia75) rfl ((show a + i < 49 by omega)) (by first | decide | assumption | omega) dX10_draw_68 ?_
              refine g_isub hX dX10_draw_69 ?_
              refine g_istore hX dX10_draw_70 (by decide) rfl ?_
              refine g_iload hX dX10_draw_72 rfl ?_
              refine g_if_ge (tgt := 82) hX dX10_draw_74 (by decide) (fun h9 => absurd h9 ((by rw [hw]; exact sub_neg (by omega) h99 q))) (fun _ => ?_)
              refine g_iload hX dX10_draw_77 rfl ?_
              refine g_iload_n (i := 2) hX dX10_draw_79 rfl rfl ?_
              refine g_isub hX dX10_draw_80 ?_
              refine g_iret (st := []) hX hE rfl dX10_draw_81 (⟨?_, rfl⟩)
              rw [← hq, nI_sub (by omega), Nat.add_sub_cancel_left]
            · rw [if_neg q] at hq
              have e5 : nI r - nI (g i) = nI (r - g i) := nI_sub (by omega)
              refine g_iload hX dX10_draw_54 rfl ?_
              refine g_iload_n (i := 3) hX dX10_draw_56 rfl rfl ?_
              refine g_icmp_gt (tgt := 88) hX dX10_draw_57 (by decide) (fun h9 => absurd h9 ((by rw [i_lt, he, nI_toInt (by omega)]; omega))) (fun _ => ?_)
              refine g_iload hX dX10_draw_60 rfl ?_
              refine g_aload_n (i := 0) hX dX10_draw_62 rfl rfl ?_
              refine fX10_31 hX dX10_draw_63 ?_
              refine g_iload hX dX10_draw_66 rfl ?_
              refine g_ialoadN hX (ia75) rfl ((show a + i < 49 by omega)) (by first | decide | assumption | omega) dX10_draw_68 ?_
              refine g_isub hX dX10_draw_69 ?_
              refine g_istore hX dX10_draw_70 (by decide) rfl ?_
              rw [hw, e5]
              refine g_iload hX dX10_draw_72 rfl ?_
              refine g_if_ge (tgt := 82) hX dX10_draw_74 (by decide) (fun _ => ?_) (fun h9 => absurd (nI_pos' (by omega)) h9)
              refine g_iinc hX dX10_draw_82 rfl ic1 (by decide) rfl ?_
              refine g_goto (tgt := 54) hX dX10_draw_85 (by decide) ?_
              rw [nI_1]
              exact ih (i + 1) (r - g i) (by omega) (by rw [sumW]; omega) hq
        exact loop2 len 0 r0 (by omega) (by rw [sumW]; omega) rfl
    · rw [show drVo (S.1 77 p) g n (S.2 67 22) = -1000000 from if_neg ho, show drRt (S.1 77 p) g n S = S from if_neg ho] at hE
      refine g_istore hX dX10_draw_23 (by decide) rfl ?_
      refine g_aload_n (i := 0) hX dX10_draw_25 rfl rfl ?_
      refine fX10_37 hX dX10_draw_26 ?_
      refine g_iload_n (i := 1) hX dX10_draw_29 rfl rfl ?_
      refine g_baloadN hX (show 77 < NC by decide) (show lay 77 = (1, 4, []) by decide) rfl (hp) (by decide) dX10_draw_30 ?_
      refine g_if_ne (tgt := 39) hX dX10_draw_31 (by decide) (fun _ => ?_) (fun h9 => absurd h9 (ho))
      refine g_ldc hX ccX10_106 dX10_draw_39 ?_
      refine g_iret (st := []) hX hE rfl dX10_draw_41 (⟨rfl, rfl⟩)
  rcases hm with ⟨e1, e2⟩ | ⟨q, hq, e1, e3, e2⟩
  · subst e1 e2
    refine g_aload_n (i := 0) hX dX10_draw_0 rfl rfl ?_
    refine g_iload_n (i := 2) hX dX10_draw_1 rfl rfl ?_
    refine g_iload_n (i := 3) hX dX10_draw_2 rfl rfl ?_
    refine sX10_222 hX ⟨Nat.le_of_ble_eq_true rfl, Nat.le_of_ble_eq_true rfl⟩ (Nat.le_of_ble_eq_true rfl) dX10_draw_3 (c_sumOfR he hl) ?_
    refine g_iload hX dX10_draw_6 rfl ?_
    refine g_if_ge (tgt := 15) hX dX10_draw_8 (by decide) (fun h9 => absurd h9 ((by decide))) (fun _ => ?_)
    refine g_iconst hX dX10_draw_11 ic0 ?_
    refine g_goto (tgt := 22) hX dX10_draw_12 (by decide) ?_
    refine g_iadd hX dX10_draw_22 ?_
    rw [hsum, Int32.add_zero]
    exact tail
  · subst e1 e2
    refine g_aload_n (i := 0) hX dX10_draw_0 rfl rfl ?_
    refine g_iload_n (i := 2) hX dX10_draw_1 rfl rfl ?_
    refine g_iload_n (i := 3) hX dX10_draw_2 rfl rfl ?_
    refine sX10_222 hX ⟨Nat.le_of_ble_eq_true rfl, Nat.le_of_ble_eq_true rfl⟩ (Nat.le_of_ble_eq_true rfl) dX10_draw_3 (c_sumOfR he hl) ?_
    refine g_iload hX dX10_draw_6 rfl ?_
    refine g_if_ge (tgt := 15) hX dX10_draw_8 (by decide) (fun _ => ?_) (fun h9 => absurd (nI_pos' (by omega)) h9)
    refine g_aload_n (i := 0) hX dX10_draw_15 rfl rfl ?_
    refine fX10_31 hX dX10_draw_16 ?_
    refine g_iload hX dX10_draw_19 rfl ?_
    refine g_ialoadN hX (ia75) rfl (hq) (by first | decide | assumption | omega) dX10_draw_21 ?_
    refine g_iadd hX dX10_draw_22 ?_
    rw [hsum, e3, nI_add2]
    exact tail
theorem c_leastNew {Γ : GG} {S : St} {l : List Nat} (hd : l.Nodup) (h10 : ∀ y ∈ l, y < 10) (hlen : l.length < 10) (hl : MruL S l) : kX10_leastNew Γ [.ref (Γ.1 67)] S (rI (nI (lnn (msk l) 9 0)) S) := by
  refine oX10_leastNew (fun X hX hE => ?_)
  have hpop := msk_pop l hd h10
  have hm := msk_lt l h10
  obtain ⟨k1, k2, k3⟩ := lnn_ok (msk l) hm (by omega)
  have loop2 : ∀ d j, j + d = lnn (msk l) 9 0 → G Γ X S 31 [(0, .ref (Γ.1 67)), (1, .int (nI (msk l))), (2, .int (nI j))] [] := by
    intro d
    induction d with
    | zero =>
      intro j hj
      obtain rfl : j = lnn (msk l) 9 0 := by omega
      refine g_iload_n (i := 1) hX dX10_leastNew_31 rfl rfl ?_
      refine g_iload_n (i := 2) hX dX10_leastNew_32 rfl rfl ?_
      refine g_ishr hX dX10_leastNew_33 ?_
      refine g_iconst hX dX10_leastNew_34 ic1 ?_
      refine g_iand hX dX10_leastNew_35 ?_
      refine g_iconst hX dX10_leastNew_36 ic1 ?_
      refine g_icmp_ne (tgt := 46) hX dX10_leastNew_37 (by decide) (fun _ => ?_) (fun h9 => absurd h9 ((by rw [shr_name _ hm _ k1, k2]; decide)))
      refine g_iload_n (i := 2) hX dX10_leastNew_46 rfl rfl ?_
      refine g_iret (st := []) hX hE rfl dX10_leastNew_47 (⟨rfl, rfl⟩)
    | succ d ih =>
      intro j hj
      refine g_iload_n (i := 1) hX dX10_leastNew_31 rfl rfl ?_
      refine g_iload_n (i := 2) hX dX10_leastNew_32 rfl rfl ?_
      refine g_ishr hX dX10_leastNew_33 ?_
      refine g_iconst hX dX10_leastNew_34 ic1 ?_
      refine g_iand hX dX10_leastNew_35 ?_
      refine g_iconst hX dX10_leastNew_36 ic1 ?_
      refine g_icmp_ne (tgt := 46) hX dX10_leastNew_37 (by decide) (fun h9 => absurd ((by rw [shr_name _ hm _ (by omega), k3 j (by omega)]; decide)) h9) (fun _ => ?_)
      refine g_iinc hX dX10_leastNew_40 rfl ic1 (by decide) rfl ?_
      refine g_goto (tgt := 31) hX dX10_leastNew_43 (by decide) ?_
      rw [nI_1]
      exact ih (j + 1) (by omega)
  have loop1 : ∀ d j M, j + d = l.length → M < 1024 → (∀ y, M.testBit y = true ↔ ∃ i, i < j ∧ l[i]? = some y) → G Γ X S 4 [(0, .ref (Γ.1 67)), (1, .int (nI M)), (2, .int (nI j))] [] := by
    intro d
    induction d with
    | zero =>
      intro j M hj hM hb
      obtain rfl : j = l.length := by omega
      have e : M = msk l := by
        refine Nat.eq_of_testBit_eq fun y => ?_
        rw [msk_bit, Bool.eq_iff_iff, hb, decide_eq_true_iff]
        constructor
        · rintro ⟨i, _, h⟩; exact List.mem_of_getElem? h
        · intro h
          obtain ⟨i, hi, e⟩ := List.mem_iff_getElem.mp h
          exact ⟨i, hi, by rw [List.getElem?_eq_getElem hi, e]⟩
      rw [e]
      refine g_iload_n (i := 2) hX dX10_leastNew_4 rfl rfl ?_
      refine g_aload_n (i := 0) hX dX10_leastNew_5 rfl rfl ?_
      refine fX10_229 hX dX10_leastNew_6 ?_
      refine g_icmp_ge (tgt := 29) hX dX10_leastNew_9 (by decide) (fun _ => ?_) (fun h9 => absurd ((by rw [hl.1]; exact nI_le (Nat.le_refl _) (by omega))) h9)
      refine g_iconst hX dX10_leastNew_29 ic0 ?_
      refine g_istore_n (i := 2) hX dX10_leastNew_30 rfl (by decide) rfl ?_
      exact loop2 _ 0 (Nat.zero_add _)
    | succ d ih =>
      intro j M hj hM hb
      have hjl : j < l.length := by omega
      have hy : l[j]? = some l[j] := List.getElem?_eq_getElem hjl
      have hx := h10 _ (List.getElem_mem hjl)
      have ho := or_name M hM _ hx
      refine g_iload_n (i := 2) hX dX10_leastNew_4 rfl rfl ?_
      refine g_aload_n (i := 0) hX dX10_leastNew_5 rfl rfl ?_
      refine fX10_229 hX dX10_leastNew_6 ?_
      refine g_icmp_ge (tgt := 29) hX dX10_leastNew_9 (by decide) (fun h9 => absurd h9 ((by rw [hl.1]; exact nI_ge hjl (by omega)))) (fun _ => ?_)
      refine g_iload_n (i := 1) hX dX10_leastNew_12 rfl rfl ?_
      refine g_iconst hX dX10_leastNew_13 ic1 ?_
      refine g_aload_n (i := 0) hX dX10_leastNew_14 rfl rfl ?_
      refine fX10_44 hX dX10_leastNew_15 ?_
      refine g_iload_n (i := 2) hX dX10_leastNew_18 rfl rfl ?_
      refine g_ialoadN hX (ia79) rfl ((show j < 10 by omega)) (by first | decide | assumption | omega) dX10_leastNew_19 ?_
      refine g_ishl hX dX10_leastNew_20 ?_
      refine g_ior hX dX10_leastNew_21 ?_
      refine g_istore_n (i := 1) hX dX10_leastNew_22 rfl (by decide) rfl ?_
      refine g_iinc hX dX10_leastNew_23 rfl ic1 (by decide) rfl ?_
      refine g_goto (tgt := 4) hX dX10_leastNew_26 (by decide) ?_
      rw [hl.2 j _ hy, shl_name _ hx, ho.1, nI_1]
      refine ih (j + 1) _ (by omega) ho.2 (fun y => ?_)
      rw [Nat.testBit_or, Bool.or_eq_true, hb, Nat.testBit_two_pow, decide_eq_true_iff]
      constructor
      · rintro (⟨i, hi, h⟩ | h)
        · exact ⟨i, by omega, h⟩
        · exact ⟨j, by omega, by rw [hy, h]⟩
      · rintro ⟨i, hi, h⟩
        by_cases z : i = j
        · subst z; rw [hy] at h; cases h; exact Or.inr rfl
        · exact Or.inl ⟨i, by omega, h⟩
  refine g_iconst hX dX10_leastNew_0 ic0 ?_
  refine g_istore_n (i := 1) hX dX10_leastNew_1 rfl (by decide) rfl ?_
  refine g_iconst hX dX10_leastNew_2 ic0 ?_
  refine g_istore_n (i := 2) hX dX10_leastNew_3 rfl (by decide) rfl ?_
  exact loop1 l.length 0 0 (by omega) (by decide) (fun y => ⟨fun h => by simp at h, fun ⟨i, hi, _⟩ => absurd hi (by omega)⟩)
