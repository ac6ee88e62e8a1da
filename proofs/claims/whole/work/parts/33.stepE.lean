/-! promises 7 and 8: told, came -/
theorem met_mono {l : Launch} {y : MethodName} {ws : List Cond} {rm : Room} {Pc : Array Value → State → Prop} {Qc Qc' : Array Value → State → Outcome → State → Prop} {mc ms : Nat} {free : Addr → Prop} (h : Met l y ws rm Pc Qc mc ms free) (hq : ∀ a st o t, Qc a st o t → Qc' a st o t) : Met l y ws rm Pc Qc' mc ms free := by
  intro p e h1 h2 h3 s m args below h4 h5 h6 h7
  obtain ⟨n, o, a, b, c, d, f⟩ := h p e h1 h2 h3 s m args below h4 h5 h6 h7
  exact ⟨n, o, a, b, c, hq _ _ _ _ d, f⟩
theorem conv_r {Γ : GG} {y : MethodName} {cc : ByteArray} {maxL : Nat} {ret : Option FieldType} {fr lo : Nat} {av : List Value} {S S1 : St} {r : Int32} {Q : St → Prop} (h : Cn Γ y cc maxL ret fr lo av S (rI r S1)) (hQ : Q S1) : Cn Γ y cc maxL ret fr lo av S (eI (fun r1 T => r1 = r ∧ Q T)) := by
  intro l
  have h1 := h l
  refine met_mono h1 ?_
  rintro a st o t ⟨v, S', e1, ⟨e2, e3⟩, e4⟩
  exact ⟨v, S', e1, ⟨r, e2, rfl, by rw [e3]; exact hQ⟩, e4⟩
def toldV (tk : Nat → Int32) (nm : Nat → Nat) (gr : Nat → Int32) (i w : Nat) : Int32 := if w = 0 then tk i else if w = 1 then nI (nm i) else if w = 2 then gr i else if w = 3 then dep nm i else gapN tk i
theorem told_valid {Γ : GG} {S : St} {r b n i w : Nat} {tk : Nat → Int32} {nm : Nat → Nat} {gr : Nat → Int32} (hrb : (r = 0 ∧ b = 16) ∨ (r = 1 ∧ b = 21)) (h : RwC S b n tk nm gr) (hw : w < 5) (hi : i < 2 ^ 31) :
    kX9_told Γ [.ref (Γ.1 48), .int (nI r), .int (nI i), .int (nI w)] S (rI (if i < n then toldV tk nm gr i w else -1000000) S) := by
  refine oX9_told (fun X hX hE => ?_)
  have hb : IsRow b := by rcases hrb with ⟨-, rfl⟩ | ⟨-, rfl⟩; exact ir16; exact ir21
  have hr : r < 2 := by omega
  have h40 := h.1
  have main : G Γ X S 40 [(0, .ref (Γ.1 48)), (1, .int (nI r)), (2, .int (nI i)), (3, .int (nI w)), (4, .ref (Γ.1 b))] [] := by
    by_cases hin : i < n
    · rw [if_pos hin] at hE
      obtain ⟨q1, q2, q3, q4, q5⟩ := h.2.2 i hin
      rcases (by omega : w = 0 ∨ w = 1 ∨ w = 2 ∨ w = 3 ∨ w = 4) with rfl | rfl | rfl | rfl | rfl
      · refine g_iload_n (i := 2) hX dX9_told_40 rfl rfl ?_
        refine g_aload hX dX9_told_41 rfl ?_
        refine fX9_137 hX hb dX9_told_43 ?_
        refine g_icmp_lt (tgt := 52) hX dX9_told_46 (by decide) (fun _ => ?_) (fun h9 => absurd ((by rw [h.2.1]; exact nI_lt hin (by omega))) h9)
        refine g_iload_n (i := 3) hX dX9_told_52 rfl rfl ?_
        refine g_tableIn (off := 31) (tgt := 84) hX dX9_told_53 (by decide) (by decide) (by decide) (by decide) ?_
        refine g_aload hX dX9_told_84 rfl ?_
        refine fX9_154 hX hb dX9_told_86 ?_
        refine g_iload_n (i := 2) hX dX9_told_89 rfl rfl ?_
        refine g_ialoadN hX ((hb).a1) rfl ((show i < 40 by omega)) (by first | decide | assumption | omega) dX9_told_90 ?_
        refine g_iret (st := []) hX hE rfl dX9_told_91 (⟨by rw [q1]; rfl, rfl⟩)
      · refine g_iload_n (i := 2) hX dX9_told_40 rfl rfl ?_
        refine g_aload hX dX9_told_41 rfl ?_
        refine fX9_137 hX hb dX9_told_43 ?_
        refine g_icmp_lt (tgt := 52) hX dX9_told_46 (by decide) (fun _ => ?_) (fun h9 => absurd ((by rw [h.2.1]; exact nI_lt hin (by omega))) h9)
        refine g_iload_n (i := 3) hX dX9_told_52 rfl rfl ?_
        refine g_tableIn (off := 39) (tgt := 92) hX dX9_told_53 (by decide) (by decide) (by decide) (by decide) ?_
        refine g_aload hX dX9_told_92 rfl ?_
        refine fX9_157 hX hb dX9_told_94 ?_
        refine g_iload_n (i := 2) hX dX9_told_97 rfl rfl ?_
        refine g_ialoadN hX ((hb).a2) rfl ((show i < 40 by omega)) (by first | decide | assumption | omega) dX9_told_98 ?_
        refine g_iret (st := []) hX hE rfl dX9_told_99 (⟨by rw [q2]; rfl, rfl⟩)
      · refine g_iload_n (i := 2) hX dX9_told_40 rfl rfl ?_
        refine g_aload hX dX9_told_41 rfl ?_
        refine fX9_137 hX hb dX9_told_43 ?_
        refine g_icmp_lt (tgt := 52) hX dX9_told_46 (by decide) (fun _ => ?_) (fun h9 => absurd ((by rw [h.2.1]; exact nI_lt hin (by omega))) h9)
        refine g_iload_n (i := 3) hX dX9_told_52 rfl rfl ?_
        refine g_tableIn (off := 47) (tgt := 100) hX dX9_told_53 (by decide) (by decide) (by decide) (by decide) ?_
        refine g_aload hX dX9_told_100 rfl ?_
        refine fX9_160 hX hb dX9_told_102 ?_
        refine g_iload_n (i := 2) hX dX9_told_105 rfl rfl ?_
        refine g_ialoadN hX ((hb).a3) rfl ((show i < 40 by omega)) (by first | decide | assumption | omega) dX9_told_106 ?_
        refine g_iret (st := []) hX hE rfl dX9_told_107 (⟨by rw [q4]; rfl, rfl⟩)
      · refine g_iload_n (i := 2) hX dX9_told_40 rfl rfl ?_
        refine g_aload hX dX9_told_41 rfl ?_
        refine fX9_137 hX hb dX9_told_43 ?_
        refine g_icmp_lt (tgt := 52) hX dX9_told_46 (by decide) (fun _ => ?_) (fun h9 => absurd ((by rw [h.2.1]; exact nI_lt hin (by omega))) h9)
        refine g_iload_n (i := 3) hX dX9_told_52 rfl rfl ?_
        refine g_tableIn (off := 55) (tgt := 108) hX dX9_told_53 (by decide) (by decide) (by decide) (by decide) ?_
        refine g_aload hX dX9_told_108 rfl ?_
        refine fX9_163 hX hb dX9_told_110 ?_
        refine g_iload_n (i := 2) hX dX9_told_113 rfl rfl ?_
        refine g_ialoadN hX ((hb).a4) rfl ((show i < 40 by omega)) (by first | decide | assumption | omega) dX9_told_114 ?_
        refine g_iret (st := []) hX hE rfl dX9_told_115 (⟨by rw [q5]; rfl, rfl⟩)
      · refine g_iload_n (i := 2) hX dX9_told_40 rfl rfl ?_
        refine g_aload hX dX9_told_41 rfl ?_
        refine fX9_137 hX hb dX9_told_43 ?_
        refine g_icmp_lt (tgt := 52) hX dX9_told_46 (by decide) (fun _ => ?_) (fun h9 => absurd ((by rw [h.2.1]; exact nI_lt hin (by omega))) h9)
        refine g_iload_n (i := 3) hX dX9_told_52 rfl rfl ?_
        refine g_tableOut (tgt := 116) hX dX9_told_53 (by decide) (by decide) ?_
        refine g_aload hX dX9_told_116 rfl ?_
        refine g_iload_n (i := 2) hX dX9_told_118 rfl rfl ?_
        refine sX9_166 hX hb ⟨Nat.le_of_ble_eq_true rfl, Nat.le_of_ble_eq_true rfl⟩ (Nat.le_of_ble_eq_true rfl) dX9_told_119 (c_gapOf hb (by omega)) ?_
        refine g_iret (st := []) hX hE rfl dX9_told_122 (⟨by rw [gapN_congr (tk' := S.1 (b + 1)) (tk := tk) (fun j hj => (h.2.2 j (by omega)).1)]; rfl, rfl⟩)
    · rw [if_neg hin] at hE
      refine g_iload_n (i := 2) hX dX9_told_40 rfl rfl ?_
      refine g_aload hX dX9_told_41 rfl ?_
      refine fX9_137 hX hb dX9_told_43 ?_
      refine g_icmp_lt (tgt := 52) hX dX9_told_46 (by decide) (fun h9 => absurd h9 ((by rw [h.2.1]; exact nI_nlt (by omega) hi))) (fun _ => ?_)
      refine g_ldc hX ccX9_153 dX9_told_49 ?_
      refine g_iret (st := []) hX hE rfl dX9_told_51 (⟨rfl, rfl⟩)
  rcases hrb with ⟨rfl, rfl⟩ | ⟨rfl, rfl⟩
  · refine g_iload_n (i := 1) hX dX9_told_0 rfl rfl ?_
    refine g_iconst hX dX9_told_1 ic2 ?_
    refine sX9_96 hX ⟨Nat.le_of_ble_eq_true rfl, Nat.le_of_ble_eq_true rfl⟩ (Nat.le_of_ble_eq_true rfl) dX9_told_2 (isB_t (n := 2) hr (by decide)) ?_
    refine g_if_eq (tgt := 20) hX dX9_told_5 (by decide) (fun h9 => absurd h9 ((by decide))) (fun _ => ?_)
    refine g_iload_n (i := 2) hX dX9_told_8 rfl rfl ?_
    refine g_if_lt (tgt := 20) hX dX9_told_9 (by decide) (fun h9 => absurd h9 (nI_pos hi)) (fun _ => ?_)
    refine g_iload_n (i := 3) hX dX9_told_12 rfl rfl ?_
    refine g_iconst hX dX9_told_13 ic5 ?_
    refine sX9_96 hX ⟨Nat.le_of_ble_eq_true rfl, Nat.le_of_ble_eq_true rfl⟩ (Nat.le_of_ble_eq_true rfl) dX9_told_14 (isB_t (n := 5) hw (by decide)) ?_
    refine g_if_ne (tgt := 23) hX dX9_told_17 (by decide) (fun _ => ?_) (fun h9 => absurd h9 ((by decide)))
    refine g_iload_n (i := 1) hX dX9_told_23 rfl rfl ?_
    refine g_if_ne (tgt := 34) hX dX9_told_24 (by decide) (fun h9 => absurd (rfl) h9) (fun _ => ?_)
    refine g_aload_n (i := 0) hX dX9_told_27 rfl rfl ?_
    refine fX9_18 hX dX9_told_28 ?_
    refine g_goto (tgt := 38) hX dX9_told_31 (by decide) ?_
    refine g_astore hX dX9_told_38 (by decide) rfl ?_
    exact main
  · refine g_iload_n (i := 1) hX dX9_told_0 rfl rfl ?_
    refine g_iconst hX dX9_told_1 ic2 ?_
    refine sX9_96 hX ⟨Nat.le_of_ble_eq_true rfl, Nat.le_of_ble_eq_true rfl⟩ (Nat.le_of_ble_eq_true rfl) dX9_told_2 (isB_t (n := 2) hr (by decide)) ?_
    refine g_if_eq (tgt := 20) hX dX9_told_5 (by decide) (fun h9 => absurd h9 ((by decide))) (fun _ => ?_)
    refine g_iload_n (i := 2) hX dX9_told_8 rfl rfl ?_
    refine g_if_lt (tgt := 20) hX dX9_told_9 (by decide) (fun h9 => absurd h9 (nI_pos hi)) (fun _ => ?_)
    refine g_iload_n (i := 3) hX dX9_told_12 rfl rfl ?_
    refine g_iconst hX dX9_told_13 ic5 ?_
    refine sX9_96 hX ⟨Nat.le_of_ble_eq_true rfl, Nat.le_of_ble_eq_true rfl⟩ (Nat.le_of_ble_eq_true rfl) dX9_told_14 (isB_t (n := 5) hw (by decide)) ?_
    refine g_if_ne (tgt := 23) hX dX9_told_17 (by decide) (fun _ => ?_) (fun h9 => absurd h9 ((by decide)))
    refine g_iload_n (i := 1) hX dX9_told_23 rfl rfl ?_
    refine g_if_ne (tgt := 34) hX dX9_told_24 (by decide) (fun _ => ?_) (fun h9 => absurd h9 ((by decide)))
    refine g_aload_n (i := 0) hX dX9_told_34 rfl rfl ?_
    refine fX9_22 hX dX9_told_35 ?_
    refine g_astore hX dX9_told_38 (by decide) rfl ?_
    exact main
theorem c40 (r i : Nat) : (40 : Int32) * nI r + nI i = nI (40 * r + i) := nI_40 r i
theorem toldR_valid {Γ : GG} {S : St} {r n i w : Nat} {tk : Nat → Int32} {nm : Nat → Nat} {gr : Nat → Int32} (hr : r < 2) (hn : n ≤ 40) (h : RwR S r n tk nm gr) (hnm : ∀ i, i < n → nm i < 10) (hw : w < 5) (hi : i < 2 ^ 31) :
    kX10_told Γ [.ref (Γ.1 67), .int (nI r), .int (nI i), .int (nI w)] S (rI (if i < n then toldV tk nm gr i w else -1000000) (S0 S)) := by
  refine oX10_told (fun X hX hE => ?_)
  refine g_aload_n (i := 0) hX dX10_told_0 rfl rfl ?_
  refine g_iconst hX dX10_told_1 ic0 ?_
  refine pX10_78 hX dX10_told_2 ?_
  refine g_iload_n (i := 1) hX dX10_told_5 rfl rfl ?_
  refine g_i2l hX dX10_told_6 ?_
  refine g_lconst (v := 0) hX dX10_told_7 (by decide) ?_
  refine g_lconst (v := 1) hX dX10_told_8 (by decide) ?_
  refine sX10_87 hX ⟨Nat.le_of_ble_eq_true rfl, Nat.le_of_ble_eq_true rfl⟩ (Nat.le_of_ble_eq_true rfl) dX10_told_9 (c_inI_t (by rw [nI_toInt (by omega), L0]; omega) (by rw [nI_toInt (by omega), show (1 : Int64).toInt = 1 by decide]; omega)) ?_
  refine g_if_eq (tgt := 31) hX dX10_told_12 (by decide) (fun h9 => absurd h9 ((by decide))) (fun _ => ?_)
  refine g_iload_n (i := 2) hX dX10_told_15 rfl rfl ?_
  refine g_if_lt (tgt := 31) hX dX10_told_16 (by decide) (fun h9 => absurd h9 (nI_pos hi)) (fun _ => ?_)
  refine g_iload_n (i := 3) hX dX10_told_19 rfl rfl ?_
  refine g_i2l hX dX10_told_20 ?_
  refine g_lconst (v := 0) hX dX10_told_21 (by decide) ?_
  refine g_ldc2_w hX ccX10_114 dX10_told_22 ?_
  refine sX10_87 hX ⟨Nat.le_of_ble_eq_true rfl, Nat.le_of_ble_eq_true rfl⟩ (Nat.le_of_ble_eq_true rfl) dX10_told_25 (c_inI_t (by rw [nI_toInt (by omega), L0]; omega) (by rw [nI_toInt (by omega), show (4 : Int64).toInt = 4 by decide]; omega)) ?_
  refine g_if_ne (tgt := 34) hX dX10_told_28 (by decide) (fun _ => ?_) (fun h9 => absurd h9 ((by decide)))
  have hc : (S0 S).1 71 r = nI n := h.1
  by_cases hin : i < n
  · rw [if_pos hin] at hE
    obtain ⟨q1, q2, q3⟩ := h.2 i hin
    have hlt : 40 * r + i < 200 := by omega
    rcases (by omega : w = 0 ∨ w = 1 ∨ w = 2 ∨ w = 3 ∨ w = 4) with rfl | rfl | rfl | rfl | rfl
    · refine g_iload_n (i := 2) hX dX10_told_34 rfl rfl ?_
      refine g_aload_n (i := 0) hX dX10_told_35 rfl rfl ?_
      refine fX10_19 hX dX10_told_36 ?_
      refine g_iload_n (i := 1) hX dX10_told_39 rfl rfl ?_
      refine g_ialoadN hX (ia71) rfl ((show r < 5 by omega)) (by first | decide | assumption | omega) dX10_told_40 ?_
      refine g_icmp_lt (tgt := 47) hX dX10_told_41 (by decide) (fun _ => ?_) (fun h9 => absurd ((by rw [hc]; exact nI_lt hin (by omega))) h9)
      refine g_bipush hX dX10_told_47 bp40 ?_
      refine g_iload_n (i := 1) hX dX10_told_49 rfl rfl ?_
      refine g_imul hX dX10_told_50 ?_
      refine g_iload_n (i := 2) hX dX10_told_51 rfl rfl ?_
      refine g_iadd hX dX10_told_52 ?_
      refine g_istore hX dX10_told_53 (by decide) rfl ?_
      refine g_iload_n (i := 3) hX dX10_told_55 rfl rfl ?_
      refine g_if_ne (tgt := 69) hX dX10_told_56 (by decide) (fun h9 => absurd (rfl) h9) (fun _ => ?_)
      refine g_aload_n (i := 0) hX dX10_told_59 rfl rfl ?_
      refine fX10_22 hX dX10_told_60 ?_
      refine g_iload hX dX10_told_63 rfl ?_
      refine g_ialoadN hX (ia72) (c40 r i) (hlt) (by first | decide | assumption | omega) dX10_told_65 ?_
      refine g_goto (tgt := 119) hX dX10_told_66 (by decide) ?_
      refine g_iret (st := []) hX hE rfl dX10_told_119 (⟨?_, rfl⟩)
      show some (Value.int (S.1 72 (40 * r + i))) = _
      rw [q1]; rfl
    · refine g_iload_n (i := 2) hX dX10_told_34 rfl rfl ?_
      refine g_aload_n (i := 0) hX dX10_told_35 rfl rfl ?_
      refine fX10_19 hX dX10_told_36 ?_
      refine g_iload_n (i := 1) hX dX10_told_39 rfl rfl ?_
      refine g_ialoadN hX (ia71) rfl ((show r < 5 by omega)) (by first | decide | assumption | omega) dX10_told_40 ?_
      refine g_icmp_lt (tgt := 47) hX dX10_told_41 (by decide) (fun _ => ?_) (fun h9 => absurd ((by rw [hc]; exact nI_lt hin (by omega))) h9)
      refine g_bipush hX dX10_told_47 bp40 ?_
      refine g_iload_n (i := 1) hX dX10_told_49 rfl rfl ?_
      refine g_imul hX dX10_told_50 ?_
      refine g_iload_n (i := 2) hX dX10_told_51 rfl rfl ?_
      refine g_iadd hX dX10_told_52 ?_
      refine g_istore hX dX10_told_53 (by decide) rfl ?_
      refine g_iload_n (i := 3) hX dX10_told_55 rfl rfl ?_
      refine g_if_ne (tgt := 69) hX dX10_told_56 (by decide) (fun _ => ?_) (fun h9 => absurd h9 ((by decide)))
      refine g_iload_n (i := 3) hX dX10_told_69 rfl rfl ?_
      refine g_iconst hX dX10_told_70 ic1 ?_
      refine g_icmp_ne (tgt := 84) hX dX10_told_71 (by decide) (fun h9 => absurd (rfl) h9) (fun _ => ?_)
      refine g_aload_n (i := 0) hX dX10_told_74 rfl rfl ?_
      refine fX10_25 hX dX10_told_75 ?_
      refine g_iload hX dX10_told_78 rfl ?_
      refine g_ialoadN hX (ia73) (c40 r i) (hlt) (by first | decide | assumption | omega) dX10_told_80 ?_
      refine g_goto (tgt := 119) hX dX10_told_81 (by decide) ?_
      refine g_iret (st := []) hX hE rfl dX10_told_119 (⟨?_, rfl⟩)
      show some (Value.int (S.1 73 (40 * r + i))) = _
      rw [q2]; rfl
    · refine g_iload_n (i := 2) hX dX10_told_34 rfl rfl ?_
      refine g_aload_n (i := 0) hX dX10_told_35 rfl rfl ?_
      refine fX10_19 hX dX10_told_36 ?_
      refine g_iload_n (i := 1) hX dX10_told_39 rfl rfl ?_
      refine g_ialoadN hX (ia71) rfl ((show r < 5 by omega)) (by first | decide | assumption | omega) dX10_told_40 ?_
      refine g_icmp_lt (tgt := 47) hX dX10_told_41 (by decide) (fun _ => ?_) (fun h9 => absurd ((by rw [hc]; exact nI_lt hin (by omega))) h9)
      refine g_bipush hX dX10_told_47 bp40 ?_
      refine g_iload_n (i := 1) hX dX10_told_49 rfl rfl ?_
      refine g_imul hX dX10_told_50 ?_
      refine g_iload_n (i := 2) hX dX10_told_51 rfl rfl ?_
      refine g_iadd hX dX10_told_52 ?_
      refine g_istore hX dX10_told_53 (by decide) rfl ?_
      refine g_iload_n (i := 3) hX dX10_told_55 rfl rfl ?_
      refine g_if_ne (tgt := 69) hX dX10_told_56 (by decide) (fun _ => ?_) (fun h9 => absurd h9 ((by decide)))
      refine g_iload_n (i := 3) hX dX10_told_69 rfl rfl ?_
      refine g_iconst hX dX10_told_70 ic1 ?_
      refine g_icmp_ne (tgt := 84) hX dX10_told_71 (by decide) (fun _ => ?_) (fun h9 => absurd h9 ((by decide)))
      refine g_iload_n (i := 3) hX dX10_told_84 rfl rfl ?_
      refine g_iconst hX dX10_told_85 ic2 ?_
      refine g_icmp_ne (tgt := 99) hX dX10_told_86 (by decide) (fun h9 => absurd (rfl) h9) (fun _ => ?_)
      refine g_aload_n (i := 0) hX dX10_told_89 rfl rfl ?_
      refine fX10_28 hX dX10_told_90 ?_
      refine g_iload hX dX10_told_93 rfl ?_
      refine g_ialoadN hX (ia74) (c40 r i) (hlt) (by first | decide | assumption | omega) dX10_told_95 ?_
      refine g_goto (tgt := 119) hX dX10_told_96 (by decide) ?_
      refine g_iret (st := []) hX hE rfl dX10_told_119 (⟨?_, rfl⟩)
      show some (Value.int (S.1 74 (40 * r + i))) = _
      rw [q3]; rfl
    · refine g_iload_n (i := 2) hX dX10_told_34 rfl rfl ?_
      refine g_aload_n (i := 0) hX dX10_told_35 rfl rfl ?_
      refine fX10_19 hX dX10_told_36 ?_
      refine g_iload_n (i := 1) hX dX10_told_39 rfl rfl ?_
      refine g_ialoadN hX (ia71) rfl ((show r < 5 by omega)) (by first | decide | assumption | omega) dX10_told_40 ?_
      refine g_icmp_lt (tgt := 47) hX dX10_told_41 (by decide) (fun _ => ?_) (fun h9 => absurd ((by rw [hc]; exact nI_lt hin (by omega))) h9)
      refine g_bipush hX dX10_told_47 bp40 ?_
      refine g_iload_n (i := 1) hX dX10_told_49 rfl rfl ?_
      refine g_imul hX dX10_told_50 ?_
      refine g_iload_n (i := 2) hX dX10_told_51 rfl rfl ?_
      refine g_iadd hX dX10_told_52 ?_
      refine g_istore hX dX10_told_53 (by decide) rfl ?_
      refine g_iload_n (i := 3) hX dX10_told_55 rfl rfl ?_
      refine g_if_ne (tgt := 69) hX dX10_told_56 (by decide) (fun _ => ?_) (fun h9 => absurd h9 ((by decide)))
      refine g_iload_n (i := 3) hX dX10_told_69 rfl rfl ?_
      refine g_iconst hX dX10_told_70 ic1 ?_
      refine g_icmp_ne (tgt := 84) hX dX10_told_71 (by decide) (fun _ => ?_) (fun h9 => absurd h9 ((by decide)))
      refine g_iload_n (i := 3) hX dX10_told_84 rfl rfl ?_
      refine g_iconst hX dX10_told_85 ic2 ?_
      refine g_icmp_ne (tgt := 99) hX dX10_told_86 (by decide) (fun _ => ?_) (fun h9 => absurd h9 ((by decide)))
      refine g_iload_n (i := 3) hX dX10_told_99 rfl rfl ?_
      refine g_iconst hX dX10_told_100 ic3 ?_
      refine g_icmp_ne (tgt := 113) hX dX10_told_101 (by decide) (fun h9 => absurd (rfl) h9) (fun _ => ?_)
      refine g_aload_n (i := 0) hX dX10_told_104 rfl rfl ?_
      refine g_iload_n (i := 1) hX dX10_told_105 rfl rfl ?_
      refine g_iload_n (i := 2) hX dX10_told_106 rfl rfl ?_
      refine sX10_116 hX ⟨Nat.le_of_ble_eq_true rfl, Nat.le_of_ble_eq_true rfl⟩ (Nat.le_of_ble_eq_true rfl) dX10_told_107 (c_depthOfR (nm := nm) (by omega) (by omega) (fun j hj => ⟨(h.2 j (by omega)).2.1, hnm j (by omega)⟩)) ?_
      refine g_goto (tgt := 119) hX dX10_told_110 (by decide) ?_
      refine g_iret (st := []) hX hE rfl dX10_told_119 (⟨rfl, rfl⟩)
    · refine g_iload_n (i := 2) hX dX10_told_34 rfl rfl ?_
      refine g_aload_n (i := 0) hX dX10_told_35 rfl rfl ?_
      refine fX10_19 hX dX10_told_36 ?_
      refine g_iload_n (i := 1) hX dX10_told_39 rfl rfl ?_
      refine g_ialoadN hX (ia71) rfl ((show r < 5 by omega)) (by first | decide | assumption | omega) dX10_told_40 ?_
      refine g_icmp_lt (tgt := 47) hX dX10_told_41 (by decide) (fun _ => ?_) (fun h9 => absurd ((by rw [hc]; exact nI_lt hin (by omega))) h9)
      refine g_bipush hX dX10_told_47 bp40 ?_
      refine g_iload_n (i := 1) hX dX10_told_49 rfl rfl ?_
      refine g_imul hX dX10_told_50 ?_
      refine g_iload_n (i := 2) hX dX10_told_51 rfl rfl ?_
      refine g_iadd hX dX10_told_52 ?_
      refine g_istore hX dX10_told_53 (by decide) rfl ?_
      refine g_iload_n (i := 3) hX dX10_told_55 rfl rfl ?_
      refine g_if_ne (tgt := 69) hX dX10_told_56 (by decide) (fun _ => ?_) (fun h9 => absurd h9 ((by decide)))
      refine g_iload_n (i := 3) hX dX10_told_69 rfl rfl ?_
      refine g_iconst hX dX10_told_70 ic1 ?_
      refine g_icmp_ne (tgt := 84) hX dX10_told_71 (by decide) (fun _ => ?_) (fun h9 => absurd h9 ((by decide)))
      refine g_iload_n (i := 3) hX dX10_told_84 rfl rfl ?_
      refine g_iconst hX dX10_told_85 ic2 ?_
      refine g_icmp_ne (tgt := 99) hX dX10_told_86 (by decide) (fun _ => ?_) (fun h9 => absurd h9 ((by decide)))
      refine g_iload_n (i := 3) hX dX10_told_99 rfl rfl ?_
      refine g_iconst hX dX10_told_100 ic3 ?_
      refine g_icmp_ne (tgt := 113) hX dX10_told_101 (by decide) (fun _ => ?_) (fun h9 => absurd h9 ((by decide)))
      refine g_aload_n (i := 0) hX dX10_told_113 rfl rfl ?_
      refine g_iload_n (i := 1) hX dX10_told_114 rfl rfl ?_
      refine g_iload_n (i := 2) hX dX10_told_115 rfl rfl ?_
      refine sX10_120 hX ⟨Nat.le_of_ble_eq_true rfl, Nat.le_of_ble_eq_true rfl⟩ (Nat.le_of_ble_eq_true rfl) dX10_told_116 (c_gapOfR (by omega) (by omega)) ?_
      refine g_iret (st := []) hX hE rfl dX10_told_119 (⟨?_, rfl⟩)
      rw [gapN_congr (tk' := fun j => (S0 S).1 72 (40 * r + j)) (tk := tk) (fun j hj => (h.2 j (by omega)).1)]; rfl
  · rw [if_neg hin] at hE
    refine g_iload_n (i := 2) hX dX10_told_34 rfl rfl ?_
    refine g_aload_n (i := 0) hX dX10_told_35 rfl rfl ?_
    refine fX10_19 hX dX10_told_36 ?_
    refine g_iload_n (i := 1) hX dX10_told_39 rfl rfl ?_
    refine g_ialoadN hX (ia71) rfl ((show r < 5 by omega)) (by first | decide | assumption | omega) dX10_told_40 ?_
    refine g_icmp_lt (tgt := 47) hX dX10_told_41 (by decide) (fun h9 => absurd h9 ((by rw [hc]; exact nI_nlt (by omega) hi))) (fun _ => ?_)
    refine g_ldc hX ccX10_106 dX10_told_44 ?_
    refine g_iret (st := []) hX hE rfl dX10_told_46 (⟨rfl, rfl⟩)
theorem step_told {Γ : GG} (x1 x2 x3 : Int32) : Step (fun S P => kX9_told Γ [.ref (Γ.1 48), .int x1, .int x2, .int x3] S P) (fun S P => kX10_told Γ [.ref (Γ.1 67), .int x1, .int x2, .int x3] S P) := by
  intro S hR
  by_cases h1 : inB x1 2
  case neg =>
    refine ⟨-1000001, fun S1 => S1 = S, ?_, ?_⟩
    · refine oX9_told (fun X hX hE => ?_)
      refine g_iload_n (i := 1) hX dX9_told_0 rfl rfl ?_
      refine g_iconst hX dX9_told_1 ic2 ?_
      refine sX9_96 hX ⟨Nat.le_of_ble_eq_true rfl, Nat.le_of_ble_eq_true rfl⟩ (Nat.le_of_ble_eq_true rfl) dX9_told_2 (isB_f (n := 2) (by decide) h1) ?_
      refine g_if_eq (tgt := 20) hX dX9_told_5 (by decide) (fun _ => ?_) (fun h9 => absurd (rfl) h9)
      refine g_ldc hX ccX9_100 dX9_told_20 ?_
      refine g_iret (st := []) hX hE rfl dX9_told_22 (⟨_, rfl, rfl, rfl⟩)
    · rintro S1 rfl
      refine oX10_told (fun X hX hE => ?_)
      rw [inB_iff (by decide)] at h1
      refine g_aload_n (i := 0) hX dX10_told_0 rfl rfl ?_
      refine g_iconst hX dX10_told_1 ic0 ?_
      refine pX10_78 hX dX10_told_2 ?_
      refine g_iload_n (i := 1) hX dX10_told_5 rfl rfl ?_
      refine g_i2l hX dX10_told_6 ?_
      refine g_lconst (v := 0) hX dX10_told_7 (by decide) ?_
      refine g_lconst (v := 1) hX dX10_told_8 (by decide) ?_
      refine sX10_87 hX ⟨Nat.le_of_ble_eq_true rfl, Nat.le_of_ble_eq_true rfl⟩ (Nat.le_of_ble_eq_true rfl) dX10_told_9 (c_inI_f (by rw [L0, show (1 : Int64).toInt = 1 by decide]; omega)) ?_
      refine g_if_eq (tgt := 31) hX dX10_told_12 (by decide) (fun _ => ?_) (fun h9 => absurd (rfl) h9)
      refine g_ldc hX ccX10_97 dX10_told_31 ?_
      refine g_iret (st := []) hX hE rfl dX10_told_33 (⟨_, rfl, rfl, hR.thrown⟩)
  obtain ⟨r, hr, rfl⟩ := h1
  by_cases h2 : x2 < 0
  · refine ⟨-1000001, fun S1 => S1 = S, ?_, ?_⟩
    · refine oX9_told (fun X hX hE => ?_)
      refine g_iload_n (i := 1) hX dX9_told_0 rfl rfl ?_
      refine g_iconst hX dX9_told_1 ic2 ?_
      refine sX9_96 hX ⟨Nat.le_of_ble_eq_true rfl, Nat.le_of_ble_eq_true rfl⟩ (Nat.le_of_ble_eq_true rfl) dX9_told_2 (isB_t (n := 2) hr (by decide)) ?_
      refine g_if_eq (tgt := 20) hX dX9_told_5 (by decide) (fun h9 => absurd h9 ((by decide))) (fun _ => ?_)
      refine g_iload_n (i := 2) hX dX9_told_8 rfl rfl ?_
      refine g_if_lt (tgt := 20) hX dX9_told_9 (by decide) (fun _ => ?_) (fun h9 => absurd (h2) h9)
      refine g_ldc hX ccX9_100 dX9_told_20 ?_
      refine g_iret (st := []) hX hE rfl dX9_told_22 (⟨_, rfl, rfl, rfl⟩)
    · rintro S1 rfl
      refine oX10_told (fun X hX hE => ?_)
      refine g_aload_n (i := 0) hX dX10_told_0 rfl rfl ?_
      refine g_iconst hX dX10_told_1 ic0 ?_
      refine pX10_78 hX dX10_told_2 ?_
      refine g_iload_n (i := 1) hX dX10_told_5 rfl rfl ?_
      refine g_i2l hX dX10_told_6 ?_
      refine g_lconst (v := 0) hX dX10_told_7 (by decide) ?_
      refine g_lconst (v := 1) hX dX10_told_8 (by decide) ?_
      refine sX10_87 hX ⟨Nat.le_of_ble_eq_true rfl, Nat.le_of_ble_eq_true rfl⟩ (Nat.le_of_ble_eq_true rfl) dX10_told_9 (c_inI_t (by rw [nI_toInt (by omega), L0]; omega) (by rw [nI_toInt (by omega), show (1 : Int64).toInt = 1 by decide]; omega)) ?_
      refine g_if_eq (tgt := 31) hX dX10_told_12 (by decide) (fun h9 => absurd h9 ((by decide))) (fun _ => ?_)
      refine g_iload_n (i := 2) hX dX10_told_15 rfl rfl ?_
      refine g_if_lt (tgt := 31) hX dX10_told_16 (by decide) (fun _ => ?_) (fun h9 => absurd (h2) h9)
      refine g_ldc hX ccX10_97 dX10_told_31 ?_
      refine g_iret (st := []) hX hE rfl dX10_told_33 (⟨_, rfl, rfl, hR.thrown⟩)
  by_cases h3 : inB x3 5
  case neg =>
    refine ⟨-1000001, fun S1 => S1 = S, ?_, ?_⟩
    · refine oX9_told (fun X hX hE => ?_)
      refine g_iload_n (i := 1) hX dX9_told_0 rfl rfl ?_
      refine g_iconst hX dX9_told_1 ic2 ?_
      refine sX9_96 hX ⟨Nat.le_of_ble_eq_true rfl, Nat.le_of_ble_eq_true rfl⟩ (Nat.le_of_ble_eq_true rfl) dX9_told_2 (isB_t (n := 2) hr (by decide)) ?_
      refine g_if_eq (tgt := 20) hX dX9_told_5 (by decide) (fun h9 => absurd h9 ((by decide))) (fun _ => ?_)
      refine g_iload_n (i := 2) hX dX9_told_8 rfl rfl ?_
      refine g_if_lt (tgt := 20) hX dX9_told_9 (by decide) (fun h9 => absurd h9 (h2)) (fun _ => ?_)
      refine g_iload_n (i := 3) hX dX9_told_12 rfl rfl ?_
      refine g_iconst hX dX9_told_13 ic5 ?_
      refine sX9_96 hX ⟨Nat.le_of_ble_eq_true rfl, Nat.le_of_ble_eq_true rfl⟩ (Nat.le_of_ble_eq_true rfl) dX9_told_14 (isB_f (n := 5) (by decide) h3) ?_
      refine g_if_ne (tgt := 23) hX dX9_told_17 (by decide) (fun h9 => absurd (rfl) h9) (fun _ => ?_)
      refine g_ldc hX ccX9_100 dX9_told_20 ?_
      refine g_iret (st := []) hX hE rfl dX9_told_22 (⟨_, rfl, rfl, rfl⟩)
    · rintro S1 rfl
      refine oX10_told (fun X hX hE => ?_)
      rw [inB_iff (by decide)] at h3
      refine g_aload_n (i := 0) hX dX10_told_0 rfl rfl ?_
      refine g_iconst hX dX10_told_1 ic0 ?_
      refine pX10_78 hX dX10_told_2 ?_
      refine g_iload_n (i := 1) hX dX10_told_5 rfl rfl ?_
      refine g_i2l hX dX10_told_6 ?_
      refine g_lconst (v := 0) hX dX10_told_7 (by decide) ?_
      refine g_lconst (v := 1) hX dX10_told_8 (by decide) ?_
      refine sX10_87 hX ⟨Nat.le_of_ble_eq_true rfl, Nat.le_of_ble_eq_true rfl⟩ (Nat.le_of_ble_eq_true rfl) dX10_told_9 (c_inI_t (by rw [nI_toInt (by omega), L0]; omega) (by rw [nI_toInt (by omega), show (1 : Int64).toInt = 1 by decide]; omega)) ?_
      refine g_if_eq (tgt := 31) hX dX10_told_12 (by decide) (fun h9 => absurd h9 ((by decide))) (fun _ => ?_)
      refine g_iload_n (i := 2) hX dX10_told_15 rfl rfl ?_
      refine g_if_lt (tgt := 31) hX dX10_told_16 (by decide) (fun h9 => absurd h9 (h2)) (fun _ => ?_)
      refine g_iload_n (i := 3) hX dX10_told_19 rfl rfl ?_
      refine g_i2l hX dX10_told_20 ?_
      refine g_lconst (v := 0) hX dX10_told_21 (by decide) ?_
      refine g_ldc2_w hX ccX10_114 dX10_told_22 ?_
      refine sX10_87 hX ⟨Nat.le_of_ble_eq_true rfl, Nat.le_of_ble_eq_true rfl⟩ (Nat.le_of_ble_eq_true rfl) dX10_told_25 (c_inI_f (by rw [L0, show (4 : Int64).toInt = 4 by decide]; omega)) ?_
      refine g_if_ne (tgt := 34) hX dX10_told_28 (by decide) (fun h9 => absurd (rfl) h9) (fun _ => ?_)
      refine g_ldc hX ccX10_97 dX10_told_31 ?_
      refine g_iret (st := []) hX hE rfl dX10_told_33 (⟨_, rfl, rfl, hR.thrown⟩)
  obtain ⟨w, hw, rfl⟩ := h3
  obtain ⟨i, hi, rfl⟩ := nI_of h2
  rcases (by omega : r = 0 ∨ r = 1) with rfl | rfl
  · obtain ⟨n, tk, nm, gr, a, b, -⟩ := hR.2.1
    refine ⟨if i < n then toldV tk nm gr i w else -1000000, fun S1 => S1 = S, conv_r (told_valid (r := 0) (Or.inl ⟨rfl, rfl⟩) a hw hi) rfl, ?_⟩
    rintro S1 rfl
    exact conv_r (toldR_valid (r := 0) (by decide) a.1 b (fun i hi => (a.2.2 i hi).2.2.1) hw hi) hR.thrown
  · obtain ⟨n, tk, nm, gr, a, b, -⟩ := hR.2.2.1
    refine ⟨if i < n then toldV tk nm gr i w else -1000000, fun S1 => S1 = S, conv_r (told_valid (r := 1) (Or.inr ⟨rfl, rfl⟩) a hw hi) rfl, ?_⟩
    rintro S1 rfl
    exact conv_r (toldR_valid (r := 1) (by decide) a.1 b (fun i hi => (a.2.2 i hi).2.2.1) hw hi) hR.thrown
theorem step_came {Γ : GG} (x1 : Int32) : Step (fun S P => kX9_came Γ [.ref (Γ.1 48), .int x1] S P) (fun S P => kX10_came Γ [.ref (Γ.1 67), .int x1] S P) := by
  intro S hR
  by_cases h1 : inB x1 11
  case neg =>
    refine ⟨-1000001, fun S1 => S1 = S, ?_, ?_⟩
    · refine oX9_came (fun X hX hE => ?_)
      refine g_iload_n (i := 1) hX dX9_came_0 rfl rfl ?_
      refine g_bipush hX dX9_came_1 bp11 ?_
      refine sX9_96 hX ⟨Nat.le_of_ble_eq_true rfl, Nat.le_of_ble_eq_true rfl⟩ (Nat.le_of_ble_eq_true rfl) dX9_came_3 (isB_f (n := 11) (by decide) h1) ?_
      refine g_if_ne (tgt := 12) hX dX9_came_6 (by decide) (fun h9 => absurd (rfl) h9) (fun _ => ?_)
      refine g_ldc hX ccX9_100 dX9_came_9 ?_
      refine g_iret (st := []) hX hE rfl dX9_came_11 (⟨_, rfl, rfl, rfl⟩)
    · rintro S1 rfl
      refine oX10_came (fun X hX hE => ?_)
      rw [inB_iff (by decide)] at h1
      refine g_aload_n (i := 0) hX dX10_came_0 rfl rfl ?_
      refine g_iconst hX dX10_came_1 ic0 ?_
      refine pX10_78 hX dX10_came_2 ?_
      refine g_iload_n (i := 1) hX dX10_came_5 rfl rfl ?_
      refine g_i2l hX dX10_came_6 ?_
      refine g_lconst (v := 0) hX dX10_came_7 (by decide) ?_
      refine g_ldc2_w hX ccX10_123 dX10_came_8 ?_
      refine sX10_87 hX ⟨Nat.le_of_ble_eq_true rfl, Nat.le_of_ble_eq_true rfl⟩ (Nat.le_of_ble_eq_true rfl) dX10_came_11 (c_inI_f (by rw [L0, show (10 : Int64).toInt = 10 by decide]; omega)) ?_
      refine g_if_eq (tgt := 25) hX dX10_came_14 (by decide) (fun _ => ?_) (fun h9 => absurd (rfl) h9)
      refine g_ldc hX ccX10_97 dX10_came_25 ?_
      refine g_iret (st := []) hX hE rfl dX10_came_27 (⟨_, rfl, rfl, hR.thrown⟩)
  obtain ⟨d, hd, rfl⟩ := h1
  obtain ⟨n, tk, nm, gr, a, b, -⟩ := hR.2.1
  refine ⟨nI (cntE (slotP tk nm gr 1) n d), fun S1 => S1 = pR S 65 (cntF (slotP tk nm gr 1) n (S.1 65)), ?_, ?_⟩
  · refine oX9_came (fun X hX hE => ?_)
    refine g_iload_n (i := 1) hX dX9_came_0 rfl rfl ?_
    refine g_bipush hX dX9_came_1 bp11 ?_
    refine sX9_96 hX ⟨Nat.le_of_ble_eq_true rfl, Nat.le_of_ble_eq_true rfl⟩ (Nat.le_of_ble_eq_true rfl) dX9_came_3 (isB_t (n := 11) hd (by decide)) ?_
    refine g_if_ne (tgt := 12) hX dX9_came_6 (by decide) (fun _ => ?_) (fun h9 => absurd h9 ((by decide)))
    refine g_aload_n (i := 0) hX dX9_came_12 rfl rfl ?_
    refine fX9_18 hX dX9_came_13 ?_
    refine g_iconst hX dX9_came_16 ic1 ?_
    refine g_aload_n (i := 0) hX dX9_came_17 rfl rfl ?_
    refine fX9_70 hX dX9_came_18 ?_
    refine sX9_169 hX ir16 ⟨Nat.le_of_ble_eq_true rfl, Nat.le_of_ble_eq_true rfl⟩ (Nat.le_of_ble_eq_true rfl) dX9_came_21 (c_countSlots (p := 1) ir16 a (by decide) ia65 (by decide)) ?_
    refine g_aload_n (i := 0) hX dX9_came_24 rfl rfl ?_
    refine fX9_70 hX dX9_came_25 ?_
    refine g_iload_n (i := 1) hX dX9_came_28 rfl rfl ?_
    refine g_ialoadN hX (ia65) rfl (hd) (by first | decide | assumption | omega) dX9_came_29 ?_
    refine g_iret (st := []) hX hE rfl dX9_came_30 (⟨_, rfl, ?_, rfl⟩)
    rw [pR_self]
    exact if_pos hd
  · rintro S1 rfl
    have hR1 : Rel (pR S 65 (cntF (slotP tk nm gr 1) n (S.1 65))) := hR.q (K := [65]) (O := []) (Fq.rf.R (by decide)) (by decide)
    refine oX10_came (fun X hX hE => ?_)
    refine g_aload_n (i := 0) hX dX10_came_0 rfl rfl ?_
    refine g_iconst hX dX10_came_1 ic0 ?_
    refine pX10_78 hX dX10_came_2 ?_
    refine g_iload_n (i := 1) hX dX10_came_5 rfl rfl ?_
    refine g_i2l hX dX10_came_6 ?_
    refine g_lconst (v := 0) hX dX10_came_7 (by decide) ?_
    refine g_ldc2_w hX ccX10_123 dX10_came_8 ?_
    refine sX10_87 hX ⟨Nat.le_of_ble_eq_true rfl, Nat.le_of_ble_eq_true rfl⟩ (Nat.le_of_ble_eq_true rfl) dX10_came_11 (c_inI_t (by rw [nI_toInt (by omega), L0]; omega) (by rw [nI_toInt (by omega), show (10 : Int64).toInt = 10 by decide]; omega)) ?_
    refine g_if_eq (tgt := 25) hX dX10_came_14 (by decide) (fun h9 => absurd h9 ((by decide))) (fun _ => ?_)
    refine g_aload_n (i := 0) hX dX10_came_17 rfl rfl ?_
    refine g_iload_n (i := 1) hX dX10_came_18 rfl rfl ?_
    refine sX10_125 hX ⟨Nat.le_of_ble_eq_true rfl, Nat.le_of_ble_eq_true rfl⟩ (Nat.le_of_ble_eq_true rfl) dX10_came_19 (c_cameOf (n := n) (tk := tk) (nm := nm) (gr := gr) hd a.1 b (fun i hi => (a.2.2 i hi).2.2.1)) ?_
    refine g_goto (tgt := 27) hX dX10_came_22 (by decide) ?_
    refine g_iret (st := []) hX hE rfl dX10_came_27 (⟨_, rfl, rfl, hR1.thrown⟩)
