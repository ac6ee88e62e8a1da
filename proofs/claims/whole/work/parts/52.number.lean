/-! promise 17: number -/
theorem c_layHalves {Γ : GG} {S : St} {n : Nat} {tk : Nat → Int32} {nm : Nat → Nat} {gr : Nat → Int32} (hn : n ≤ 40) (rr : RwR S 0 n tk nm gr) :
    kX10_layHalves Γ [.ref (Γ.1 67)] S (eV (fun S1 => (∀ f, f < 2 → RwR S1 (2 + f) (hfN n f) (fun i => tk (f + 2 * i)) (fun i => nm (f + 2 * i)) (fun i => gr (f + 2 * i))) ∧ (∀ r' n' tk' nm' gr', r' ≠ 2 → r' ≠ 3 → n' ≤ 40 → RwR S r' n' tk' nm' gr' → RwR S1 r' n' tk' nm' gr') ∧ Fq [71, 72, 73, 74] [] S S1)) := by
  refine oX10_layHalves (fun X hX hE => ?_)
  have loop : ∀ d i T, i + d = n → (∀ f, f < 2 → RwR T (2 + f) (hfN i f) (fun i => tk (f + 2 * i)) (fun i => nm (f + 2 * i)) (fun i => gr (f + 2 * i))) → (∀ r' n' tk' nm' gr', r' ≠ 2 → r' ≠ 3 → n' ≤ 40 → RwR S r' n' tk' nm' gr' → RwR T r' n' tk' nm' gr') → Fq [71, 72, 73, 74] [] S T → G Γ X T 16 [(0, .ref (Γ.1 67)), (1, .int (nI i))] [] := by
    intro d
    induction d with
    | zero =>
      intro i T hi h1 h2 hF
      obtain rfl : i = n := by omega
      have h0 := h2 0 i tk nm gr (by decide) (by decide) hn rr
      refine g_iload_n (i := 1) hX dX10_layHalves_16 rfl rfl ?_
      refine g_aload_n (i := 0) hX dX10_layHalves_17 rfl rfl ?_
      refine fX10_19 hX dX10_layHalves_18 ?_
      refine g_iconst hX dX10_layHalves_21 ic0 ?_
      refine g_ialoadN (i := 0) hX (ia71) rfl (by decide) (by first | decide | assumption | omega) dX10_layHalves_22 ?_
      refine g_icmp_ge (tgt := 59) hX dX10_layHalves_23 (by decide) (fun _ => ?_) (fun h9 => absurd ((by rw [h0.1]; exact nI_le (Nat.le_refl _) (by omega))) h9)
      refine g_vret (st := []) hX hE rfl dX10_layHalves_59 (⟨rfl, h1, h2, hF⟩)
    | succ d ih =>
      intro i T hi h1 h2 hF
      have h0 := h2 0 n tk nm gr (by decide) (by decide) hn rr
      have hin : i < n := by omega
      obtain ⟨q1, q2, q3⟩ := h0.2 i hin
      rw [show 40 * 0 + i = i by omega] at q1 q2 q3
      have hm : i % 2 < 2 := Nat.mod_lt _ (by decide)
      have hh : hfN i (i % 2) = i / 2 := by unfold hfN; omega
      have hh1 : hfN (i + 1) (i % 2) = i / 2 + 1 := by unfold hfN; omega
      have hix : i % 2 + 2 * (i / 2) = i := by omega
      have hr := h1 (i % 2) hm
      rw [hh] at hr
      have hadd := c_add (Γ := Γ) (t := tk i) (x := nI (nm i)) (g := gr i) (show 2 + i % 2 < 5 by omega) (show i / 2 < 40 by omega) hr.1
      have e2 : (2 : Int32) + jrem (nI i) 2 = nI (2 + i % 2) := by rw [show (2 : Int32) = nI 2 from rfl, jrem_nI (by omega) (by decide) (by decide), nI_add2]
      refine g_iload_n (i := 1) hX dX10_layHalves_16 rfl rfl ?_
      refine g_aload_n (i := 0) hX dX10_layHalves_17 rfl rfl ?_
      refine fX10_19 hX dX10_layHalves_18 ?_
      refine g_iconst hX dX10_layHalves_21 ic0 ?_
      refine g_ialoadN (i := 0) hX (ia71) rfl (by decide) (by first | decide | assumption | omega) dX10_layHalves_22 ?_
      refine g_icmp_ge (tgt := 59) hX dX10_layHalves_23 (by decide) (fun h9 => absurd h9 ((by rw [h0.1]; exact nI_ge hin (by omega)))) (fun _ => ?_)
      refine g_aload_n (i := 0) hX dX10_layHalves_26 rfl rfl ?_
      refine g_iconst hX dX10_layHalves_27 ic2 ?_
      refine g_iload_n (i := 1) hX dX10_layHalves_28 rfl rfl ?_
      refine g_iconst hX dX10_layHalves_29 ic2 ?_
      refine g_irem hX dX10_layHalves_30 (by decide) ?_
      refine g_iadd hX dX10_layHalves_31 ?_
      refine g_aload_n (i := 0) hX dX10_layHalves_32 rfl rfl ?_
      refine fX10_22 hX dX10_layHalves_33 ?_
      refine g_iload_n (i := 1) hX dX10_layHalves_36 rfl rfl ?_
      refine g_ialoadN hX (ia72) rfl ((show i < 200 by omega)) (by first | decide | assumption | omega) dX10_layHalves_37 ?_
      refine g_aload_n (i := 0) hX dX10_layHalves_38 rfl rfl ?_
      refine fX10_25 hX dX10_layHalves_39 ?_
      refine g_iload_n (i := 1) hX dX10_layHalves_42 rfl rfl ?_
      refine g_ialoadN hX (ia73) rfl ((show i < 200 by omega)) (by first | decide | assumption | omega) dX10_layHalves_43 ?_
      refine g_aload_n (i := 0) hX dX10_layHalves_44 rfl rfl ?_
      refine fX10_28 hX dX10_layHalves_45 ?_
      refine g_iload_n (i := 1) hX dX10_layHalves_48 rfl rfl ?_
      refine g_ialoadN hX (ia74) rfl ((show i < 200 by omega)) (by first | decide | assumption | omega) dX10_layHalves_49 ?_
      refine sX10_102 hX ⟨Nat.le_of_ble_eq_true rfl, Nat.le_of_ble_eq_true rfl⟩ (Nat.le_of_ble_eq_true rfl) dX10_layHalves_50 ((by rw [e2, q1, q2, q3]; exact hadd)) ?_
      refine g_iinc hX dX10_layHalves_53 rfl ic1 (by decide) rfl ?_
      refine g_goto (tgt := 16) hX dX10_layHalves_56 (by decide) ?_
      rw [nI_1]
      refine ih (i + 1) _ (by omega) ?_ ?_ (hF.tr addS_F)
      · intro f hf
        by_cases e : f = i % 2
        · subst e
          rw [hh1]
          have hp := hr.push
          simp only [hix] at hp
          exact hp
        · have hf2 : hfN (i + 1) f = hfN i f := by unfold hfN; omega
          rw [hf2]
          exact (h1 f hf).other (by omega) (by omega) (by unfold hfN; omega)
      · intro r' n' tk' nm' gr' a1 a2 a3 a4
        exact (h2 r' n' tk' nm' gr' a1 a2 a3 a4).other (by omega) (by omega) a3
  refine g_aload_n (i := 0) hX dX10_layHalves_0 rfl rfl ?_
  refine fX10_19 hX dX10_layHalves_1 ?_
  refine g_iconst hX dX10_layHalves_4 ic2 ?_
  refine g_iconst hX dX10_layHalves_5 ic0 ?_
  refine g_iastoreN (i := 2) hX (ia71) rfl (by decide) (by first | decide | assumption | omega) dX10_layHalves_6 ?_
  refine g_aload_n (i := 0) hX dX10_layHalves_7 rfl rfl ?_
  refine fX10_19 hX dX10_layHalves_8 ?_
  refine g_iconst hX dX10_layHalves_11 ic3 ?_
  refine g_iconst hX dX10_layHalves_12 ic0 ?_
  refine g_iastoreN (i := 3) hX (ia71) rfl (by decide) (by first | decide | assumption | omega) dX10_layHalves_13 ?_
  refine g_iconst hX dX10_layHalves_14 ic0 ?_
  refine g_istore_n (i := 1) hX dX10_layHalves_15 rfl (by decide) rfl ?_
  refine loop n 0 _ (by omega) ?_ ?_ ((Fq.rf.R (by decide)).R (by decide))
  · intro f hf
    rcases (by omega : f = 0 ∨ f = 1) with rfl | rfl
    · exact RwR.zero.keep71 (by decide)
    · exact RwR.zero
  · intro r' n' tk' nm' gr' a1 a2 a3 a4
    exact (a4.keep71 a1).keep71 a2
def numV (s : Hs) (l w : Nat) : Int32 := if w = 0 then s.a else if w = 1 then s.b else if w = 2 then s.w else if w = 3 then s.f else if w = 4 then nI l else s.g
theorem Num6.at {S : St} {q l w : Nat} {s : Hs} (h : Num6 S q s l) (hw : w < 6) : S.1 q w = numV s l w := by
  obtain ⟨h0, h1, h2, h3, h4, h5⟩ := h
  rcases (by omega : w = 0 ∨ w = 1 ∨ w = 2 ∨ w = 3 ∨ w = 4 ∨ w = 5) with rfl | rfl | rfl | rfl | rfl | rfl
  · exact h0
  · exact h1
  · exact h2
  · exact h3
  · exact h4
  · exact h5
/-- the reference's rows, laid anew -/
theorem Rel.laid {S S1 : St} (h : Rel S) (hk : ∀ r' n' tk' nm' gr', r' ≠ 2 → r' ≠ 3 → n' ≤ 40 → RwR S r' n' tk' nm' gr' → RwR S1 r' n' tk' nm' gr') (hF : Fq [71, 72, 73, 74] [] S S1) : Rel S1 := by
  obtain ⟨h1, h2, h3, h4, h5, h6, h7, h8, h9⟩ := h
  refine ⟨h1.q hF (by decide), ?_, ?_, h4.q hF (by decide), h5.q hF (by decide), h6.q hF (by decide), h7.q hF (by decide), h8.q hF (by decide), h9.q hF (by decide)⟩
  · obtain ⟨n, tk, nm, gr, a, b, d⟩ := h2
    exact ⟨n, tk, nm, gr, a.q hF (by decide), hk _ _ _ _ _ (by decide) (by decide) a.1 b, d⟩
  · obtain ⟨n, tk, nm, gr, a, b, d⟩ := h3
    exact ⟨n, tk, nm, gr, a.q hF (by decide), hk _ _ _ _ _ (by decide) (by decide) a.1 b, d⟩
theorem c_numberOf {Γ : GG} {S : St} {b n c k w : Nat} {tk : Nat → Int32} {nm : Nat → Nat} {gr : Nat → Int32} (hb : IsRow b) (hr : RwC S b n tk nm gr) (hb6 : b + 5 ≤ 44) (hk : k < 5) (hc : S.1 60 0 = nI c) (hc6 : c ≤ 6) (hw : w < 6) :
    kX2_numberOf Γ [.ref (Γ.1 62), .ref (Γ.1 b), .int (nI w), .ref (Γ.1 60), .int (nI k)] S (eI (fun r1 S1 => r1 = numV (hsN tk nm gr c (S.1 60 1) (S.1 60 2) k n) (mru nm n).length w ∧ Fq [61, 47] [] S S1)) := by
  refine oX2_numberOf (fun X hX hE => ?_)
  have hst := c_house (Γ := Γ) hb hr ia47 (fun x hx => by omega) (by omega) hk hc hc6
  refine g_aload_n (i := 3) hX dX2_numberOf_0 rfl rfl ?_
  refine g_aload_n (i := 1) hX dX2_numberOf_1 rfl rfl ?_
  refine g_iload hX dX2_numberOf_2 rfl ?_
  refine g_aload_n (i := 0) hX dX2_numberOf_4 rfl rfl ?_
  refine fX2_28 hX dX2_numberOf_5 ?_
  refine eX2_31 hX ⟨Nat.le_of_ble_eq_true rfl, Nat.le_of_ble_eq_true rfl⟩ (Nat.le_of_ble_eq_true rfl) dX2_numberOf_8 (hst) (fun T hT => ?_)
  refine g_iload_n (i := 2) hX dX2_numberOf_11 rfl rfl ?_
  refine g_bipush hX dX2_numberOf_12 bp6 ?_
  refine sX2_37 hX ⟨Nat.le_of_ble_eq_true rfl, Nat.le_of_ble_eq_true rfl⟩ (Nat.le_of_ble_eq_true rfl) dX2_numberOf_14 (isB_t (n := 6) hw (by decide)) ?_
  refine g_if_eq (tgt := 29) hX dX2_numberOf_17 (by decide) (fun h9 => absurd h9 ((by decide))) (fun _ => ?_)
  refine g_aload_n (i := 0) hX dX2_numberOf_20 rfl rfl ?_
  refine fX2_28 hX dX2_numberOf_21 ?_
  refine g_iload_n (i := 2) hX dX2_numberOf_24 rfl rfl ?_
  refine g_ialoadN hX (ia47) rfl (hw) (by first | decide | assumption | omega) dX2_numberOf_25 ?_
  refine g_goto (tgt := 30) hX dX2_numberOf_26 (by decide) ?_
  refine g_iret (st := []) hX hE rfl dX2_numberOf_30 (⟨_, rfl, hT.1.at hw, hT.2⟩)
theorem eX9_225 {Γ : GG} {X : XT} {S : St} {pc : Nat} {ls : List (Nat × Value)} {st : List Value} {cc : ByteArray} {mL : Nat} {ret : Option FieldType} {fr lo : Nat} (hX : Cx Γ RX9 cc mL ret fr lo X) {x1 : Int32} (hR' : 4 + 1 ≤ fr ∧ 8 + (2 + 11) + 89 ≤ lo) (hrm : (st.map fun v => v.category).sum ≤ 8) (hd : decode cc pc = .ok (.invokevirtual 225, 3)) {b0 : Nat} {Q : St → Prop} (hC : kX9_rowOf Γ [(.ref (Γ.1 48)), .int x1] S (fun v S1 => v = some (.ref (Γ.1 b0)) ∧ Q S1)) (k : ∀ S1, Q S1 → G Γ X S1 (pc + 3) ls (.ref (Γ.1 b0) :: st)) : G Γ X S pc ls (.int x1 :: (.ref (Γ.1 48)) :: st) := g_callV (As := [.int x1]) (rest := st) (ci := 9) hX cwX9_rowOf cmX9_rowOf clX9_rowOf wlX9_225 rfl hR' (by decide) (by decide) rfl rfl hrm hd hC (fun v S' h => by obtain ⟨rfl, h⟩ := h; exact k S' h)
theorem step_number {Γ : GG} (x1 x2 x3 : Int32) : Step (fun S P => kX9_number Γ [.ref (Γ.1 48), .int x1, .int x2, .int x3] S P) (fun S P => kX10_number Γ [.ref (Γ.1 67), .int x1, .int x2, .int x3] S P) := by
  intro S hR
  have l3 : (3 : Int64).toInt = 3 := by decide
  have l4 : (4 : Int64).toInt = 4 := by decide
  have l5 : (5 : Int64).toInt = 5 := by decide
  by_cases h1 : inB x1 4
  case neg =>
    refine ⟨-1000001, fun S1 => S1 = S, ?_, ?_⟩
    · refine oX9_number (fun X hX hE => ?_)
      refine g_iload_n (i := 1) hX dX9_number_0 rfl rfl ?_
      refine g_iconst hX dX9_number_1 ic4 ?_
      refine sX9_96 hX ⟨Nat.le_of_ble_eq_true rfl, Nat.le_of_ble_eq_true rfl⟩ (Nat.le_of_ble_eq_true rfl) dX9_number_2 (isB_f (n := 4) (by decide) h1) ?_
      refine g_if_eq (tgt := 24) hX dX9_number_5 (by decide) (fun _ => ?_) (fun h9 => absurd (rfl) h9)
      refine g_ldc hX ccX9_100 dX9_number_24 ?_
      refine g_iret (st := []) hX hE rfl dX9_number_26 (⟨_, rfl, rfl, rfl⟩)
    · rintro S1 rfl
      refine oX10_number (fun X hX hE => ?_)
      rw [inB_iff (by decide)] at h1
      refine g_aload_n (i := 0) hX dX10_number_0 rfl rfl ?_
      refine g_iconst hX dX10_number_1 ic0 ?_
      refine pX10_78 hX dX10_number_2 ?_
      refine g_iload_n (i := 1) hX dX10_number_5 rfl rfl ?_
      refine g_i2l hX dX10_number_6 ?_
      refine g_lconst (v := 0) hX dX10_number_7 (by decide) ?_
      refine g_ldc2_w hX ccX10_128 dX10_number_8 ?_
      refine sX10_87 hX ⟨Nat.le_of_ble_eq_true rfl, Nat.le_of_ble_eq_true rfl⟩ (Nat.le_of_ble_eq_true rfl) dX10_number_11 (c_inI_f (by rw [L0, l3]; omega)) ?_
      refine g_if_eq (tgt := 41) hX dX10_number_14 (by decide) (fun _ => ?_) (fun h9 => absurd (rfl) h9)
      refine g_ldc hX ccX10_97 dX10_number_41 ?_
      refine g_iret (st := []) hX hE rfl dX10_number_43 (⟨_, rfl, rfl, hR.thrown⟩)
  obtain ⟨r, hr, rfl⟩ := h1
  have c1 : ∀ T : St, kX10_in Γ [.long (nI r).toInt64, .long 0, .long 3] T (rI 1 T) := fun T => c_inI_t (by rw [nI_toInt (by omega), L0]; omega) (by rw [nI_toInt (by omega), l3]; omega)
  by_cases h2 : inB x2 6
  case neg =>
    refine ⟨-1000001, fun S1 => S1 = S, ?_, ?_⟩
    · refine oX9_number (fun X hX hE => ?_)
      refine g_iload_n (i := 1) hX dX9_number_0 rfl rfl ?_
      refine g_iconst hX dX9_number_1 ic4 ?_
      refine sX9_96 hX ⟨Nat.le_of_ble_eq_true rfl, Nat.le_of_ble_eq_true rfl⟩ (Nat.le_of_ble_eq_true rfl) dX9_number_2 (isB_t (n := 4) hr (by decide)) ?_
      refine g_if_eq (tgt := 24) hX dX9_number_5 (by decide) (fun h9 => absurd h9 ((by decide))) (fun _ => ?_)
      refine g_iload_n (i := 2) hX dX9_number_8 rfl rfl ?_
      refine g_bipush hX dX9_number_9 bp6 ?_
      refine sX9_96 hX ⟨Nat.le_of_ble_eq_true rfl, Nat.le_of_ble_eq_true rfl⟩ (Nat.le_of_ble_eq_true rfl) dX9_number_11 (isB_f (n := 6) (by decide) h2) ?_
      refine g_if_eq (tgt := 24) hX dX9_number_14 (by decide) (fun _ => ?_) (fun h9 => absurd (rfl) h9)
      refine g_ldc hX ccX9_100 dX9_number_24 ?_
      refine g_iret (st := []) hX hE rfl dX9_number_26 (⟨_, rfl, rfl, rfl⟩)
    · rintro S1 rfl
      refine oX10_number (fun X hX hE => ?_)
      rw [inB_iff (by decide)] at h2
      refine g_aload_n (i := 0) hX dX10_number_0 rfl rfl ?_
      refine g_iconst hX dX10_number_1 ic0 ?_
      refine pX10_78 hX dX10_number_2 ?_
      refine g_iload_n (i := 1) hX dX10_number_5 rfl rfl ?_
      refine g_i2l hX dX10_number_6 ?_
      refine g_lconst (v := 0) hX dX10_number_7 (by decide) ?_
      refine g_ldc2_w hX ccX10_128 dX10_number_8 ?_
      refine sX10_87 hX ⟨Nat.le_of_ble_eq_true rfl, Nat.le_of_ble_eq_true rfl⟩ (Nat.le_of_ble_eq_true rfl) dX10_number_11 (c1 _) ?_
      refine g_if_eq (tgt := 41) hX dX10_number_14 (by decide) (fun h9 => absurd h9 ((by decide))) (fun _ => ?_)
      refine g_iload_n (i := 2) hX dX10_number_17 rfl rfl ?_
      refine g_i2l hX dX10_number_18 ?_
      refine g_lconst (v := 0) hX dX10_number_19 (by decide) ?_
      refine g_ldc2_w hX ccX10_259 dX10_number_20 ?_
      refine sX10_87 hX ⟨Nat.le_of_ble_eq_true rfl, Nat.le_of_ble_eq_true rfl⟩ (Nat.le_of_ble_eq_true rfl) dX10_number_23 (c_inI_f (by rw [L0, l5]; omega)) ?_
      refine g_if_eq (tgt := 41) hX dX10_number_26 (by decide) (fun _ => ?_) (fun h9 => absurd (rfl) h9)
      refine g_ldc hX ccX10_97 dX10_number_41 ?_
      refine g_iret (st := []) hX hE rfl dX10_number_43 (⟨_, rfl, rfl, hR.thrown⟩)
  obtain ⟨w, hw, rfl⟩ := h2
  have c2 : ∀ T : St, kX10_in Γ [.long (nI w).toInt64, .long 0, .long 5] T (rI 1 T) := fun T => c_inI_t (by rw [nI_toInt (by omega), L0]; omega) (by rw [nI_toInt (by omega), l5]; omega)
  by_cases h3 : inB x3 5
  case neg =>
    refine ⟨-1000001, fun S1 => S1 = S, ?_, ?_⟩
    · refine oX9_number (fun X hX hE => ?_)
      refine g_iload_n (i := 1) hX dX9_number_0 rfl rfl ?_
      refine g_iconst hX dX9_number_1 ic4 ?_
      refine sX9_96 hX ⟨Nat.le_of_ble_eq_true rfl, Nat.le_of_ble_eq_true rfl⟩ (Nat.le_of_ble_eq_true rfl) dX9_number_2 (isB_t (n := 4) hr (by decide)) ?_
      refine g_if_eq (tgt := 24) hX dX9_number_5 (by decide) (fun h9 => absurd h9 ((by decide))) (fun _ => ?_)
      refine g_iload_n (i := 2) hX dX9_number_8 rfl rfl ?_
      refine g_bipush hX dX9_number_9 bp6 ?_
      refine sX9_96 hX ⟨Nat.le_of_ble_eq_true rfl, Nat.le_of_ble_eq_true rfl⟩ (Nat.le_of_ble_eq_true rfl) dX9_number_11 (isB_t (n := 6) hw (by decide)) ?_
      refine g_if_eq (tgt := 24) hX dX9_number_14 (by decide) (fun h9 => absurd h9 ((by decide))) (fun _ => ?_)
      refine g_iload_n (i := 3) hX dX9_number_17 rfl rfl ?_
      refine sX9_221 hX ⟨Nat.le_of_ble_eq_true rfl, Nat.le_of_ble_eq_true rfl⟩ (Nat.le_of_ble_eq_true rfl) dX9_number_18 (isC_f h3) ?_
      refine g_if_ne (tgt := 27) hX dX9_number_21 (by decide) (fun h9 => absurd (rfl) h9) (fun _ => ?_)
      refine g_ldc hX ccX9_100 dX9_number_24 ?_
      refine g_iret (st := []) hX hE rfl dX9_number_26 (⟨_, rfl, rfl, rfl⟩)
    · rintro S1 rfl
      refine oX10_number (fun X hX hE => ?_)
      rw [inB_iff (by decide)] at h3
      refine g_aload_n (i := 0) hX dX10_number_0 rfl rfl ?_
      refine g_iconst hX dX10_number_1 ic0 ?_
      refine pX10_78 hX dX10_number_2 ?_
      refine g_iload_n (i := 1) hX dX10_number_5 rfl rfl ?_
      refine g_i2l hX dX10_number_6 ?_
      refine g_lconst (v := 0) hX dX10_number_7 (by decide) ?_
      refine g_ldc2_w hX ccX10_128 dX10_number_8 ?_
      refine sX10_87 hX ⟨Nat.le_of_ble_eq_true rfl, Nat.le_of_ble_eq_true rfl⟩ (Nat.le_of_ble_eq_true rfl) dX10_number_11 (c1 _) ?_
      refine g_if_eq (tgt := 41) hX dX10_number_14 (by decide) (fun h9 => absurd h9 ((by decide))) (fun _ => ?_)
      refine g_iload_n (i := 2) hX dX10_number_17 rfl rfl ?_
      refine g_i2l hX dX10_number_18 ?_
      refine g_lconst (v := 0) hX dX10_number_19 (by decide) ?_
      refine g_ldc2_w hX ccX10_259 dX10_number_20 ?_
      refine sX10_87 hX ⟨Nat.le_of_ble_eq_true rfl, Nat.le_of_ble_eq_true rfl⟩ (Nat.le_of_ble_eq_true rfl) dX10_number_23 (c2 _) ?_
      refine g_if_eq (tgt := 41) hX dX10_number_26 (by decide) (fun h9 => absurd h9 ((by decide))) (fun _ => ?_)
      refine g_iload_n (i := 3) hX dX10_number_29 rfl rfl ?_
      refine g_i2l hX dX10_number_30 ?_
      refine g_lconst (v := 0) hX dX10_number_31 (by decide) ?_
      refine g_ldc2_w hX ccX10_114 dX10_number_32 ?_
      refine sX10_87 hX ⟨Nat.le_of_ble_eq_true rfl, Nat.le_of_ble_eq_true rfl⟩ (Nat.le_of_ble_eq_true rfl) dX10_number_35 (c_inI_f (by rw [L0, l4]; omega)) ?_
      refine g_if_ne (tgt := 44) hX dX10_number_38 (by decide) (fun h9 => absurd (rfl) h9) (fun _ => ?_)
      refine g_ldc hX ccX10_97 dX10_number_41 ?_
      refine g_iret (st := []) hX hE rfl dX10_number_43 (⟨_, rfl, rfl, hR.thrown⟩)
  obtain ⟨k, hk, rfl⟩ := h3
  have c3 : ∀ T : St, kX10_in Γ [.long (nI k).toInt64, .long 0, .long 4] T (rI 1 T) := fun T => c_inI_t (by rw [nI_toInt (by omega), L0]; omega) (by rw [nI_toInt (by omega), l4]; omega)
  obtain ⟨hs0, hs1, hs2, ⟨c, hc1, hc6, hc⟩, -⟩ := hR.2.2.2.2.2.2.1
  obtain ⟨n, tk, nm, gr, a, b, tok⟩ := hR.2.1
  obtain ⟨n2, tk2, nm2, gr2, a2, b2, -⟩ := hR.2.2.1
  have h40 := a.1
  obtain ⟨b0, n0, tk0, nm0, gr0, ib, hb44, ⟨hn0, hnm0⟩, hcl, hre⟩ : ∃ b0 n0 tk0 nm0 gr0, IsRow b0 ∧ b0 + 5 ≤ 44 ∧ (n0 ≤ 40 ∧ ∀ i, i < n0 → nm0 i < 10) ∧ kX9_rowOf Γ [.ref (Γ.1 48), .int (nI r)] S (fun v S1 => v = some (.ref (Γ.1 b0)) ∧ RwC S1 b0 n0 tk0 nm0 gr0 ∧ Fq [26, 27, 28, 29, 30] [] S S1) ∧
      (∀ T T1 : St, RwR T 0 n tk nm gr → RwR T 1 n2 tk2 nm2 gr2 → (∀ f, f < 2 → RwR T1 (2 + f) (hfN n f) (fun i => tk (f + 2 * i)) (fun i => nm (f + 2 * i)) (fun i => gr (f + 2 * i))) → (∀ r' n' tk' nm' gr', r' ≠ 2 → r' ≠ 3 → n' ≤ 40 → RwR T r' n' tk' nm' gr' → RwR T1 r' n' tk' nm' gr') → RwR T1 r n0 tk0 nm0 gr0) := by
    rcases (by omega : r = 0 ∨ r = 1 ∨ r = 2 ∨ r = 3) with rfl | rfl | rfl | rfl
    · refine ⟨16, n, tk, nm, gr, ir16, by decide, ⟨a.1, fun i hi => (a.2.2 i hi).2.2.1⟩, ?_, fun T T1 t0 t1 tf tk => tk _ _ _ _ _ (by decide) (by decide) a.1 t0⟩
      refine oX9_rowOf (fun X hX hE => ?_)
      refine g_iload_n (i := 1) hX dX9_rowOf_0 rfl rfl ?_
      refine g_lookup (off := 27) (tgt := 28) hX dX9_rowOf_1 (by decide) (by decide) (by decide) ?_
      refine g_aload_n (i := 0) hX dX9_rowOf_28 rfl rfl ?_
      refine fX9_18 hX dX9_rowOf_29 ?_
      refine g_aret (st := []) hX hE rfl (by first | exact Or.inl ⟨_, rfl⟩ | exact Or.inr ⟨_, rfl⟩) dX9_rowOf_32 (⟨rfl, a, Fq.rf⟩)
    · refine ⟨21, n2, tk2, nm2, gr2, ir21, by decide, ⟨a2.1, fun i hi => (a2.2.2 i hi).2.2.1⟩, ?_, fun T T1 t0 t1 tf tk => tk _ _ _ _ _ (by decide) (by decide) a2.1 t1⟩
      refine oX9_rowOf (fun X hX hE => ?_)
      refine g_iload_n (i := 1) hX dX9_rowOf_0 rfl rfl ?_
      refine g_lookup (off := 32) (tgt := 33) hX dX9_rowOf_1 (by decide) (by decide) (by decide) ?_
      refine g_aload_n (i := 0) hX dX9_rowOf_33 rfl rfl ?_
      refine fX9_22 hX dX9_rowOf_34 ?_
      refine g_aret (st := []) hX hE rfl (by first | exact Or.inl ⟨_, rfl⟩ | exact Or.inr ⟨_, rfl⟩) dX9_rowOf_37 (⟨rfl, a2, Fq.rf⟩)
    · refine ⟨26, _, _, _, _, ir26, by decide, ⟨(by unfold hfN; omega : hfN n 0 ≤ 40), fun i hi => (a.2.2 (0 + 2 * i) (by unfold hfN at hi; omega)).2.2.1⟩, ?_, fun T T1 t0 t1 tf tk => tf 0 (by decide)⟩
      refine oX9_rowOf (fun X hX hE => ?_)
      refine g_iload_n (i := 1) hX dX9_rowOf_0 rfl rfl ?_
      refine g_lookup (off := 37) (tgt := 38) hX dX9_rowOf_1 (by decide) (by decide) (by decide) ?_
      refine g_aload_n (i := 0) hX dX9_rowOf_38 rfl rfl ?_
      refine fX9_25 hX dX9_rowOf_39 ?_
      refine g_aload_n (i := 0) hX dX9_rowOf_42 rfl rfl ?_
      refine fX9_18 hX dX9_rowOf_43 ?_
      refine g_iload_n (i := 1) hX dX9_rowOf_46 rfl rfl ?_
      refine g_iconst hX dX9_rowOf_47 ic2 ?_
      refine g_isub hX dX9_rowOf_48 ?_
      refine eX9_289 hX ir26 ⟨Nat.le_of_ble_eq_true rfl, Nat.le_of_ble_eq_true rfl⟩ (Nat.le_of_ble_eq_true rfl) dX9_rowOf_49 ((c_becomeHalf (f := 0) ir26 ir16 a (by decide) (by decide))) (fun T hT => ?_)
      refine g_aload_n (i := 0) hX dX9_rowOf_52 rfl rfl ?_
      refine fX9_25 hX dX9_rowOf_53 ?_
      refine g_aret (st := []) hX hE rfl (by first | exact Or.inl ⟨_, rfl⟩ | exact Or.inr ⟨_, rfl⟩) dX9_rowOf_56 (⟨rfl, hT.1, hT.2⟩)
    · refine ⟨26, _, _, _, _, ir26, by decide, ⟨(by unfold hfN; omega : hfN n 1 ≤ 40), fun i hi => (a.2.2 (1 + 2 * i) (by unfold hfN at hi; omega)).2.2.1⟩, ?_, fun T T1 t0 t1 tf tk => tf 1 (by decide)⟩
      refine oX9_rowOf (fun X hX hE => ?_)
      refine g_iload_n (i := 1) hX dX9_rowOf_0 rfl rfl ?_
      refine g_lookup (off := 37) (tgt := 38) hX dX9_rowOf_1 (by decide) (by decide) (by decide) ?_
      refine g_aload_n (i := 0) hX dX9_rowOf_38 rfl rfl ?_
      refine fX9_25 hX dX9_rowOf_39 ?_
      refine g_aload_n (i := 0) hX dX9_rowOf_42 rfl rfl ?_
      refine fX9_18 hX dX9_rowOf_43 ?_
      refine g_iload_n (i := 1) hX dX9_rowOf_46 rfl rfl ?_
      refine g_iconst hX dX9_rowOf_47 ic2 ?_
      refine g_isub hX dX9_rowOf_48 ?_
      refine eX9_289 hX ir26 ⟨Nat.le_of_ble_eq_true rfl, Nat.le_of_ble_eq_true rfl⟩ (Nat.le_of_ble_eq_true rfl) dX9_rowOf_49 ((c_becomeHalf (f := 1) ir26 ir16 a (by decide) (by decide))) (fun T hT => ?_)
      refine g_aload_n (i := 0) hX dX9_rowOf_52 rfl rfl ?_
      refine fX9_25 hX dX9_rowOf_53 ?_
      refine g_aret (st := []) hX hE rfl (by first | exact Or.inl ⟨_, rfl⟩ | exact Or.inr ⟨_, rfl⟩) dX9_rowOf_56 (⟨rfl, hT.1, hT.2⟩)
  refine ⟨numV (hsN tk0 nm0 gr0 c (S.1 60 1) (S.1 60 2) k n0) (mru nm0 n0).length w, fun S1 => Fq [26, 27, 28, 29, 30, 61, 47] [] S S1, ?_, ?_⟩
  · refine oX9_number (fun X hX hE => ?_)
    refine g_iload_n (i := 1) hX dX9_number_0 rfl rfl ?_
    refine g_iconst hX dX9_number_1 ic4 ?_
    refine sX9_96 hX ⟨Nat.le_of_ble_eq_true rfl, Nat.le_of_ble_eq_true rfl⟩ (Nat.le_of_ble_eq_true rfl) dX9_number_2 (isB_t (n := 4) hr (by decide)) ?_
    refine g_if_eq (tgt := 24) hX dX9_number_5 (by decide) (fun h9 => absurd h9 ((by decide))) (fun _ => ?_)
    refine g_iload_n (i := 2) hX dX9_number_8 rfl rfl ?_
    refine g_bipush hX dX9_number_9 bp6 ?_
    refine sX9_96 hX ⟨Nat.le_of_ble_eq_true rfl, Nat.le_of_ble_eq_true rfl⟩ (Nat.le_of_ble_eq_true rfl) dX9_number_11 (isB_t (n := 6) hw (by decide)) ?_
    refine g_if_eq (tgt := 24) hX dX9_number_14 (by decide) (fun h9 => absurd h9 ((by decide))) (fun _ => ?_)
    refine g_iload_n (i := 3) hX dX9_number_17 rfl rfl ?_
    refine sX9_221 hX ⟨Nat.le_of_ble_eq_true rfl, Nat.le_of_ble_eq_true rfl⟩ (Nat.le_of_ble_eq_true rfl) dX9_number_18 (isC_t hk) ?_
    refine g_if_ne (tgt := 27) hX dX9_number_21 (by decide) (fun _ => ?_) (fun h9 => absurd h9 ((by decide)))
    refine g_aload_n (i := 0) hX dX9_number_27 rfl rfl ?_
    refine fX9_59 hX dX9_number_28 ?_
    refine g_aload_n (i := 0) hX dX9_number_31 rfl rfl ?_
    refine g_iload_n (i := 1) hX dX9_number_32 rfl rfl ?_
    refine eX9_225 hX ⟨Nat.le_of_ble_eq_true rfl, Nat.le_of_ble_eq_true rfl⟩ (Nat.le_of_ble_eq_true rfl) dX9_number_33 (hcl) (fun T hT => ?_)
    have e60 : T.1 60 = S.1 60 := hT.2.r (by decide)
    have hnum := c_numberOf (Γ := Γ) (S := T) (c := c) (w := w) ib hT.1 hb44 hk (by rw [e60]; exact hc) hc6 hw
    rw [e60] at hnum
    refine g_iload_n (i := 2) hX dX9_number_36 rfl rfl ?_
    refine g_aload_n (i := 0) hX dX9_number_37 rfl rfl ?_
    refine fX9_52 hX dX9_number_38 ?_
    refine g_iload_n (i := 3) hX dX9_number_41 rfl rfl ?_
    refine eX9_229 hX ⟨Nat.le_of_ble_eq_true rfl, Nat.le_of_ble_eq_true rfl⟩ (Nat.le_of_ble_eq_true rfl) dX9_number_42 (hnum) (fun v U hU => ?_)
    refine g_iret (st := []) hX hE rfl dX9_number_45 (⟨_, rfl, hU.1, (hT.2.mono (by decide) (fun _ z => by cases z)).tr (hU.2.mono (by decide) (fun _ z => by cases z))⟩)
  · intro S1 hF1
    have hR1 : Rel S1 := hR.q hF1 (by decide)
    have hR0 : Rel (S0 S1) := hR1.thrown
    have hF0 : Fq [26, 27, 28, 29, 30, 61, 47] [(67, 0)] S (S0 S1) := (hF1.mono (fun _ z => z) (fun _ z => by cases z)).I (by decide)
    have b' : RwR (S0 S1) 0 n tk nm gr := b.q hF0 (by decide)
    have b2' : RwR (S0 S1) 1 n2 tk2 nm2 gr2 := b2.q hF0 (by decide)
    refine oX10_number (fun X hX hE => ?_)
    refine g_aload_n (i := 0) hX dX10_number_0 rfl rfl ?_
    refine g_iconst hX dX10_number_1 ic0 ?_
    refine pX10_78 hX dX10_number_2 ?_
    refine g_iload_n (i := 1) hX dX10_number_5 rfl rfl ?_
    refine g_i2l hX dX10_number_6 ?_
    refine g_lconst (v := 0) hX dX10_number_7 (by decide) ?_
    refine g_ldc2_w hX ccX10_128 dX10_number_8 ?_
    refine sX10_87 hX ⟨Nat.le_of_ble_eq_true rfl, Nat.le_of_ble_eq_true rfl⟩ (Nat.le_of_ble_eq_true rfl) dX10_number_11 (c1 _) ?_
    refine g_if_eq (tgt := 41) hX dX10_number_14 (by decide) (fun h9 => absurd h9 ((by decide))) (fun _ => ?_)
    refine g_iload_n (i := 2) hX dX10_number_17 rfl rfl ?_
    refine g_i2l hX dX10_number_18 ?_
    refine g_lconst (v := 0) hX dX10_number_19 (by decide) ?_
    refine g_ldc2_w hX ccX10_259 dX10_number_20 ?_
    refine sX10_87 hX ⟨Nat.le_of_ble_eq_true rfl, Nat.le_of_ble_eq_true rfl⟩ (Nat.le_of_ble_eq_true rfl) dX10_number_23 (c2 _) ?_
    refine g_if_eq (tgt := 41) hX dX10_number_26 (by decide) (fun h9 => absurd h9 ((by decide))) (fun _ => ?_)
    refine g_iload_n (i := 3) hX dX10_number_29 rfl rfl ?_
    refine g_i2l hX dX10_number_30 ?_
    refine g_lconst (v := 0) hX dX10_number_31 (by decide) ?_
    refine g_ldc2_w hX ccX10_114 dX10_number_32 ?_
    refine sX10_87 hX ⟨Nat.le_of_ble_eq_true rfl, Nat.le_of_ble_eq_true rfl⟩ (Nat.le_of_ble_eq_true rfl) dX10_number_35 (c3 _) ?_
    refine g_if_ne (tgt := 44) hX dX10_number_38 (by decide) (fun _ => ?_) (fun h9 => absurd h9 ((by decide)))
    refine g_aload_n (i := 0) hX dX10_number_44 rfl rfl ?_
    refine eX10_261 hX ⟨Nat.le_of_ble_eq_true rfl, Nat.le_of_ble_eq_true rfl⟩ (Nat.le_of_ble_eq_true rfl) dX10_number_45 ((c_layHalves h40 b')) (fun T hT => ?_)
    have r0 := hre (S0 S1) T b' b2' hT.1 hT.2.1
    have e28 : T.1 67 28 = nI c := by rw [hT.2.2.r (k := 67) (by decide), (hF0.s (k := 67) (j := 28) (by decide)).1, ← hs0]; exact hc
    have e29 : T.1 67 29 = S.1 60 1 := by rw [hT.2.2.r (k := 67) (by decide), (hF0.s (k := 67) (j := 29) (by decide)).1, hs1]
    have e30 : T.1 67 30 = S.1 60 2 := by rw [hT.2.2.r (k := 67) (by decide), (hF0.s (k := 67) (j := 30) (by decide)).1, hs2]
    have hsv := c_serve (Γ := Γ) (S := T) (c := c) (k := k) (show r < 5 by omega) hn0 r0 hnm0 hk e28 hc6
    rw [e29, e30] at hsv
    refine g_aload_n (i := 0) hX dX10_number_48 rfl rfl ?_
    refine g_iload_n (i := 1) hX dX10_number_49 rfl rfl ?_
    refine g_iload_n (i := 3) hX dX10_number_50 rfl rfl ?_
    refine eX10_264 hX ⟨Nat.le_of_ble_eq_true rfl, Nat.le_of_ble_eq_true rfl⟩ (Nat.le_of_ble_eq_true rfl) dX10_number_51 (hsv) (fun U hU => ?_)
    refine g_aload_n (i := 0) hX dX10_number_54 rfl rfl ?_
    refine fX10_60 hX dX10_number_55 ?_
    refine g_iload_n (i := 2) hX dX10_number_58 rfl rfl ?_
    refine g_ialoadN hX (ia81) rfl (hw) (by first | decide | assumption | omega) dX10_number_59 ?_
    refine g_iret (st := []) hX hE rfl dX10_number_60 (⟨_, rfl, hU.1.at hw, (hR0.laid hT.2.1 hT.2.2).q hU.2 (by decide)⟩)
