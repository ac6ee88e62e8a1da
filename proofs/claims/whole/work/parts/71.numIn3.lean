/-! the reference's number in a telling: a number stands there -/
theorem c_numberIn_2 {Γ : GG} {S : St} {n g lo hi : Nat} {b : Nat → Nat} {Q : St → Prop} (hb : BtR S n b) (hg : g ≤ n) (h0 : S.1 67 20 = 0) (ht : Tok S b n g) (hk : tkK b n g = 2) (hlo : lo < 100) (hhi : hi < 100)
    (hQ : (lo ≤ valN b g (tkE b n g - g) ∧ valN b g (tkE b n g - g) ≤ hi) → kX10_next Γ [.ref (Γ.1 67)] S (eV Q)) (hB : ¬ (lo ≤ valN b g (tkE b n g - g) ∧ valN b g (tkE b n g - g) ≤ hi) → Q (pI (pI S 67 20 2) 67 21 (nI g))) :
    kX10_numberIn Γ [.ref (Γ.1 67), .int (nI lo), .int (nI hi)] S (eI (fun v S1 => v = nI (valN b g (tkE b n g - g)) ∧ Q S1)) := by
  refine oX10_numberIn (fun X hX hE => ?_)
  obtain ⟨k1, k2⟩ := tk_fig hk
  obtain ⟨e1, e2⟩ := tkE_ok (b := b) hg
  have h400 := hb.1
  have tk3 : S.1 67 17 = 3 := by rw [ht.2.2.2, hk]; rfl
  have hv := valN_le (b := b) (f := g) (tkE b n g - g)
  have A56 : G Γ X S 56 [(0, .ref (Γ.1 67)), (1, .int (nI lo)), (2, .int (nI hi)), (3, .int (nI (valN b g (tkE b n g - g)))), (4, .int (nI (tkE b n g)))] [] := by
    generalize valN b g (tkE b n g - g) = v at *
    by_cases q : lo ≤ v ∧ v ≤ hi
    · refine g_aload_n (i := 0) hX dX10_numberIn_56 rfl rfl ?_
      refine fX10_149 hX dX10_numberIn_57 ?_
      refine g_iconst hX dX10_numberIn_60 ic3 ?_
      refine g_icmp_ne (tgt := 81) hX dX10_numberIn_61 (by decide) (fun h9 => absurd ((by rw [tk3])) h9) (fun _ => ?_)
      refine g_iload_n (i := 3) hX dX10_numberIn_64 rfl rfl ?_
      refine g_i2l hX dX10_numberIn_65 ?_
      refine g_iload_n (i := 1) hX dX10_numberIn_66 rfl rfl ?_
      refine g_i2l hX dX10_numberIn_67 ?_
      refine g_iload_n (i := 2) hX dX10_numberIn_68 rfl rfl ?_
      refine g_i2l hX dX10_numberIn_69 ?_
      refine sX10_87 hX ⟨Nat.le_of_ble_eq_true rfl, Nat.le_of_ble_eq_true rfl⟩ (Nat.le_of_ble_eq_true rfl) dX10_numberIn_70 (c_inI_t (by rw [l_i, nI_toInt (by omega), nI_toInt (by omega)]; omega) (by rw [l_i, nI_toInt (by omega), nI_toInt (by omega)]; omega)) ?_
      refine g_if_ne (tgt := 81) hX dX10_numberIn_73 (by decide) (fun _ => ?_) (fun h9 => absurd h9 ((by decide)))
      refine g_aload_n (i := 0) hX dX10_numberIn_81 rfl rfl ?_
      refine g_aload_n (i := 0) hX dX10_numberIn_82 rfl rfl ?_
      refine fX10_149 hX dX10_numberIn_83 ?_
      refine g_iconst hX dX10_numberIn_86 ic3 ?_
      refine g_icmp_ne (tgt := 94) hX dX10_numberIn_87 (by decide) (fun h9 => absurd ((by rw [tk3])) h9) (fun _ => ?_)
      refine g_iconst hX dX10_numberIn_90 ic1 ?_
      refine g_goto (tgt := 95) hX dX10_numberIn_91 (by decide) ?_
      refine eX10_174 hX ⟨Nat.le_of_ble_eq_true rfl, Nat.le_of_ble_eq_true rfl⟩ (Nat.le_of_ble_eq_true rfl) dX10_numberIn_95 ((c_must_t h0 (hQ q))) (fun T hT => ?_)
      refine g_iload_n (i := 3) hX dX10_numberIn_98 rfl rfl ?_
      refine g_iret (st := []) hX hE rfl dX10_numberIn_99 (⟨_, rfl, rfl, hT⟩)
    · have cb := c_bad0 (Γ := Γ) (x := 2) h0
      rw [ht.1] at cb
      have f3 : (pI (pI S 67 20 2) 67 21 (nI g)).1 67 17 = 3 := by rw [pR_self, upd_ne _ _ (by decide), pR_self, upd_ne _ _ (by decide)]; exact tk3
      have f0 : ¬ (pI (pI S 67 20 2) 67 21 (nI g)).1 67 20 = 0 := by rw [pR_self, upd_ne _ _ (by decide), pR_self, upd_self]; decide
      refine g_aload_n (i := 0) hX dX10_numberIn_56 rfl rfl ?_
      refine fX10_149 hX dX10_numberIn_57 ?_
      refine g_iconst hX dX10_numberIn_60 ic3 ?_
      refine g_icmp_ne (tgt := 81) hX dX10_numberIn_61 (by decide) (fun h9 => absurd ((by rw [tk3])) h9) (fun _ => ?_)
      refine g_iload_n (i := 3) hX dX10_numberIn_64 rfl rfl ?_
      refine g_i2l hX dX10_numberIn_65 ?_
      refine g_iload_n (i := 1) hX dX10_numberIn_66 rfl rfl ?_
      refine g_i2l hX dX10_numberIn_67 ?_
      refine g_iload_n (i := 2) hX dX10_numberIn_68 rfl rfl ?_
      refine g_i2l hX dX10_numberIn_69 ?_
      refine sX10_87 hX ⟨Nat.le_of_ble_eq_true rfl, Nat.le_of_ble_eq_true rfl⟩ (Nat.le_of_ble_eq_true rfl) dX10_numberIn_70 (c_inI_f (by rw [l_i, l_i, nI_toInt (by omega), nI_toInt (by omega), nI_toInt (by omega)]; omega)) ?_
      refine g_if_ne (tgt := 81) hX dX10_numberIn_73 (by decide) (fun h9 => absurd (rfl) h9) (fun _ => ?_)
      refine g_aload_n (i := 0) hX dX10_numberIn_76 rfl rfl ?_
      refine g_iconst hX dX10_numberIn_77 ic2 ?_
      refine sX10_167 hX ⟨Nat.le_of_ble_eq_true rfl, Nat.le_of_ble_eq_true rfl⟩ (Nat.le_of_ble_eq_true rfl) dX10_numberIn_78 (cb) ?_
      refine g_aload_n (i := 0) hX dX10_numberIn_81 rfl rfl ?_
      refine g_aload_n (i := 0) hX dX10_numberIn_82 rfl rfl ?_
      refine fX10_149 hX dX10_numberIn_83 ?_
      refine g_iconst hX dX10_numberIn_86 ic3 ?_
      refine g_icmp_ne (tgt := 94) hX dX10_numberIn_87 (by decide) (fun h9 => absurd ((by rw [f3])) h9) (fun _ => ?_)
      refine g_iconst hX dX10_numberIn_90 ic1 ?_
      refine g_goto (tgt := 95) hX dX10_numberIn_91 (by decide) ?_
      refine sX10_174 hX ⟨Nat.le_of_ble_eq_true rfl, Nat.le_of_ble_eq_true rfl⟩ (Nat.le_of_ble_eq_true rfl) dX10_numberIn_95 (c_must_x f0) ?_
      refine g_iload_n (i := 3) hX dX10_numberIn_98 rfl rfl ?_
      refine g_iret (st := []) hX hE rfl dX10_numberIn_99 (⟨_, rfl, rfl, hB q⟩)
  have loop : ∀ d k, k + d = tkE b n g - g → G Γ X S 17 [(0, .ref (Γ.1 67)), (1, .int (nI lo)), (2, .int (nI hi)), (3, .int (nI (valN b g k))), (4, .int (nI (g + k)))] [] := by
    intro d
    induction d with
    | zero =>
      intro k hkd
      obtain rfl : k = tkE b n g - g := by omega
      rw [show g + (tkE b n g - g) = tkE b n g by omega]
      refine g_iload hX dX10_numberIn_17 rfl ?_
      refine g_aload_n (i := 0) hX dX10_numberIn_19 rfl rfl ?_
      refine fX10_158 hX dX10_numberIn_20 ?_
      refine g_icmp_ge (tgt := 56) hX dX10_numberIn_23 (by decide) (fun _ => ?_) (fun h9 => absurd ((by rw [ht.2.2.1]; exact Int32.le_refl _)) h9)
      exact A56
    | succ d ih =>
      intro k hkd
      obtain ⟨s1, s2, s3⟩ := val_step (b := b) (f := g) (k := k) (by omega) (fun j hj => k2 j (by omega))
      have ih2 := ih (k + 1) (by omega)
      rw [s1] at ih2
      have hvk := valN_le (b := b) (f := g) k
      refine g_iload hX dX10_numberIn_17 rfl ?_
      refine g_aload_n (i := 0) hX dX10_numberIn_19 rfl rfl ?_
      refine fX10_158 hX dX10_numberIn_20 ?_
      refine g_icmp_ge (tgt := 56) hX dX10_numberIn_23 (by decide) (fun h9 => absurd h9 ((by rw [ht.2.2.1]; exact nI_ge (by omega) (by omega)))) (fun _ => ?_)
      refine g_aload_n (i := 0) hX dX10_numberIn_26 rfl rfl ?_
      refine fX10_149 hX dX10_numberIn_27 ?_
      refine g_iconst hX dX10_numberIn_30 ic3 ?_
      refine g_icmp_ne (tgt := 56) hX dX10_numberIn_31 (by decide) (fun h9 => absurd ((by rw [tk3])) h9) (fun _ => ?_)
      refine g_bipush hX dX10_numberIn_34 bp10 ?_
      refine g_iload_n (i := 3) hX dX10_numberIn_36 rfl rfl ?_
      refine g_imul hX dX10_numberIn_37 ?_
      refine g_aload_n (i := 0) hX dX10_numberIn_38 rfl rfl ?_
      refine fX10_41 hX dX10_numberIn_39 ?_
      refine g_iload hX dX10_numberIn_42 rfl ?_
      refine g_ialoadN hX (ia78) rfl ((show g + k < 400 by omega)) (by first | decide | assumption | omega) dX10_numberIn_44 ?_
      refine g_iadd hX dX10_numberIn_45 ?_
      refine g_bipush hX dX10_numberIn_46 bp48 ?_
      refine g_isub hX dX10_numberIn_48 ?_
      refine g_istore_n (i := 3) hX dX10_numberIn_49 rfl (by decide) rfl ?_
      rw [(hb.2.2 (g + k) (by omega)).1, show (10 : Int32) = nI 10 from rfl, nI_mul, nI_add2, show (48 : Int32) = nI 48 from rfl, nI_sub (by omega), show 10 * valN b g k + b (g + k) - 48 = 10 * valN b g k + (b (g + k) - 48) by omega]
      refine g_iinc hX dX10_numberIn_50 rfl ic1 (by decide) rfl ?_
      refine g_goto (tgt := 17) hX dX10_numberIn_53 (by decide) ?_
      rw [nI_1]
      exact ih2
  refine g_aload_n (i := 0) hX dX10_numberIn_0 rfl rfl ?_
  refine fX10_161 hX dX10_numberIn_1 ?_
  refine g_if_le (tgt := 9) hX dX10_numberIn_4 (by decide) (fun _ => ?_) (fun h9 => absurd ((by rw [h0]; decide)) h9)
  refine g_iconst hX dX10_numberIn_9 ic0 ?_
  refine g_istore_n (i := 3) hX dX10_numberIn_10 rfl (by decide) rfl ?_
  refine g_aload_n (i := 0) hX dX10_numberIn_11 rfl rfl ?_
  refine fX10_146 hX dX10_numberIn_12 ?_
  refine g_istore hX dX10_numberIn_15 (by decide) rfl ?_
  rw [ht.1]
  exact loop _ 0 (Nat.zero_add _)
