theorem c_asksR_loop {Γ : GG} {X : XT} {fr lo : Nat} {T : St} {s i n : Nat} {a0 : Int32} {x1 x2 x3 : Int32} (hX : Cx Γ RX10 cX10_asks 6 (some .int) 2 45 X) (hs : s < 8) (hi : i + 3 * n ≤ 60) (f : Nat → Int32) (hf : ∀ j, j < 60 → T.1 70 (60 * s + j) = f j)
    (good : askOk f i n a0 → ∀ a v, G Γ X T 215 [(0, .ref (Γ.1 67)), (1, .int (nI s)), (2, .int (nI i)), (3, .int (nI n)), (4, .int a), (5, .int v)] [])
    (bad : ¬ askOk f i n a0 → ∀ a v, G Γ X T 197 [(0, .ref (Γ.1 67)), (1, .int (nI s)), (2, .int (nI i)), (3, .int (nI n)), (4, .int a), (5, .int v)] []) :
    ∀ d k a, k + d = n → (askOk f (i + 3 * k) d a ↔ askOk f i n a0) → G Γ X T 122 [(0, .ref (Γ.1 67)), (1, .int (nI s)), (2, .int (nI i)), (3, .int (nI n)), (4, .int a), (5, .int (nI (60 * s + i + 3 * k)))] [] := by
  have e3 : (60 : Int32) * nI s + nI i + 3 * nI n = nI (60 * s + i + 3 * n) := by rw [nI_60, show (3 : Int32) = nI 3 from rfl, nI_mul, nI_add2]
  intro d
  induction d with
  | zero =>
    intro k a hk hi
    obtain rfl : k = n := by omega
    refine g_iload hX dX10_asks_122 rfl ?_
    refine g_bipush hX dX10_asks_124 bp60 ?_
    refine g_iload_n (i := 1) hX dX10_asks_126 rfl rfl ?_
    refine g_imul hX dX10_asks_127 ?_
    refine g_iload_n (i := 2) hX dX10_asks_128 rfl rfl ?_
    refine g_iadd hX dX10_asks_129 ?_
    refine g_iconst hX dX10_asks_130 ic3 ?_
    refine g_iload_n (i := 3) hX dX10_asks_131 rfl rfl ?_
    refine g_imul hX dX10_asks_132 ?_
    refine g_iadd hX dX10_asks_133 ?_
    refine g_icmp_ge (tgt := 215) hX dX10_asks_134 (by decide) (fun _ => ?_) (fun h9 => absurd ((by rw [e3]; exact nI_le (Nat.le_refl _) (by omega))) h9)
    exact good (hi.mp trivial) _ _
  | succ d ih =>
    intro k a hk hi
    have nb : ∀ {q : Prop}, ¬ q → (askOk f (i + 3 * k) (d + 1) a → q) → ¬ askOk f i n a0 := fun hq h z => hq (h (hi.mpr z))
    have g0 : T.1 70 (60 * s + i + 3 * k) = f (i + 3 * k) := by rw [← hf (i + 3 * k) (by omega)]; exact congrArg (T.1 70) (by omega)
    have g1 : T.1 70 (60 * s + i + 3 * k + 1) = f (i + 3 * k + 1) := by rw [← hf (i + 3 * k + 1) (by omega)]; exact congrArg (T.1 70) (by omega)
    have g2 : T.1 70 (60 * s + i + 3 * k + 2) = f (i + 3 * k + 2) := by rw [← hf (i + 3 * k + 2) (by omega)]; exact congrArg (T.1 70) (by omega)
    have e2 : nI (60 * s + i + 3 * k) + 2 = nI (60 * s + i + 3 * k + 2) := by rw [show (2 : Int32) = nI 2 from rfl, nI_add2]
    have l9 : (9999 : Int64).toInt = 9999 := by decide
    by_cases hA : a ≤ f (i + 3 * k) ∧ f (i + 3 * k) ≤ 9999
    case neg =>
      refine g_iload hX dX10_asks_122 rfl ?_
      refine g_bipush hX dX10_asks_124 bp60 ?_
      refine g_iload_n (i := 1) hX dX10_asks_126 rfl rfl ?_
      refine g_imul hX dX10_asks_127 ?_
      refine g_iload_n (i := 2) hX dX10_asks_128 rfl rfl ?_
      refine g_iadd hX dX10_asks_129 ?_
      refine g_iconst hX dX10_asks_130 ic3 ?_
      refine g_iload_n (i := 3) hX dX10_asks_131 rfl rfl ?_
      refine g_imul hX dX10_asks_132 ?_
      refine g_iadd hX dX10_asks_133 ?_
      refine g_icmp_ge (tgt := 215) hX dX10_asks_134 (by decide) (fun h9 => absurd h9 ((by rw [e3]; exact nI_ge (by omega) (by omega)))) (fun _ => ?_)
      refine g_aload_n (i := 0) hX dX10_asks_137 rfl rfl ?_
      refine fX10_16 hX dX10_asks_138 ?_
      refine g_iload hX dX10_asks_141 rfl ?_
      refine g_ialoadN hX (ia70) rfl ((show 60 * s + i + 3 * k < 480 by omega)) (by first | decide | assumption | omega) dX10_asks_143 ?_
      refine g_i2l hX dX10_asks_144 ?_
      refine g_iload hX dX10_asks_145 rfl ?_
      refine g_i2l hX dX10_asks_147 ?_
      refine g_ldc2_w hX ccX10_110 dX10_asks_148 ?_
      refine sX10_87 hX ⟨Nat.le_of_ble_eq_true rfl, Nat.le_of_ble_eq_true rfl⟩ (Nat.le_of_ble_eq_true rfl) dX10_asks_151 (c_inI_f (by rw [g0, l_i, l9]; intro z; exact hA ⟨by rw [i_le]; exact z.1, by rw [i_le]; exact z.2⟩)) ?_
      refine g_if_eq (tgt := 197) hX dX10_asks_154 (by decide) (fun _ => ?_) (fun h9 => absurd (rfl) h9)
      exact bad (nb hA (fun h => ⟨h.1.1, h.1.2.1⟩)) _ _
    have hin1 : kX10_in Γ [.long (T.1 70 (60 * s + i + 3 * k)).toInt64, .long a.toInt64, .long 9999] T (rI 1 T) := c_inI_t (by rw [g0, l_i]; exact i_le.mp hA.1) (by rw [g0, l9]; exact i_le.mp hA.2)
    by_cases hB : inB (f (i + 3 * k + 1)) 10
    case neg =>
      have hB2 := hB
      rw [inB_iff (by decide)] at hB2
      refine g_iload hX dX10_asks_122 rfl ?_
      refine g_bipush hX dX10_asks_124 bp60 ?_
      refine g_iload_n (i := 1) hX dX10_asks_126 rfl rfl ?_
      refine g_imul hX dX10_asks_127 ?_
      refine g_iload_n (i := 2) hX dX10_asks_128 rfl rfl ?_
      refine g_iadd hX dX10_asks_129 ?_
      refine g_iconst hX dX10_asks_130 ic3 ?_
      refine g_iload_n (i := 3) hX dX10_asks_131 rfl rfl ?_
      refine g_imul hX dX10_asks_132 ?_
      refine g_iadd hX dX10_asks_133 ?_
      refine g_icmp_ge (tgt := 215) hX dX10_asks_134 (by decide) (fun h9 => absurd h9 ((by rw [e3]; exact nI_ge (by omega) (by omega)))) (fun _ => ?_)
      refine g_aload_n (i := 0) hX dX10_asks_137 rfl rfl ?_
      refine fX10_16 hX dX10_asks_138 ?_
      refine g_iload hX dX10_asks_141 rfl ?_
      refine g_ialoadN hX (ia70) rfl ((show 60 * s + i + 3 * k < 480 by omega)) (by first | decide | assumption | omega) dX10_asks_143 ?_
      refine g_i2l hX dX10_asks_144 ?_
      refine g_iload hX dX10_asks_145 rfl ?_
      refine g_i2l hX dX10_asks_147 ?_
      refine g_ldc2_w hX ccX10_110 dX10_asks_148 ?_
      refine sX10_87 hX ⟨Nat.le_of_ble_eq_true rfl, Nat.le_of_ble_eq_true rfl⟩ (Nat.le_of_ble_eq_true rfl) dX10_asks_151 (hin1) ?_
      refine g_if_eq (tgt := 197) hX dX10_asks_154 (by decide) (fun h9 => absurd h9 ((by decide))) (fun _ => ?_)
      refine g_aload_n (i := 0) hX dX10_asks_157 rfl rfl ?_
      refine fX10_16 hX dX10_asks_158 ?_
      refine g_iload hX dX10_asks_161 rfl ?_
      refine g_iconst hX dX10_asks_163 ic1 ?_
      refine g_iadd hX dX10_asks_164 ?_
      refine g_ialoadN hX (ia70) (nI_1 _) ((show 60 * s + i + 3 * k + 1 < 480 by omega)) (by first | decide | assumption | omega) dX10_asks_165 ?_
      refine g_i2l hX dX10_asks_166 ?_
      refine g_lconst (v := 0) hX dX10_asks_167 (by decide) ?_
      refine g_ldc2_w hX ccX10_112 dX10_asks_168 ?_
      refine sX10_87 hX ⟨Nat.le_of_ble_eq_true rfl, Nat.le_of_ble_eq_true rfl⟩ (Nat.le_of_ble_eq_true rfl) dX10_asks_171 (c_inI_f (by rw [g1, L0, show (9 : Int64).toInt = 9 by decide]; omega)) ?_
      refine g_if_eq (tgt := 197) hX dX10_asks_174 (by decide) (fun _ => ?_) (fun h9 => absurd (rfl) h9)
      exact bad (nb hB (fun h => h.1.2.2.1)) _ _
    have hB2 := hB
    rw [inB_iff (by decide)] at hB2
    have hin2 : kX10_in Γ [.long (T.1 70 (60 * s + i + 3 * k + 1)).toInt64, .long 0, .long 9] T (rI 1 T) := c_inI_t (by rw [g1, L0]; omega) (by rw [g1, show (9 : Int64).toInt = 9 by decide]; omega)
    by_cases hC : 1 ≤ f (i + 3 * k + 2) ∧ f (i + 3 * k + 2) ≤ 9
    case neg =>
      refine g_iload hX dX10_asks_122 rfl ?_
      refine g_bipush hX dX10_asks_124 bp60 ?_
      refine g_iload_n (i := 1) hX dX10_asks_126 rfl rfl ?_
      refine g_imul hX dX10_asks_127 ?_
      refine g_iload_n (i := 2) hX dX10_asks_128 rfl rfl ?_
      refine g_iadd hX dX10_asks_129 ?_
      refine g_iconst hX dX10_asks_130 ic3 ?_
      refine g_iload_n (i := 3) hX dX10_asks_131 rfl rfl ?_
      refine g_imul hX dX10_asks_132 ?_
      refine g_iadd hX dX10_asks_133 ?_
      refine g_icmp_ge (tgt := 215) hX dX10_asks_134 (by decide) (fun h9 => absurd h9 ((by rw [e3]; exact nI_ge (by omega) (by omega)))) (fun _ => ?_)
      refine g_aload_n (i := 0) hX dX10_asks_137 rfl rfl ?_
      refine fX10_16 hX dX10_asks_138 ?_
      refine g_iload hX dX10_asks_141 rfl ?_
      refine g_ialoadN hX (ia70) rfl ((show 60 * s + i + 3 * k < 480 by omega)) (by first | decide | assumption | omega) dX10_asks_143 ?_
      refine g_i2l hX dX10_asks_144 ?_
      refine g_iload hX dX10_asks_145 rfl ?_
      refine g_i2l hX dX10_asks_147 ?_
      refine g_ldc2_w hX ccX10_110 dX10_asks_148 ?_
      refine sX10_87 hX ⟨Nat.le_of_ble_eq_true rfl, Nat.le_of_ble_eq_true rfl⟩ (Nat.le_of_ble_eq_true rfl) dX10_asks_151 (hin1) ?_
      refine g_if_eq (tgt := 197) hX dX10_asks_154 (by decide) (fun h9 => absurd h9 ((by decide))) (fun _ => ?_)
      refine g_aload_n (i := 0) hX dX10_asks_157 rfl rfl ?_
      refine fX10_16 hX dX10_asks_158 ?_
      refine g_iload hX dX10_asks_161 rfl ?_
      refine g_iconst hX dX10_asks_163 ic1 ?_
      refine g_iadd hX dX10_asks_164 ?_
      refine g_ialoadN hX (ia70) (nI_1 _) ((show 60 * s + i + 3 * k + 1 < 480 by omega)) (by first | decide | assumption | omega) dX10_asks_165 ?_
      refine g_i2l hX dX10_asks_166 ?_
      refine g_lconst (v := 0) hX dX10_asks_167 (by decide) ?_
      refine g_ldc2_w hX ccX10_112 dX10_asks_168 ?_
      refine sX10_87 hX ⟨Nat.le_of_ble_eq_true rfl, Nat.le_of_ble_eq_true rfl⟩ (Nat.le_of_ble_eq_true rfl) dX10_asks_171 (hin2) ?_
      refine g_if_eq (tgt := 197) hX dX10_asks_174 (by decide) (fun h9 => absurd h9 ((by decide))) (fun _ => ?_)
      refine g_aload_n (i := 0) hX dX10_asks_177 rfl rfl ?_
      refine fX10_16 hX dX10_asks_178 ?_
      refine g_iload hX dX10_asks_181 rfl ?_
      refine g_iconst hX dX10_asks_183 ic2 ?_
      refine g_iadd hX dX10_asks_184 ?_
      refine g_ialoadN hX (ia70) (e2) ((show 60 * s + i + 3 * k + 2 < 480 by omega)) (by first | decide | assumption | omega) dX10_asks_185 ?_
      refine g_i2l hX dX10_asks_186 ?_
      refine g_lconst (v := 1) hX dX10_asks_187 (by decide) ?_
      refine g_ldc2_w hX ccX10_112 dX10_asks_188 ?_
      refine sX10_87 hX ⟨Nat.le_of_ble_eq_true rfl, Nat.le_of_ble_eq_true rfl⟩ (Nat.le_of_ble_eq_true rfl) dX10_asks_191 (c_inI_f (by rw [g2, show (1 : Int64).toInt = 1 by decide, show (9 : Int64).toInt = 9 by decide]; intro z; exact hC ⟨by rw [i_le, t1]; exact z.1, by rw [i_le, t9]; exact z.2⟩)) ?_
      refine g_if_ne (tgt := 200) hX dX10_asks_194 (by decide) (fun h9 => absurd (rfl) h9) (fun _ => ?_)
      exact bad (nb hC (fun h => h.1.2.2.2)) _ _
    refine g_iload hX dX10_asks_122 rfl ?_
    refine g_bipush hX dX10_asks_124 bp60 ?_
    refine g_iload_n (i := 1) hX dX10_asks_126 rfl rfl ?_
    refine g_imul hX dX10_asks_127 ?_
    refine g_iload_n (i := 2) hX dX10_asks_128 rfl rfl ?_
    refine g_iadd hX dX10_asks_129 ?_
    refine g_iconst hX dX10_asks_130 ic3 ?_
    refine g_iload_n (i := 3) hX dX10_asks_131 rfl rfl ?_
    refine g_imul hX dX10_asks_132 ?_
    refine g_iadd hX dX10_asks_133 ?_
    refine g_icmp_ge (tgt := 215) hX dX10_asks_134 (by decide) (fun h9 => absurd h9 ((by rw [e3]; exact nI_ge (by omega) (by omega)))) (fun _ => ?_)
    refine g_aload_n (i := 0) hX dX10_asks_137 rfl rfl ?_
    refine fX10_16 hX dX10_asks_138 ?_
    refine g_iload hX dX10_asks_141 rfl ?_
    refine g_ialoadN hX (ia70) rfl ((show 60 * s + i + 3 * k < 480 by omega)) (by first | decide | assumption | omega) dX10_asks_143 ?_
    refine g_i2l hX dX10_asks_144 ?_
    refine g_iload hX dX10_asks_145 rfl ?_
    refine g_i2l hX dX10_asks_147 ?_
    refine g_ldc2_w hX ccX10_110 dX10_asks_148 ?_
    refine sX10_87 hX ⟨Nat.le_of_ble_eq_true rfl, Nat.le_of_ble_eq_true rfl⟩ (Nat.le_of_ble_eq_true rfl) dX10_asks_151 (hin1) ?_
    refine g_if_eq (tgt := 197) hX dX10_asks_154 (by decide) (fun h9 => absurd h9 ((by decide))) (fun _ => ?_)
    refine g_aload_n (i := 0) hX dX10_asks_157 rfl rfl ?_
    refine fX10_16 hX dX10_asks_158 ?_
    refine g_iload hX dX10_asks_161 rfl ?_
    refine g_iconst hX dX10_asks_163 ic1 ?_
    refine g_iadd hX dX10_asks_164 ?_
    refine g_ialoadN hX (ia70) (nI_1 _) ((show 60 * s + i + 3 * k + 1 < 480 by omega)) (by first | decide | assumption | omega) dX10_asks_165 ?_
    refine g_i2l hX dX10_asks_166 ?_
    refine g_lconst (v := 0) hX dX10_asks_167 (by decide) ?_
    refine g_ldc2_w hX ccX10_112 dX10_asks_168 ?_
    refine sX10_87 hX ⟨Nat.le_of_ble_eq_true rfl, Nat.le_of_ble_eq_true rfl⟩ (Nat.le_of_ble_eq_true rfl) dX10_asks_171 (hin2) ?_
    refine g_if_eq (tgt := 197) hX dX10_asks_174 (by decide) (fun h9 => absurd h9 ((by decide))) (fun _ => ?_)
    refine g_aload_n (i := 0) hX dX10_asks_177 rfl rfl ?_
    refine fX10_16 hX dX10_asks_178 ?_
    refine g_iload hX dX10_asks_181 rfl ?_
    refine g_iconst hX dX10_asks_183 ic2 ?_
    refine g_iadd hX dX10_asks_184 ?_
    refine g_ialoadN hX (ia70) (e2) ((show 60 * s + i + 3 * k + 2 < 480 by omega)) (by first | decide | assumption | omega) dX10_asks_185 ?_
    refine g_i2l hX dX10_asks_186 ?_
    refine g_lconst (v := 1) hX dX10_asks_187 (by decide) ?_
    refine g_ldc2_w hX ccX10_112 dX10_asks_188 ?_
    refine sX10_87 hX ⟨Nat.le_of_ble_eq_true rfl, Nat.le_of_ble_eq_true rfl⟩ (Nat.le_of_ble_eq_true rfl) dX10_asks_191 (c_inI_t (by rw [g2, show (1 : Int64).toInt = 1 by decide, ← t1]; exact i_le.mp hC.1) (by rw [g2, show (9 : Int64).toInt = 9 by decide, ← t9]; exact i_le.mp hC.2)) ?_
    refine g_if_ne (tgt := 200) hX dX10_asks_194 (by decide) (fun _ => ?_) (fun h9 => absurd h9 ((by decide)))
    refine g_aload_n (i := 0) hX dX10_asks_200 rfl rfl ?_
    refine fX10_16 hX dX10_asks_201 ?_
    refine g_iload hX dX10_asks_204 rfl ?_
    refine g_ialoadN hX (ia70) rfl ((show 60 * s + i + 3 * k < 480 by omega)) (by first | decide | assumption | omega) dX10_asks_206 ?_
    refine g_istore hX dX10_asks_207 (by decide) rfl ?_
    refine g_iinc hX dX10_asks_209 rfl ic3 (by decide) rfl ?_
    refine g_goto (tgt := 122) hX dX10_asks_212 (by decide) ?_
    rw [show nI (60 * s + i + 3 * k) + 3 = nI (60 * s + i + 3 * (k + 1)) from by rw [show (3 : Int32) = nI 3 from rfl, nI_add2]; congr 1, g0]
    exact ih (k + 1) _ (by omega) ⟨fun h => hi.mp ⟨⟨hA.1, hA.2, hB, hC.1, hC.2⟩, h⟩, fun h => (hi.mpr h).2⟩
theorem step_asks {Γ : GG} (x1 x2 x3 : Int32) : Step (fun S P => kX9_asks Γ [.ref (Γ.1 48), .int x1, .int x2, .int x3] S P) (fun S P => kX10_asks Γ [.ref (Γ.1 67), .int x1, .int x2, .int x3] S P) := by
  intro S hR
  by_cases h1 : inB x1 8
  case neg =>
    refine ⟨-1000001, fun S1 => S1 = S, ?_, ?_⟩
    · refine oX9_asks (fun X hX hE => ?_)
      refine g_iload_n (i := 1) hX dX9_asks_0 rfl rfl ?_
      refine g_bipush hX dX9_asks_1 bp8 ?_
      refine sX9_96 hX ⟨Nat.le_of_ble_eq_true rfl, Nat.le_of_ble_eq_true rfl⟩ (Nat.le_of_ble_eq_true rfl) dX9_asks_3 (isB_f (by decide) h1) ?_
      refine g_if_eq (tgt := 20) hX dX9_asks_6 (by decide) (fun _ => ?_) (fun h9 => absurd (rfl) h9)
      refine g_ldc hX ccX9_100 dX9_asks_20 ?_
      refine g_iret (st := []) hX hE rfl dX9_asks_22 (⟨_, rfl, rfl, rfl⟩)
    · rintro S1 rfl
      refine oX10_asks (fun X hX hE => ?_)
      refine g_aload_n (i := 0) hX dX10_asks_0 rfl rfl ?_
      refine g_iconst hX dX10_asks_1 ic0 ?_
      refine pX10_78 hX dX10_asks_2 ?_
      refine g_iload_n (i := 1) hX dX10_asks_5 rfl rfl ?_
      refine sX10_91 hX ⟨Nat.le_of_ble_eq_true rfl, Nat.le_of_ble_eq_true rfl⟩ (Nat.le_of_ble_eq_true rfl) dX10_asks_6 (c_isSheet_f h1) ?_
      refine g_if_eq (tgt := 24) hX dX10_asks_9 (by decide) (fun _ => ?_) (fun h9 => absurd (rfl) h9)
      refine g_ldc hX ccX10_97 dX10_asks_24 ?_
      refine g_iret (st := []) hX hE rfl dX10_asks_26 (⟨_, rfl, rfl, hR.thrown⟩)
  obtain ⟨s, hs, rfl⟩ := h1
  by_cases h3 : 1 ≤ x3.toInt ∧ x3.toInt ≤ 20
  case neg =>
    refine ⟨-1000001, fun S1 => S1 = S, ?_, ?_⟩
    · refine oX9_asks (fun X hX hE => ?_)
      by_cases q : x3 < 1
      · refine g_iload_n (i := 1) hX dX9_asks_0 rfl rfl ?_
        refine g_bipush hX dX9_asks_1 bp8 ?_
        refine sX9_96 hX ⟨Nat.le_of_ble_eq_true rfl, Nat.le_of_ble_eq_true rfl⟩ (Nat.le_of_ble_eq_true rfl) dX9_asks_3 (isB_t hs (by decide)) ?_
        refine g_if_eq (tgt := 20) hX dX9_asks_6 (by decide) (fun h9 => absurd h9 ((by decide))) (fun _ => ?_)
        refine g_iload_n (i := 3) hX dX9_asks_9 rfl rfl ?_
        refine g_iconst hX dX9_asks_10 ic1 ?_
        refine g_icmp_lt (tgt := 20) hX dX9_asks_11 (by decide) (fun _ => ?_) (fun h9 => absurd (q) h9)
        refine g_ldc hX ccX9_100 dX9_asks_20 ?_
        refine g_iret (st := []) hX hE rfl dX9_asks_22 (⟨_, rfl, rfl, rfl⟩)
      · refine g_iload_n (i := 1) hX dX9_asks_0 rfl rfl ?_
        refine g_bipush hX dX9_asks_1 bp8 ?_
        refine sX9_96 hX ⟨Nat.le_of_ble_eq_true rfl, Nat.le_of_ble_eq_true rfl⟩ (Nat.le_of_ble_eq_true rfl) dX9_asks_3 (isB_t hs (by decide)) ?_
        refine g_if_eq (tgt := 20) hX dX9_asks_6 (by decide) (fun h9 => absurd h9 ((by decide))) (fun _ => ?_)
        refine g_iload_n (i := 3) hX dX9_asks_9 rfl rfl ?_
        refine g_iconst hX dX9_asks_10 ic1 ?_
        refine g_icmp_lt (tgt := 20) hX dX9_asks_11 (by decide) (fun h9 => absurd h9 (q)) (fun _ => ?_)
        refine g_iload_n (i := 3) hX dX9_asks_14 rfl rfl ?_
        refine g_bipush hX dX9_asks_15 bp20 ?_
        refine g_icmp_le (tgt := 23) hX dX9_asks_17 (by decide) (fun h9 => absurd h9 ((by rw [i_lt, t1] at q; rw [i_le, show (20 : Int32).toInt = 20 by decide]; omega))) (fun _ => ?_)
        refine g_ldc hX ccX9_100 dX9_asks_20 ?_
        refine g_iret (st := []) hX hE rfl dX9_asks_22 (⟨_, rfl, rfl, rfl⟩)
    · rintro S1 rfl
      refine oX10_asks (fun X hX hE => ?_)
      refine g_aload_n (i := 0) hX dX10_asks_0 rfl rfl ?_
      refine g_iconst hX dX10_asks_1 ic0 ?_
      refine pX10_78 hX dX10_asks_2 ?_
      refine g_iload_n (i := 1) hX dX10_asks_5 rfl rfl ?_
      refine sX10_91 hX ⟨Nat.le_of_ble_eq_true rfl, Nat.le_of_ble_eq_true rfl⟩ (Nat.le_of_ble_eq_true rfl) dX10_asks_6 (c_isSheet_t hs) ?_
      refine g_if_eq (tgt := 24) hX dX10_asks_9 (by decide) (fun h9 => absurd h9 ((by decide))) (fun _ => ?_)
      refine g_iload_n (i := 3) hX dX10_asks_12 rfl rfl ?_
      refine g_i2l hX dX10_asks_13 ?_
      refine g_lconst (v := 1) hX dX10_asks_14 (by decide) ?_
      refine g_ldc2_w hX ccX10_107 dX10_asks_15 ?_
      refine sX10_87 hX ⟨Nat.le_of_ble_eq_true rfl, Nat.le_of_ble_eq_true rfl⟩ (Nat.le_of_ble_eq_true rfl) dX10_asks_18 (c_inI_f (by rw [show (1 : Int64).toInt = 1 by decide, show (20 : Int64).toInt = 20 by decide]; exact h3)) ?_
      refine g_if_ne (tgt := 27) hX dX10_asks_21 (by decide) (fun h9 => absurd (rfl) h9) (fun _ => ?_)
      refine g_ldc hX ccX10_97 dX10_asks_24 ?_
      refine g_iret (st := []) hX hE rfl dX10_asks_26 (⟨_, rfl, rfl, hR.thrown⟩)
  obtain ⟨n, hn1, hn20, rfl⟩ : ∃ n, 1 ≤ n ∧ n ≤ 20 ∧ x3 = nI n := ⟨x3.toInt.toNat, by omega, by omega, nI_nat (by omega)⟩
  have cB : ∀ T : St, kX10_in Γ [.long (nI n).toInt64, .long 1, .long 20] T (rI 1 T) := fun T => c_inI_t (by rw [nI_toInt (by omega), show (1 : Int64).toInt = 1 by decide]; omega) (by rw [nI_toInt (by omega), show (20 : Int64).toInt = 20 by decide]; omega)
  have hn1' : ¬ nI n < 1 := by rw [i_lt, t1, nI_toInt (by omega)]; omega
  have hn20' : nI n ≤ 20 := by rw [i_le, show (20 : Int32).toInt = 20 by decide, nI_toInt (by omega)]; omega
  obtain ⟨N, tk, nm, gr, rc, rr, tok⟩ := hR.2.1
  have hN := rc.1
  have e40 : (40 : Int32) - S.1 16 4 = nI (40 - N) := by rw [rc.2.1, show (40 : Int32) = nI 40 from rfl, nI_sub hN]
  have eR0 : ∀ T : St, T.1 71 0 = nI N → T.1 71 0 + nI n = nI (N + n) := fun T h => by rw [h, nI_add2]
  by_cases hfull : N + n ≤ 40
  case neg =>
    refine ⟨-1000003, fun S1 => S1 = S, ?_, ?_⟩
    · refine oX9_asks (fun X hX hE => ?_)
      refine g_iload_n (i := 1) hX dX9_asks_0 rfl rfl ?_
      refine g_bipush hX dX9_asks_1 bp8 ?_
      refine sX9_96 hX ⟨Nat.le_of_ble_eq_true rfl, Nat.le_of_ble_eq_true rfl⟩ (Nat.le_of_ble_eq_true rfl) dX9_asks_3 (isB_t hs (by decide)) ?_
      refine g_if_eq (tgt := 20) hX dX9_asks_6 (by decide) (fun h9 => absurd h9 ((by decide))) (fun _ => ?_)
      refine g_iload_n (i := 3) hX dX9_asks_9 rfl rfl ?_
      refine g_iconst hX dX9_asks_10 ic1 ?_
      refine g_icmp_lt (tgt := 20) hX dX9_asks_11 (by decide) (fun h9 => absurd h9 (hn1')) (fun _ => ?_)
      refine g_iload_n (i := 3) hX dX9_asks_14 rfl rfl ?_
      refine g_bipush hX dX9_asks_15 bp20 ?_
      refine g_icmp_le (tgt := 23) hX dX9_asks_17 (by decide) (fun _ => ?_) (fun h9 => absurd (hn20') h9)
      refine g_iload_n (i := 3) hX dX9_asks_23 rfl rfl ?_
      refine g_bipush hX dX9_asks_24 bp40 ?_
      refine g_aload_n (i := 0) hX dX9_asks_26 rfl rfl ?_
      refine fX9_18 hX dX9_asks_27 ?_
      refine fX9_137 hX ir16 dX9_asks_30 ?_
      refine g_isub hX dX9_asks_33 ?_
      refine g_icmp_le (tgt := 40) hX dX9_asks_34 (by decide) (fun h9 => absurd h9 ((by rw [e40]; exact nI_ge (by omega) (by omega)))) (fun _ => ?_)
      refine g_ldc hX ccX9_140 dX9_asks_37 ?_
      refine g_iret (st := []) hX hE rfl dX9_asks_39 (⟨_, rfl, rfl, rfl⟩)
    · rintro S1 rfl
      refine oX10_asks (fun X hX hE => ?_)
      refine g_aload_n (i := 0) hX dX10_asks_0 rfl rfl ?_
      refine g_iconst hX dX10_asks_1 ic0 ?_
      refine pX10_78 hX dX10_asks_2 ?_
      refine g_iload_n (i := 1) hX dX10_asks_5 rfl rfl ?_
      refine sX10_91 hX ⟨Nat.le_of_ble_eq_true rfl, Nat.le_of_ble_eq_true rfl⟩ (Nat.le_of_ble_eq_true rfl) dX10_asks_6 (c_isSheet_t hs) ?_
      refine g_if_eq (tgt := 24) hX dX10_asks_9 (by decide) (fun h9 => absurd h9 ((by decide))) (fun _ => ?_)
      refine g_iload_n (i := 3) hX dX10_asks_12 rfl rfl ?_
      refine g_i2l hX dX10_asks_13 ?_
      refine g_lconst (v := 1) hX dX10_asks_14 (by decide) ?_
      refine g_ldc2_w hX ccX10_107 dX10_asks_15 ?_
      refine sX10_87 hX ⟨Nat.le_of_ble_eq_true rfl, Nat.le_of_ble_eq_true rfl⟩ (Nat.le_of_ble_eq_true rfl) dX10_asks_18 (cB _) ?_
      refine g_if_ne (tgt := 27) hX dX10_asks_21 (by decide) (fun _ => ?_) (fun h9 => absurd h9 ((by decide)))
      refine g_aload_n (i := 0) hX dX10_asks_27 rfl rfl ?_
      refine fX10_19 hX dX10_asks_28 ?_
      refine g_iconst hX dX10_asks_31 ic0 ?_
      refine g_ialoadN (i := 0) hX (ia71) rfl (by decide) (by first | decide | assumption | omega) dX10_asks_32 ?_
      refine g_iload_n (i := 3) hX dX10_asks_33 rfl rfl ?_
      refine g_iadd hX dX10_asks_34 ?_
      refine g_bipush hX dX10_asks_35 bp40 ?_
      refine g_icmp_le (tgt := 43) hX dX10_asks_37 (by decide) (fun h9 => absurd h9 ((by rw [eR0 (S0 S1) rr.1]; exact nI_ge (a := 40) (by omega) (by omega)))) (fun _ => ?_)
      refine g_ldc hX ccX10_109 dX10_asks_40 ?_
      refine g_iret (st := []) hX hE rfl dX10_asks_42 (⟨_, rfl, rfl, hR.thrown⟩)
  obtain ⟨z, z1, z2, z3, z4, z5⟩ := hR.1 s hs
  have hb := isheet s hs
  have eF : nI n ≤ (40 : Int32) - S.1 16 4 := by rw [e40]; exact nI_le (by omega) (by omega)
  have eF2 : ∀ T : St, T.1 71 0 = nI N → T.1 71 0 + nI n ≤ 40 := fun T h => by rw [eR0 T h]; exact nI_le (b := 40) (by omega) (by omega)
  rcases z5 with ⟨m1, m2⟩ | ⟨m1, l, l1, l2, l3⟩
  · refine ⟨-1000010 - 1, fun S1 => S1 = pI S 48 15 1, ?_, ?_⟩
    · refine oX9_asks (fun X hX hE => ?_)
      refine g_iload_n (i := 1) hX dX9_asks_0 rfl rfl ?_
      refine g_bipush hX dX9_asks_1 bp8 ?_
      refine sX9_96 hX ⟨Nat.le_of_ble_eq_true rfl, Nat.le_of_ble_eq_true rfl⟩ (Nat.le_of_ble_eq_true rfl) dX9_asks_3 (isB_t hs (by decide)) ?_
      refine g_if_eq (tgt := 20) hX dX9_asks_6 (by decide) (fun h9 => absurd h9 ((by decide))) (fun _ => ?_)
      refine g_iload_n (i := 3) hX dX9_asks_9 rfl rfl ?_
      refine g_iconst hX dX9_asks_10 ic1 ?_
      refine g_icmp_lt (tgt := 20) hX dX9_asks_11 (by decide) (fun h9 => absurd h9 (hn1')) (fun _ => ?_)
      refine g_iload_n (i := 3) hX dX9_asks_14 rfl rfl ?_
      refine g_bipush hX dX9_asks_15 bp20 ?_
      refine g_icmp_le (tgt := 23) hX dX9_asks_17 (by decide) (fun _ => ?_) (fun h9 => absurd (hn20') h9)
      refine g_iload_n (i := 3) hX dX9_asks_23 rfl rfl ?_
      refine g_bipush hX dX9_asks_24 bp40 ?_
      refine g_aload_n (i := 0) hX dX9_asks_26 rfl rfl ?_
      refine fX9_18 hX dX9_asks_27 ?_
      refine fX9_137 hX ir16 dX9_asks_30 ?_
      refine g_isub hX dX9_asks_33 ?_
      refine g_icmp_le (tgt := 40) hX dX9_asks_34 (by decide) (fun _ => ?_) (fun h9 => absurd (eF) h9)
      refine g_aload_n (i := 0) hX dX9_asks_40 rfl rfl ?_
      refine fX9_11 hX dX9_asks_41 ?_
      refine g_iload_n (i := 1) hX dX9_asks_44 rfl rfl ?_
      refine g_aaloadN hX (show 49 < NC by decide) (Or.inl rfl) (show lay 49 = (2, 8, [0, 2, 4, 6, 8, 10, 12, 14]) by decide) rfl (hs) (by decide) (shh s hs) dX9_asks_45 ?_
      refine g_astore hX dX9_asks_46 (by decide) rfl ?_
      refine g_aload hX dX9_asks_48 rfl ?_
      refine fX9_112 hX hb dX9_asks_50 ?_
      refine g_if_eq (tgt := 62) hX dX9_asks_53 (by decide) (fun h9 => absurd h9 ((by rw [m1]; decide))) (fun _ => ?_)
      refine g_aload_n (i := 0) hX dX9_asks_56 rfl rfl ?_
      refine g_iconst hX dX9_asks_57 ic1 ?_
      refine sX9_101 hX ⟨Nat.le_of_ble_eq_true rfl, Nat.le_of_ble_eq_true rfl⟩ (Nat.le_of_ble_eq_true rfl) dX9_asks_58 (c_finding) ?_
      refine g_iret (st := []) hX hE rfl dX9_asks_61 (⟨_, rfl, rfl, rfl⟩)
    · rintro S1 rfl
      refine oX10_asks (fun X hX hE => ?_)
      refine g_aload_n (i := 0) hX dX10_asks_0 rfl rfl ?_
      refine g_iconst hX dX10_asks_1 ic0 ?_
      refine pX10_78 hX dX10_asks_2 ?_
      refine g_iload_n (i := 1) hX dX10_asks_5 rfl rfl ?_
      refine sX10_91 hX ⟨Nat.le_of_ble_eq_true rfl, Nat.le_of_ble_eq_true rfl⟩ (Nat.le_of_ble_eq_true rfl) dX10_asks_6 (c_isSheet_t hs) ?_
      refine g_if_eq (tgt := 24) hX dX10_asks_9 (by decide) (fun h9 => absurd h9 ((by decide))) (fun _ => ?_)
      refine g_iload_n (i := 3) hX dX10_asks_12 rfl rfl ?_
      refine g_i2l hX dX10_asks_13 ?_
      refine g_lconst (v := 1) hX dX10_asks_14 (by decide) ?_
      refine g_ldc2_w hX ccX10_107 dX10_asks_15 ?_
      refine sX10_87 hX ⟨Nat.le_of_ble_eq_true rfl, Nat.le_of_ble_eq_true rfl⟩ (Nat.le_of_ble_eq_true rfl) dX10_asks_18 (cB _) ?_
      refine g_if_ne (tgt := 27) hX dX10_asks_21 (by decide) (fun _ => ?_) (fun h9 => absurd h9 ((by decide)))
      refine g_aload_n (i := 0) hX dX10_asks_27 rfl rfl ?_
      refine fX10_19 hX dX10_asks_28 ?_
      refine g_iconst hX dX10_asks_31 ic0 ?_
      refine g_ialoadN (i := 0) hX (ia71) rfl (by decide) (by first | decide | assumption | omega) dX10_asks_32 ?_
      refine g_iload_n (i := 3) hX dX10_asks_33 rfl rfl ?_
      refine g_iadd hX dX10_asks_34 ?_
      refine g_bipush hX dX10_asks_35 bp40 ?_
      refine g_icmp_le (tgt := 43) hX dX10_asks_37 (by decide) (fun _ => ?_) (fun h9 => absurd (eF2 (S0 (pI S 48 15 1)) rr.1) h9)
      refine g_aload_n (i := 0) hX dX10_asks_43 rfl rfl ?_
      refine fX10_7 hX dX10_asks_44 ?_
      refine g_iload_n (i := 1) hX dX10_asks_47 rfl rfl ?_
      refine g_ialoadN hX (ia68) rfl (hs) (by first | decide | assumption | omega) dX10_asks_48 ?_
      refine g_if_ge (tgt := 58) hX dX10_asks_49 (by decide) (fun h9 => absurd h9 ((show ¬ 0 ≤ S.1 68 s by rw [m2]; decide))) (fun _ => ?_)
      refine g_aload_n (i := 0) hX dX10_asks_52 rfl rfl ?_
      refine g_iconst hX dX10_asks_53 ic1 ?_
      refine sX10_98 hX ⟨Nat.le_of_ble_eq_true rfl, Nat.le_of_ble_eq_true rfl⟩ (Nat.le_of_ble_eq_true rfl) dX10_asks_54 (c_findingR) ?_
      refine g_iret (st := []) hX hE rfl dX10_asks_57 (⟨_, rfl, rfl, hR.find (x := 1) (((Fq.rf.I (by decide)).I (by decide)).I (by decide)) rfl rfl⟩)
  have e3n : (3 : Int32) * nI n = nI (3 * n) := by rw [show (3 : Int32) = nI 3 from rfl, nI_mul]
  by_cases hpl : places x2 (nI (3 * n)) z
  case neg =>
    refine ⟨-1000010 - 2, fun S1 => S1 = pI S 48 15 2, ?_, ?_⟩
    · refine oX9_asks (fun X hX hE => ?_)
      refine g_iload_n (i := 1) hX dX9_asks_0 rfl rfl ?_
      refine g_bipush hX dX9_asks_1 bp8 ?_
      refine sX9_96 hX ⟨Nat.le_of_ble_eq_true rfl, Nat.le_of_ble_eq_true rfl⟩ (Nat.le_of_ble_eq_true rfl) dX9_asks_3 (isB_t hs (by decide)) ?_
      refine g_if_eq (tgt := 20) hX dX9_asks_6 (by decide) (fun h9 => absurd h9 ((by decide))) (fun _ => ?_)
      refine g_iload_n (i := 3) hX dX9_asks_9 rfl rfl ?_
      refine g_iconst hX dX9_asks_10 ic1 ?_
      refine g_icmp_lt (tgt := 20) hX dX9_asks_11 (by decide) (fun h9 => absurd h9 (hn1')) (fun _ => ?_)
      refine g_iload_n (i := 3) hX dX9_asks_14 rfl rfl ?_
      refine g_bipush hX dX9_asks_15 bp20 ?_
      refine g_icmp_le (tgt := 23) hX dX9_asks_17 (by decide) (fun _ => ?_) (fun h9 => absurd (hn20') h9)
      refine g_iload_n (i := 3) hX dX9_asks_23 rfl rfl ?_
      refine g_bipush hX dX9_asks_24 bp40 ?_
      refine g_aload_n (i := 0) hX dX9_asks_26 rfl rfl ?_
      refine fX9_18 hX dX9_asks_27 ?_
      refine fX9_137 hX ir16 dX9_asks_30 ?_
      refine g_isub hX dX9_asks_33 ?_
      refine g_icmp_le (tgt := 40) hX dX9_asks_34 (by decide) (fun _ => ?_) (fun h9 => absurd (eF) h9)
      refine g_aload_n (i := 0) hX dX9_asks_40 rfl rfl ?_
      refine fX9_11 hX dX9_asks_41 ?_
      refine g_iload_n (i := 1) hX dX9_asks_44 rfl rfl ?_
      refine g_aaloadN hX (show 49 < NC by decide) (Or.inl rfl) (show lay 49 = (2, 8, [0, 2, 4, 6, 8, 10, 12, 14]) by decide) rfl (hs) (by decide) (shh s hs) dX9_asks_45 ?_
      refine g_astore hX dX9_asks_46 (by decide) rfl ?_
      refine g_aload hX dX9_asks_48 rfl ?_
      refine fX9_112 hX hb dX9_asks_50 ?_
      refine g_if_eq (tgt := 62) hX dX9_asks_53 (by decide) (fun _ => ?_) (fun h9 => absurd (m1) h9)
      refine g_aload hX dX9_asks_62 rfl ?_
      refine g_iload_n (i := 2) hX dX9_asks_64 rfl rfl ?_
      refine g_iconst hX dX9_asks_65 ic3 ?_
      refine g_iload_n (i := 3) hX dX9_asks_66 rfl rfl ?_
      refine g_imul hX dX9_asks_67 ?_
      refine sX9_115 hX hb ⟨Nat.le_of_ble_eq_true rfl, Nat.le_of_ble_eq_true rfl⟩ (Nat.le_of_ble_eq_true rfl) dX9_asks_68 ((by rw [e3n]; exact c_hasPlaces_f hb z2 z1 hpl)) ?_
      refine g_if_ne (tgt := 80) hX dX9_asks_71 (by decide) (fun h9 => absurd (rfl) h9) (fun _ => ?_)
      refine g_aload_n (i := 0) hX dX9_asks_74 rfl rfl ?_
      refine g_iconst hX dX9_asks_75 ic2 ?_
      refine sX9_101 hX ⟨Nat.le_of_ble_eq_true rfl, Nat.le_of_ble_eq_true rfl⟩ (Nat.le_of_ble_eq_true rfl) dX9_asks_76 (c_finding) ?_
      refine g_iret (st := []) hX hE rfl dX9_asks_79 (⟨_, rfl, rfl, rfl⟩)
    · rintro S1 rfl
      refine oX10_asks (fun X hX hE => ?_)
      have hend : G Γ X (S0 (pI S 48 15 2)) 80 [(0, .ref (Γ.1 67)), (1, .int (nI s)), (2, .int x2), (3, .int (nI n))] [] := by
        refine g_aload_n (i := 0) hX dX10_asks_80 rfl rfl ?_
        refine g_iconst hX dX10_asks_81 ic2 ?_
        refine sX10_98 hX ⟨Nat.le_of_ble_eq_true rfl, Nat.le_of_ble_eq_true rfl⟩ (Nat.le_of_ble_eq_true rfl) dX10_asks_82 (c_findingR) ?_
        refine g_iret (st := []) hX hE rfl dX10_asks_85 (⟨_, rfl, rfl, hR.find (x := 2) (((Fq.rf.I (by decide)).I (by decide)).I (by decide)) rfl rfl⟩)
      refine g_aload_n (i := 0) hX dX10_asks_0 rfl rfl ?_
      refine g_iconst hX dX10_asks_1 ic0 ?_
      refine pX10_78 hX dX10_asks_2 ?_
      refine g_iload_n (i := 1) hX dX10_asks_5 rfl rfl ?_
      refine sX10_91 hX ⟨Nat.le_of_ble_eq_true rfl, Nat.le_of_ble_eq_true rfl⟩ (Nat.le_of_ble_eq_true rfl) dX10_asks_6 (c_isSheet_t hs) ?_
      refine g_if_eq (tgt := 24) hX dX10_asks_9 (by decide) (fun h9 => absurd h9 ((by decide))) (fun _ => ?_)
      refine g_iload_n (i := 3) hX dX10_asks_12 rfl rfl ?_
      refine g_i2l hX dX10_asks_13 ?_
      refine g_lconst (v := 1) hX dX10_asks_14 (by decide) ?_
      refine g_ldc2_w hX ccX10_107 dX10_asks_15 ?_
      refine sX10_87 hX ⟨Nat.le_of_ble_eq_true rfl, Nat.le_of_ble_eq_true rfl⟩ (Nat.le_of_ble_eq_true rfl) dX10_asks_18 (cB _) ?_
      refine g_if_ne (tgt := 27) hX dX10_asks_21 (by decide) (fun _ => ?_) (fun h9 => absurd h9 ((by decide)))
      refine g_aload_n (i := 0) hX dX10_asks_27 rfl rfl ?_
      refine fX10_19 hX dX10_asks_28 ?_
      refine g_iconst hX dX10_asks_31 ic0 ?_
      refine g_ialoadN (i := 0) hX (ia71) rfl (by decide) (by first | decide | assumption | omega) dX10_asks_32 ?_
      refine g_iload_n (i := 3) hX dX10_asks_33 rfl rfl ?_
      refine g_iadd hX dX10_asks_34 ?_
      refine g_bipush hX dX10_asks_35 bp40 ?_
      refine g_icmp_le (tgt := 43) hX dX10_asks_37 (by decide) (fun _ => ?_) (fun h9 => absurd (eF2 (S0 (pI S 48 15 2)) rr.1) h9)
      refine g_aload_n (i := 0) hX dX10_asks_43 rfl rfl ?_
      refine fX10_7 hX dX10_asks_44 ?_
      refine g_iload_n (i := 1) hX dX10_asks_47 rfl rfl ?_
      refine g_ialoadN hX (ia68) rfl (hs) (by first | decide | assumption | omega) dX10_asks_48 ?_
      refine g_if_ge (tgt := 58) hX dX10_asks_49 (by decide) (fun _ => ?_) (fun h9 => absurd ((show 0 ≤ S.1 68 s by rw [l3]; exact nI_pos' (by omega))) h9)
      refine g_iload_n (i := 2) hX dX10_asks_58 rfl rfl ?_
      refine g_if_lt (tgt := 80) hX dX10_asks_59 (by decide) (fun q1 => ?_) (fun q1 => ?_)
      · exact hend
      · refine g_iload_n (i := 2) hX dX10_asks_62 rfl rfl ?_
        refine g_i2l hX dX10_asks_63 ?_
        refine g_iconst hX dX10_asks_64 ic3 ?_
        refine g_iload_n (i := 3) hX dX10_asks_65 rfl rfl ?_
        refine g_imul hX dX10_asks_66 ?_
        refine g_i2l hX dX10_asks_67 ?_
        refine g_ladd hX dX10_asks_68 ?_
        refine g_aload_n (i := 0) hX dX10_asks_69 rfl rfl ?_
        refine fX10_13 hX dX10_asks_70 ?_
        refine g_iload_n (i := 1) hX dX10_asks_73 rfl rfl ?_
        refine g_ialoadN hX (ia69) rfl (hs) (by first | decide | assumption | omega) dX10_asks_74 ?_
        refine g_i2l hX dX10_asks_75 ?_
        refine g_lcmp hX dX10_asks_76 ?_
        refine g_if_le (tgt := 86) hX dX10_asks_77 (by decide) (fun q2 => ?_) (fun q2 => ?_)
        · exfalso
          apply hpl
          have e69 : (S0 (pI S 48 15 2)).1 69 s = nI z := z3
          rw [lg_cmp_le, l_le, l_add, l_i, e69, e3n, nI_toInt (by omega), nI_toInt (by omega)] at q2
          rw [i_lt, t0] at q1
          exact ⟨x2.toInt.toNat, 3 * n, nI_nat (by omega), rfl, by omega⟩
        · exact hend
  obtain ⟨i, n3, rfl, e3, hin⟩ := hpl
  have hin : i + 3 * n ≤ z := by
    have : n3 < 2 ^ 31 := by omega
    have := nI_inj (a := 3 * n) (b := n3) (by omega) this e3
    omega
  clear e3
  have hlt : kX6_lastTick Γ [.ref (Γ.1 16)] S (rI (if N = 0 then 0 else tk (N - 1)) S) := by
    have h9 := c_lastTick (Γ := Γ) (S := S) ir16 hN rc.2.1
    have e9 : (if N = 0 then 0 else S.1 (16 + 1) (N - 1)) = if N = 0 then 0 else tk (N - 1) := by
      by_cases e : N = 0
      · rw [if_pos e, if_pos e]
      · rw [if_neg e, if_neg e, (rc.2.2 (N - 1) (by omega)).1]
    rw [e9] at h9
    exact h9
  have lastR : ∀ (Γ : GG) (X : XT) (fr lo : Nat) (T : St), Cx Γ RX10 cX10_asks 6 (some .int) fr lo X → RwR T 0 N tk nm gr → G Γ X T 112 [(0, .ref (Γ.1 67)), (1, .int (nI s)), (2, .int (nI i)), (3, .int (nI n))] [.int (if N = 0 then 0 else tk (N - 1))] → G Γ X T 86 [(0, .ref (Γ.1 67)), (1, .int (nI s)), (2, .int (nI i)), (3, .int (nI n))] [] := by
    intro Γ X fr lo T hX hT hg
    by_cases e : N = 0
    · rw [if_pos e] at hg
      refine g_aload_n (i := 0) hX dX10_asks_86 rfl rfl ?_
      refine fX10_19 hX dX10_asks_87 ?_
      refine g_iconst hX dX10_asks_90 ic0 ?_
      refine g_ialoadN (i := 0) hX (ia71) rfl (by decide) (by first | decide | assumption | omega) dX10_asks_91 ?_
      refine g_if_ne (tgt := 99) hX dX10_asks_92 (by decide) (fun h9 => absurd ((by rw [hT.1, e]; rfl)) h9) (fun _ => ?_)
      refine g_iconst hX dX10_asks_95 ic0 ?_
      refine g_goto (tgt := 112) hX dX10_asks_96 (by decide) ?_
      exact hg
    · rw [if_neg e] at hg
      have eq : T.1 71 0 - 1 = nI (N - 1) := by rw [hT.1]; exact nI_m1 (by omega)
      refine g_aload_n (i := 0) hX dX10_asks_86 rfl rfl ?_
      refine fX10_19 hX dX10_asks_87 ?_
      refine g_iconst hX dX10_asks_90 ic0 ?_
      refine g_ialoadN (i := 0) hX (ia71) rfl (by decide) (by first | decide | assumption | omega) dX10_asks_91 ?_
      refine g_if_ne (tgt := 99) hX dX10_asks_92 (by decide) (fun _ => ?_) (fun h9 => absurd h9 ((by rw [hT.1]; exact nI_ne0 (by omega) (by omega))))
      refine g_aload_n (i := 0) hX dX10_asks_99 rfl rfl ?_
      refine fX10_22 hX dX10_asks_100 ?_
      refine g_aload_n (i := 0) hX dX10_asks_103 rfl rfl ?_
      refine fX10_19 hX dX10_asks_104 ?_
      refine g_iconst hX dX10_asks_107 ic0 ?_
      refine g_ialoadN (i := 0) hX (ia71) rfl (by decide) (by first | decide | assumption | omega) dX10_asks_108 ?_
      refine g_iconst hX dX10_asks_109 ic1 ?_
      refine g_isub hX dX10_asks_110 ?_
      refine g_ialoadN hX (ia72) (eq) ((show N - 1 < 200 by omega)) (by first | decide | assumption | omega) dX10_asks_111 ?_
      have e5 : T.1 72 (N - 1) = tk (N - 1) := by have := (hT.2 (N - 1) (by omega)).1; rw [Nat.mul_zero, Nat.zero_add] at this; exact this
      rw [e5]
      exact hg
  by_cases hok : askOk (S.1 (2 * s + 1)) i n (if N = 0 then 0 else tk (N - 1))
  case neg =>
    refine ⟨-1000001, fun S1 => S1 = S, ?_, ?_⟩
    · refine oX9_asks (fun X hX hE => ?_)
      refine g_iload_n (i := 1) hX dX9_asks_0 rfl rfl ?_
      refine g_bipush hX dX9_asks_1 bp8 ?_
      refine sX9_96 hX ⟨Nat.le_of_ble_eq_true rfl, Nat.le_of_ble_eq_true rfl⟩ (Nat.le_of_ble_eq_true rfl) dX9_asks_3 (isB_t hs (by decide)) ?_
      refine g_if_eq (tgt := 20) hX dX9_asks_6 (by decide) (fun h9 => absurd h9 ((by decide))) (fun _ => ?_)
      refine g_iload_n (i := 3) hX dX9_asks_9 rfl rfl ?_
      refine g_iconst hX dX9_asks_10 ic1 ?_
      refine g_icmp_lt (tgt := 20) hX dX9_asks_11 (by decide) (fun h9 => absurd h9 (hn1')) (fun _ => ?_)
      refine g_iload_n (i := 3) hX dX9_asks_14 rfl rfl ?_
      refine g_bipush hX dX9_asks_15 bp20 ?_
      refine g_icmp_le (tgt := 23) hX dX9_asks_17 (by decide) (fun _ => ?_) (fun h9 => absurd (hn20') h9)
      refine g_iload_n (i := 3) hX dX9_asks_23 rfl rfl ?_
      refine g_bipush hX dX9_asks_24 bp40 ?_
      refine g_aload_n (i := 0) hX dX9_asks_26 rfl rfl ?_
      refine fX9_18 hX dX9_asks_27 ?_
      refine fX9_137 hX ir16 dX9_asks_30 ?_
      refine g_isub hX dX9_asks_33 ?_
      refine g_icmp_le (tgt := 40) hX dX9_asks_34 (by decide) (fun _ => ?_) (fun h9 => absurd (eF) h9)
      refine g_aload_n (i := 0) hX dX9_asks_40 rfl rfl ?_
      refine fX9_11 hX dX9_asks_41 ?_
      refine g_iload_n (i := 1) hX dX9_asks_44 rfl rfl ?_
      refine g_aaloadN hX (show 49 < NC by decide) (Or.inl rfl) (show lay 49 = (2, 8, [0, 2, 4, 6, 8, 10, 12, 14]) by decide) rfl (hs) (by decide) (shh s hs) dX9_asks_45 ?_
      refine g_astore hX dX9_asks_46 (by decide) rfl ?_
      refine g_aload hX dX9_asks_48 rfl ?_
      refine fX9_112 hX hb dX9_asks_50 ?_
      refine g_if_eq (tgt := 62) hX dX9_asks_53 (by decide) (fun _ => ?_) (fun h9 => absurd (m1) h9)
      refine g_aload hX dX9_asks_62 rfl ?_
      refine g_iload_n (i := 2) hX dX9_asks_64 rfl rfl ?_
      refine g_iconst hX dX9_asks_65 ic3 ?_
      refine g_iload_n (i := 3) hX dX9_asks_66 rfl rfl ?_
      refine g_imul hX dX9_asks_67 ?_
      refine sX9_115 hX hb ⟨Nat.le_of_ble_eq_true rfl, Nat.le_of_ble_eq_true rfl⟩ (Nat.le_of_ble_eq_true rfl) dX9_asks_68 ((by rw [e3n]; exact c_hasPlaces_t hb z2 z1 hin)) ?_
      refine g_if_ne (tgt := 80) hX dX9_asks_71 (by decide) (fun _ => ?_) (fun h9 => absurd h9 ((by decide)))
      refine g_aload hX dX9_asks_80 rfl ?_
      refine g_iload_n (i := 2) hX dX9_asks_82 rfl rfl ?_
      refine g_iload_n (i := 3) hX dX9_asks_83 rfl rfl ?_
      refine g_aload_n (i := 0) hX dX9_asks_84 rfl rfl ?_
      refine fX9_18 hX dX9_asks_85 ?_
      refine sX9_141 hX ir16 ⟨Nat.le_of_ble_eq_true rfl, Nat.le_of_ble_eq_true rfl⟩ (Nat.le_of_ble_eq_true rfl) dX9_asks_88 (hlt) ?_
      refine sX9_145 hX hb ⟨Nat.le_of_ble_eq_true rfl, Nat.le_of_ble_eq_true rfl⟩ (Nat.le_of_ble_eq_true rfl) dX9_asks_91 (c_hasAsks hb hin z1 (Or.inr ⟨hok, rfl⟩)) ?_
      refine g_if_ne (tgt := 100) hX dX9_asks_94 (by decide) (fun h9 => absurd (rfl) h9) (fun _ => ?_)
      refine g_ldc hX ccX9_100 dX9_asks_97 ?_
      refine g_iret (st := []) hX hE rfl dX9_asks_99 (⟨_, rfl, rfl, rfl⟩)
    · rintro S1 rfl
      refine oX10_asks (fun X hX hE => ?_)
      have e69 : (S0 S1).1 69 s = nI z := z3
      refine g_aload_n (i := 0) hX dX10_asks_0 rfl rfl ?_
      refine g_iconst hX dX10_asks_1 ic0 ?_
      refine pX10_78 hX dX10_asks_2 ?_
      refine g_iload_n (i := 1) hX dX10_asks_5 rfl rfl ?_
      refine sX10_91 hX ⟨Nat.le_of_ble_eq_true rfl, Nat.le_of_ble_eq_true rfl⟩ (Nat.le_of_ble_eq_true rfl) dX10_asks_6 (c_isSheet_t hs) ?_
      refine g_if_eq (tgt := 24) hX dX10_asks_9 (by decide) (fun h9 => absurd h9 ((by decide))) (fun _ => ?_)
      refine g_iload_n (i := 3) hX dX10_asks_12 rfl rfl ?_
      refine g_i2l hX dX10_asks_13 ?_
      refine g_lconst (v := 1) hX dX10_asks_14 (by decide) ?_
      refine g_ldc2_w hX ccX10_107 dX10_asks_15 ?_
      refine sX10_87 hX ⟨Nat.le_of_ble_eq_true rfl, Nat.le_of_ble_eq_true rfl⟩ (Nat.le_of_ble_eq_true rfl) dX10_asks_18 (cB _) ?_
      refine g_if_ne (tgt := 27) hX dX10_asks_21 (by decide) (fun _ => ?_) (fun h9 => absurd h9 ((by decide)))
      refine g_aload_n (i := 0) hX dX10_asks_27 rfl rfl ?_
      refine fX10_19 hX dX10_asks_28 ?_
      refine g_iconst hX dX10_asks_31 ic0 ?_
      refine g_ialoadN (i := 0) hX (ia71) rfl (by decide) (by first | decide | assumption | omega) dX10_asks_32 ?_
      refine g_iload_n (i := 3) hX dX10_asks_33 rfl rfl ?_
      refine g_iadd hX dX10_asks_34 ?_
      refine g_bipush hX dX10_asks_35 bp40 ?_
      refine g_icmp_le (tgt := 43) hX dX10_asks_37 (by decide) (fun _ => ?_) (fun h9 => absurd (eF2 (S0 S1) rr.1) h9)
      refine g_aload_n (i := 0) hX dX10_asks_43 rfl rfl ?_
      refine fX10_7 hX dX10_asks_44 ?_
      refine g_iload_n (i := 1) hX dX10_asks_47 rfl rfl ?_
      refine g_ialoadN hX (ia68) rfl (hs) (by first | decide | assumption | omega) dX10_asks_48 ?_
      refine g_if_ge (tgt := 58) hX dX10_asks_49 (by decide) (fun _ => ?_) (fun h9 => absurd ((show 0 ≤ S1.1 68 s by rw [l3]; exact nI_pos' (by omega))) h9)
      refine g_iload_n (i := 2) hX dX10_asks_58 rfl rfl ?_
      refine g_if_lt (tgt := 80) hX dX10_asks_59 (by decide) (fun h9 => absurd h9 (nI_pos (by omega))) (fun _ => ?_)
      refine g_iload_n (i := 2) hX dX10_asks_62 rfl rfl ?_
      refine g_i2l hX dX10_asks_63 ?_
      refine g_iconst hX dX10_asks_64 ic3 ?_
      refine g_iload_n (i := 3) hX dX10_asks_65 rfl rfl ?_
      refine g_imul hX dX10_asks_66 ?_
      refine g_i2l hX dX10_asks_67 ?_
      refine g_ladd hX dX10_asks_68 ?_
      refine g_aload_n (i := 0) hX dX10_asks_69 rfl rfl ?_
      refine fX10_13 hX dX10_asks_70 ?_
      refine g_iload_n (i := 1) hX dX10_asks_73 rfl rfl ?_
      refine g_ialoadN hX (ia69) rfl (hs) (by first | decide | assumption | omega) dX10_asks_74 ?_
      refine g_i2l hX dX10_asks_75 ?_
      refine g_lcmp hX dX10_asks_76 ?_
      refine g_if_le (tgt := 86) hX dX10_asks_77 (by decide) (fun _ => ?_) (fun h9 => absurd ((by rw [lg_cmp_le, l_le, l_add, l_i, e69, e3n, nI_toInt (by omega), nI_toInt (by omega), nI_toInt (by omega)]; omega)) h9)
      refine lastR Γ X _ _ _ hX rr ?_
      refine g_istore hX dX10_asks_112 (by decide) rfl ?_
      refine g_bipush hX dX10_asks_114 bp60 ?_
      refine g_iload_n (i := 1) hX dX10_asks_116 rfl rfl ?_
      refine g_imul hX dX10_asks_117 ?_
      refine g_iload_n (i := 2) hX dX10_asks_118 rfl rfl ?_
      refine g_iadd hX dX10_asks_119 ?_
      refine g_istore hX dX10_asks_120 (by decide) rfl ?_
      rw [nI_60]
      refine c_asksR_loop (T := S0 S1) (fr := 0) (lo := 0) (x1 := 0) (x2 := 0) (x3 := 0) (a0 := if N = 0 then 0 else tk (N - 1)) hX hs (by omega) (S1.1 (2 * s + 1)) (fun j hj => (z4 j hj).symm) (fun q => absurd q hok) (fun _ a v => ?_) n 0 _ (by omega) Iff.rfl
      refine g_ldc hX ccX10_97 dX10_asks_197 ?_
      refine g_iret (st := []) hX hE rfl dX10_asks_199 (⟨_, rfl, rfl, hR.thrown⟩)
  have hTk0 : ∀ k, k < n → exT tk N (S.1 (2 * s + 1)) i 0 (N + k) = S.1 (2 * s + 1) (i + 3 * k) := fun k _ => exT_hi
  have hNm0 : ∀ k, k < n → nI (exN nm N (S.1 (2 * s + 1)) i (N + k)) = S.1 (2 * s + 1) (i + 3 * k + 1) ∧ exN nm N (S.1 (2 * s + 1)) i (N + k) < 10 := by
    intro k hk
    obtain ⟨x, hx, ex⟩ := (askOk_at hok k hk).2.2.1
    rw [exN_hi, ex, nI_clamp (by omega)]
    exact ⟨rfl, hx⟩
  have hGr0 : ∀ k, k < n → exT gr N (S.1 (2 * s + 1)) i 2 (N + k) = S.1 (2 * s + 1) (i + 3 * k + 2) := fun k _ => exT_hi
  refine ⟨nI (N + n), fun S1 => RwC S1 16 (N + n) (exT tk N (S.1 (2 * s + 1)) i 0) (exN nm N (S.1 (2 * s + 1)) i) (exT gr N (S.1 (2 * s + 1)) i 2) ∧ Fq [16, 17, 18, 19, 20] [(48, 15)] S S1 ∧ S1.1 48 15 = 0, ?_, ?_⟩
  · refine oX9_asks (fun X hX hE => ?_)
    have e3k : ∀ k, nI i + 3 * nI k = nI (i + 3 * k) := fun k => by rw [show (3 : Int32) = nI 3 from rfl, nI_mul, nI_add2]
    have e31 : ∀ k, nI i + 3 * nI k + 1 = nI (i + 3 * k + 1) := fun k => by rw [e3k, nI_1]
    have e32 : ∀ k, nI i + 3 * nI k + 2 = nI (i + 3 * k + 2) := fun k => by rw [e3k, show (2 : Int32) = nI 2 from rfl, nI_add2]
    have loop : ∀ d k T, k + d = n → RwC T 16 (N + k) (exT tk N (S.1 (2 * s + 1)) i 0) (exN nm N (S.1 (2 * s + 1)) i) (exT gr N (S.1 (2 * s + 1)) i 2) → Fq [16, 17, 18, 19, 20] [] S T → G Γ X T 103 [(0, .ref (Γ.1 48)), (1, .int (nI s)), (2, .int (nI i)), (3, .int (nI n)), (4, .ref (Γ.1 (2 * s))), (5, .int (nI k))] [] := by
      intro d
      induction d with
      | zero =>
        intro k T hk hT hF
        obtain rfl : k = n := by omega
        refine g_iload hX dX9_asks_103 rfl ?_
        refine g_iload_n (i := 3) hX dX9_asks_105 rfl rfl ?_
        refine g_icmp_ge (tgt := 158) hX dX9_asks_106 (by decide) (fun _ => ?_) (fun h9 => absurd (nI_le (Nat.le_refl _) (by omega)) h9)
        refine g_aload_n (i := 0) hX dX9_asks_158 rfl rfl ?_
        refine g_aload_n (i := 0) hX dX9_asks_159 rfl rfl ?_
        refine fX9_18 hX dX9_asks_160 ?_
        refine fX9_137 hX ir16 dX9_asks_163 ?_
        refine sX9_109 hX ⟨Nat.le_of_ble_eq_true rfl, Nat.le_of_ble_eq_true rfl⟩ (Nat.le_of_ble_eq_true rfl) dX9_asks_166 (c_noFinding) ?_
        refine g_iret (st := []) hX hE rfl dX9_asks_169 (⟨_, rfl, hT.2.1, ?_, ?_, rfl⟩)
        · exact hT.q (K := []) (O := [(48, 15)]) (Fq.rf.I (by decide)) (by decide)
        · exact (hF.mono (Q := [(48, 15)]) (fun _ h => h) (fun _ h => by cases h)).I (by decide)
      | succ d ih =>
        intro k T hk hT hF
        have hI : T.1 (2 * s + 1) = S.1 (2 * s + 1) := hF.row (by simp only [List.mem_cons, List.not_mem_nil, or_false]; omega) (fun _ z => by cases z)
        have hap := c_append_t (Γ := Γ) ir16 hT (show N + k < 40 by omega) (hNm0 k (by omega)).2
        rw [hTk0 k (by omega), (hNm0 k (by omega)).1, hGr0 k (by omega)] at hap
        refine g_iload hX dX9_asks_103 rfl ?_
        refine g_iload_n (i := 3) hX dX9_asks_105 rfl rfl ?_
        refine g_icmp_ge (tgt := 158) hX dX9_asks_106 (by decide) (fun h9 => absurd h9 (nI_ge (by omega) (by omega))) (fun _ => ?_)
        refine g_iload_n (i := 2) hX dX9_asks_109 rfl rfl ?_
        refine g_iconst hX dX9_asks_110 ic3 ?_
        refine g_iload hX dX9_asks_111 rfl ?_
        refine g_imul hX dX9_asks_113 ?_
        refine g_iadd hX dX9_asks_114 ?_
        refine g_istore hX dX9_asks_115 (by decide) rfl ?_
        refine g_aload_n (i := 0) hX dX9_asks_117 rfl rfl ?_
        refine fX9_18 hX dX9_asks_118 ?_
        refine g_aload hX dX9_asks_121 rfl ?_
        refine fX9_125 hX hb dX9_asks_123 ?_
        refine g_iload hX dX9_asks_126 rfl ?_
        refine g_ialoadN hX ((hb).a1) (e3k k) ((show i + 3 * k < 60 by omega)) (by first | decide | assumption | omega) dX9_asks_128 ?_
        refine g_aload hX dX9_asks_129 rfl ?_
        refine fX9_125 hX hb dX9_asks_131 ?_
        refine g_iload hX dX9_asks_134 rfl ?_
        refine g_iconst hX dX9_asks_136 ic1 ?_
        refine g_iadd hX dX9_asks_137 ?_
        refine g_ialoadN hX ((hb).a1) (e31 k) ((show i + 3 * k + 1 < 60 by omega)) (by first | decide | assumption | omega) dX9_asks_138 ?_
        refine g_aload hX dX9_asks_139 rfl ?_
        refine fX9_125 hX hb dX9_asks_141 ?_
        refine g_iload hX dX9_asks_144 rfl ?_
        refine g_iconst hX dX9_asks_146 ic2 ?_
        refine g_iadd hX dX9_asks_147 ?_
        refine g_ialoadN hX ((hb).a1) (e32 k) ((show i + 3 * k + 2 < 60 by omega)) (by first | decide | assumption | omega) dX9_asks_148 ?_
        refine eX9_149 hX ir16 ⟨Nat.le_of_ble_eq_true rfl, Nat.le_of_ble_eq_true rfl⟩ (Nat.le_of_ble_eq_true rfl) dX9_asks_149 ((by rw [hI]; exact hap)) (fun T1 hT1 => ?_)
        refine g_iinc hX dX9_asks_152 rfl ic1 (by decide) rfl ?_
        refine g_goto (tgt := 103) hX dX9_asks_155 (by decide) ?_
        rw [nI_1]
        exact g_weak (ih (k + 1) T1 (by omega) hT1.1 (hF.tr hT1.2)) (as_c rfl (as_c rfl (as_c rfl (as_c rfl (as_c rfl (as_c rfl (as_n)))))))
    refine g_iload_n (i := 1) hX dX9_asks_0 rfl rfl ?_
    refine g_bipush hX dX9_asks_1 bp8 ?_
    refine sX9_96 hX ⟨Nat.le_of_ble_eq_true rfl, Nat.le_of_ble_eq_true rfl⟩ (Nat.le_of_ble_eq_true rfl) dX9_asks_3 (isB_t hs (by decide)) ?_
    refine g_if_eq (tgt := 20) hX dX9_asks_6 (by decide) (fun h9 => absurd h9 ((by decide))) (fun _ => ?_)
    refine g_iload_n (i := 3) hX dX9_asks_9 rfl rfl ?_
    refine g_iconst hX dX9_asks_10 ic1 ?_
    refine g_icmp_lt (tgt := 20) hX dX9_asks_11 (by decide) (fun h9 => absurd h9 (hn1')) (fun _ => ?_)
    refine g_iload_n (i := 3) hX dX9_asks_14 rfl rfl ?_
    refine g_bipush hX dX9_asks_15 bp20 ?_
    refine g_icmp_le (tgt := 23) hX dX9_asks_17 (by decide) (fun _ => ?_) (fun h9 => absurd (hn20') h9)
    refine g_iload_n (i := 3) hX dX9_asks_23 rfl rfl ?_
    refine g_bipush hX dX9_asks_24 bp40 ?_
    refine g_aload_n (i := 0) hX dX9_asks_26 rfl rfl ?_
    refine fX9_18 hX dX9_asks_27 ?_
    refine fX9_137 hX ir16 dX9_asks_30 ?_
    refine g_isub hX dX9_asks_33 ?_
    refine g_icmp_le (tgt := 40) hX dX9_asks_34 (by decide) (fun _ => ?_) (fun h9 => absurd (eF) h9)
    refine g_aload_n (i := 0) hX dX9_asks_40 rfl rfl ?_
    refine fX9_11 hX dX9_asks_41 ?_
    refine g_iload_n (i := 1) hX dX9_asks_44 rfl rfl ?_
    refine g_aaloadN hX (show 49 < NC by decide) (Or.inl rfl) (show lay 49 = (2, 8, [0, 2, 4, 6, 8, 10, 12, 14]) by decide) rfl (hs) (by decide) (shh s hs) dX9_asks_45 ?_
    refine g_astore hX dX9_asks_46 (by decide) rfl ?_
    refine g_aload hX dX9_asks_48 rfl ?_
    refine fX9_112 hX hb dX9_asks_50 ?_
    refine g_if_eq (tgt := 62) hX dX9_asks_53 (by decide) (fun _ => ?_) (fun h9 => absurd (m1) h9)
    refine g_aload hX dX9_asks_62 rfl ?_
    refine g_iload_n (i := 2) hX dX9_asks_64 rfl rfl ?_
    refine g_iconst hX dX9_asks_65 ic3 ?_
    refine g_iload_n (i := 3) hX dX9_asks_66 rfl rfl ?_
    refine g_imul hX dX9_asks_67 ?_
    refine sX9_115 hX hb ⟨Nat.le_of_ble_eq_true rfl, Nat.le_of_ble_eq_true rfl⟩ (Nat.le_of_ble_eq_true rfl) dX9_asks_68 ((by rw [e3n]; exact c_hasPlaces_t hb z2 z1 hin)) ?_
    refine g_if_ne (tgt := 80) hX dX9_asks_71 (by decide) (fun _ => ?_) (fun h9 => absurd h9 ((by decide)))
    refine g_aload hX dX9_asks_80 rfl ?_
    refine g_iload_n (i := 2) hX dX9_asks_82 rfl rfl ?_
    refine g_iload_n (i := 3) hX dX9_asks_83 rfl rfl ?_
    refine g_aload_n (i := 0) hX dX9_asks_84 rfl rfl ?_
    refine fX9_18 hX dX9_asks_85 ?_
    refine sX9_141 hX ir16 ⟨Nat.le_of_ble_eq_true rfl, Nat.le_of_ble_eq_true rfl⟩ (Nat.le_of_ble_eq_true rfl) dX9_asks_88 (hlt) ?_
    refine sX9_145 hX hb ⟨Nat.le_of_ble_eq_true rfl, Nat.le_of_ble_eq_true rfl⟩ (Nat.le_of_ble_eq_true rfl) dX9_asks_91 (c_hasAsks hb hin z1 (Or.inl ⟨hok, rfl⟩)) ?_
    refine g_if_ne (tgt := 100) hX dX9_asks_94 (by decide) (fun _ => ?_) (fun h9 => absurd h9 ((by decide)))
    refine g_iconst hX dX9_asks_100 ic0 ?_
    refine g_istore hX dX9_asks_101 (by decide) rfl ?_
    exact loop n 0 S (by omega) (rc.congr (fun j hj => exT_lo hj) (fun j hj => exN_lo hj) (fun j hj => exT_lo hj)) Fq.rf
  · rintro S1 ⟨rc1, hF1, e48⟩
    have e68 : S1.1 68 = S.1 68 := hF1.r (by decide)
    have e69 : S1.1 69 = S.1 69 := hF1.r (by decide)
    have e70 : S1.1 70 = S.1 70 := hF1.r (by decide)
    have rr1 : RwR S1 0 N tk nm gr := rr.q hF1 (by decide)
    obtain ⟨Nm, tkm, nmm, grm, rcm, rrm, tokm⟩ := hR.2.2.1
    have rrm1 : RwR S1 1 Nm tkm nmm grm := rrm.q hF1 (by decide)
    refine oX10_asks (fun X hX hE => ?_)
    have e69s : (S0 S1).1 69 s = nI z := by show S1.1 69 s = _; rw [e69]; exact z3
    refine g_aload_n (i := 0) hX dX10_asks_0 rfl rfl ?_
    refine g_iconst hX dX10_asks_1 ic0 ?_
    refine pX10_78 hX dX10_asks_2 ?_
    refine g_iload_n (i := 1) hX dX10_asks_5 rfl rfl ?_
    refine sX10_91 hX ⟨Nat.le_of_ble_eq_true rfl, Nat.le_of_ble_eq_true rfl⟩ (Nat.le_of_ble_eq_true rfl) dX10_asks_6 (c_isSheet_t hs) ?_
    refine g_if_eq (tgt := 24) hX dX10_asks_9 (by decide) (fun h9 => absurd h9 ((by decide))) (fun _ => ?_)
    refine g_iload_n (i := 3) hX dX10_asks_12 rfl rfl ?_
    refine g_i2l hX dX10_asks_13 ?_
    refine g_lconst (v := 1) hX dX10_asks_14 (by decide) ?_
    refine g_ldc2_w hX ccX10_107 dX10_asks_15 ?_
    refine sX10_87 hX ⟨Nat.le_of_ble_eq_true rfl, Nat.le_of_ble_eq_true rfl⟩ (Nat.le_of_ble_eq_true rfl) dX10_asks_18 (cB _) ?_
    refine g_if_ne (tgt := 27) hX dX10_asks_21 (by decide) (fun _ => ?_) (fun h9 => absurd h9 ((by decide)))
    refine g_aload_n (i := 0) hX dX10_asks_27 rfl rfl ?_
    refine fX10_19 hX dX10_asks_28 ?_
    refine g_iconst hX dX10_asks_31 ic0 ?_
    refine g_ialoadN (i := 0) hX (ia71) rfl (by decide) (by first | decide | assumption | omega) dX10_asks_32 ?_
    refine g_iload_n (i := 3) hX dX10_asks_33 rfl rfl ?_
    refine g_iadd hX dX10_asks_34 ?_
    refine g_bipush hX dX10_asks_35 bp40 ?_
    refine g_icmp_le (tgt := 43) hX dX10_asks_37 (by decide) (fun _ => ?_) (fun h9 => absurd (eF2 (S0 S1) rr1.1) h9)
    refine g_aload_n (i := 0) hX dX10_asks_43 rfl rfl ?_
    refine fX10_7 hX dX10_asks_44 ?_
    refine g_iload_n (i := 1) hX dX10_asks_47 rfl rfl ?_
    refine g_ialoadN hX (ia68) rfl (hs) (by first | decide | assumption | omega) dX10_asks_48 ?_
    refine g_if_ge (tgt := 58) hX dX10_asks_49 (by decide) (fun _ => ?_) (fun h9 => absurd ((show 0 ≤ S1.1 68 s by rw [e68, l3]; exact nI_pos' (by omega))) h9)
    refine g_iload_n (i := 2) hX dX10_asks_58 rfl rfl ?_
    refine g_if_lt (tgt := 80) hX dX10_asks_59 (by decide) (fun h9 => absurd h9 (nI_pos (by omega))) (fun _ => ?_)
    refine g_iload_n (i := 2) hX dX10_asks_62 rfl rfl ?_
    refine g_i2l hX dX10_asks_63 ?_
    refine g_iconst hX dX10_asks_64 ic3 ?_
    refine g_iload_n (i := 3) hX dX10_asks_65 rfl rfl ?_
    refine g_imul hX dX10_asks_66 ?_
    refine g_i2l hX dX10_asks_67 ?_
    refine g_ladd hX dX10_asks_68 ?_
    refine g_aload_n (i := 0) hX dX10_asks_69 rfl rfl ?_
    refine fX10_13 hX dX10_asks_70 ?_
    refine g_iload_n (i := 1) hX dX10_asks_73 rfl rfl ?_
    refine g_ialoadN hX (ia69) rfl (hs) (by first | decide | assumption | omega) dX10_asks_74 ?_
    refine g_i2l hX dX10_asks_75 ?_
    refine g_lcmp hX dX10_asks_76 ?_
    refine g_if_le (tgt := 86) hX dX10_asks_77 (by decide) (fun _ => ?_) (fun h9 => absurd ((by rw [lg_cmp_le, l_le, l_add, l_i, e69s, e3n, nI_toInt (by omega), nI_toInt (by omega), nI_toInt (by omega)]; omega)) h9)
    refine lastR Γ X _ _ _ hX rr1 ?_
    refine g_istore hX dX10_asks_112 (by decide) rfl ?_
    refine g_bipush hX dX10_asks_114 bp60 ?_
    refine g_iload_n (i := 1) hX dX10_asks_116 rfl rfl ?_
    refine g_imul hX dX10_asks_117 ?_
    refine g_iload_n (i := 2) hX dX10_asks_118 rfl rfl ?_
    refine g_iadd hX dX10_asks_119 ?_
    refine g_istore hX dX10_asks_120 (by decide) rfl ?_
    rw [nI_60]
    refine c_asksR_loop (fr := 0) (lo := 0) (x1 := 0) (x2 := 0) (x3 := 0) (a0 := if N = 0 then 0 else tk (N - 1)) hX hs (by omega) (S.1 (2 * s + 1)) (fun j hj => by show S1.1 70 (60 * s + j) = _; rw [e70]; exact (z4 j hj).symm) (fun _ a v => ?_) (fun q => absurd hok q) n 0 _ (by omega) Iff.rfl
    have e3 : (60 : Int32) * nI s + nI i + 3 * nI n = nI (60 * s + i + 3 * n) := by rw [nI_60, show (3 : Int32) = nI 3 from rfl, nI_mul, nI_add2]
    have loop : ∀ d k T, k + d = n → RwR T 0 (N + k) (exT tk N (S.1 (2 * s + 1)) i 0) (exN nm N (S.1 (2 * s + 1)) i) (exT gr N (S.1 (2 * s + 1)) i 2) → RwR T 1 Nm tkm nmm grm → Fq [71, 72, 73, 74] [(67, 0), (67, 1)] S1 T → T.1 67 1 = 0 → G Γ X T 228 [(0, .ref (Γ.1 67)), (1, .int (nI s)), (2, .int (nI i)), (3, .int (nI n)), (4, .int a), (5, .int (nI (60 * s + i + 3 * k)))] [] := by
      intro d
      induction d with
      | zero =>
        intro k T hk hT hT1 hF h67
        obtain rfl : k = n := by omega
        refine g_iload hX dX10_asks_228 rfl ?_
        refine g_bipush hX dX10_asks_230 bp60 ?_
        refine g_iload_n (i := 1) hX dX10_asks_232 rfl rfl ?_
        refine g_imul hX dX10_asks_233 ?_
        refine g_iload_n (i := 2) hX dX10_asks_234 rfl rfl ?_
        refine g_iadd hX dX10_asks_235 ?_
        refine g_iconst hX dX10_asks_236 ic3 ?_
        refine g_iload_n (i := 3) hX dX10_asks_237 rfl rfl ?_
        refine g_imul hX dX10_asks_238 ?_
        refine g_iadd hX dX10_asks_239 ?_
        refine g_icmp_ge (tgt := 279) hX dX10_asks_240 (by decide) (fun _ => ?_) (fun h9 => absurd ((by rw [e3]; exact nI_le (Nat.le_refl _) (by omega))) h9)
        refine g_aload_n (i := 0) hX dX10_asks_279 rfl rfl ?_
        refine fX10_19 hX dX10_asks_280 ?_
        refine g_iconst hX dX10_asks_283 ic0 ?_
        refine g_ialoadN (i := 0) hX (ia71) rfl (by decide) (by first | decide | assumption | omega) dX10_asks_284 ?_
        refine g_iret (st := []) hX hE rfl dX10_asks_285 (⟨_, rfl, hT.1, ?_⟩)
        have hFF : Fq [16, 17, 18, 19, 20, 71, 72, 73, 74] [(48, 15), (67, 0), (67, 1)] S T := (hF1.mono (by decide) (by decide)).tr (hF.mono (by decide) (by decide))
        have hrc : RwC T 16 (N + k) (exT tk N (S.1 (2 * s + 1)) i 0) (exN nm N (S.1 (2 * s + 1)) i) (exT gr N (S.1 (2 * s + 1)) i 2) := rc1.q hF (by decide)
        have hok2 := exTr (n := k) (i := i) (f := S.1 (2 * s + 1)) tok rfl hok
        obtain ⟨r1, r2, r3, r4, r5, r6, r7, r8, r9⟩ := hR
        exact ⟨r1.q hFF (by decide), ⟨_, _, _, _, hrc, hT, hok2⟩, ⟨_, _, _, _, rcm.q hFF (by decide), hT1, tokm⟩, r4.q hFF (by decide), r5.q hFF (by decide), r6.q hFF (by decide), r7.q hFF (by decide), r8.find hFF (by decide) (x := 0) (by rw [(hF.s (k := 48) (j := 15) (by decide)).1]; exact e48) h67, r9.q hFF (by decide)⟩
      | succ d ih =>
        intro k T hk hT hT1 hF h67
        have eT : T.1 70 = S.1 70 := by rw [hF.r (k := 70) (by decide), e70]
        have g0 : T.1 70 (60 * s + i + 3 * k) = exT tk N (S.1 (2 * s + 1)) i 0 (N + k) := by rw [hTk0 k (by omega), z4 _ (by omega), eT]; exact congrArg (S.1 70) (by omega)
        have g1 : T.1 70 (60 * s + i + 3 * k + 1) = nI (exN nm N (S.1 (2 * s + 1)) i (N + k)) := by rw [(hNm0 k (by omega)).1, z4 _ (by omega), eT]; exact congrArg (S.1 70) (by omega)
        have g2 : T.1 70 (60 * s + i + 3 * k + 2) = exT gr N (S.1 (2 * s + 1)) i 2 (N + k) := by rw [hGr0 k (by omega), z4 _ (by omega), eT]; exact congrArg (S.1 70) (by omega)
        have e2 : nI (60 * s + i + 3 * k) + 2 = nI (60 * s + i + 3 * k + 2) := by rw [show (2 : Int32) = nI 2 from rfl, nI_add2]
        refine g_iload hX dX10_asks_228 rfl ?_
        refine g_bipush hX dX10_asks_230 bp60 ?_
        refine g_iload_n (i := 1) hX dX10_asks_232 rfl rfl ?_
        refine g_imul hX dX10_asks_233 ?_
        refine g_iload_n (i := 2) hX dX10_asks_234 rfl rfl ?_
        refine g_iadd hX dX10_asks_235 ?_
        refine g_iconst hX dX10_asks_236 ic3 ?_
        refine g_iload_n (i := 3) hX dX10_asks_237 rfl rfl ?_
        refine g_imul hX dX10_asks_238 ?_
        refine g_iadd hX dX10_asks_239 ?_
        refine g_icmp_ge (tgt := 279) hX dX10_asks_240 (by decide) (fun h9 => absurd h9 ((by rw [e3]; exact nI_ge (by omega) (by omega)))) (fun _ => ?_)
        refine g_aload_n (i := 0) hX dX10_asks_243 rfl rfl ?_
        refine g_iconst hX dX10_asks_244 ic0 ?_
        refine g_aload_n (i := 0) hX dX10_asks_245 rfl rfl ?_
        refine fX10_16 hX dX10_asks_246 ?_
        refine g_iload hX dX10_asks_249 rfl ?_
        refine g_ialoadN hX (ia70) rfl ((show 60 * s + i + 3 * k < 480 by omega)) (by first | decide | assumption | omega) dX10_asks_251 ?_
        refine g_aload_n (i := 0) hX dX10_asks_252 rfl rfl ?_
        refine fX10_16 hX dX10_asks_253 ?_
        refine g_iload hX dX10_asks_256 rfl ?_
        refine g_iconst hX dX10_asks_258 ic1 ?_
        refine g_iadd hX dX10_asks_259 ?_
        refine g_ialoadN hX (ia70) (nI_1 _) ((show 60 * s + i + 3 * k + 1 < 480 by omega)) (by first | decide | assumption | omega) dX10_asks_260 ?_
        refine g_aload_n (i := 0) hX dX10_asks_261 rfl rfl ?_
        refine fX10_16 hX dX10_asks_262 ?_
        refine g_iload hX dX10_asks_265 rfl ?_
        refine g_iconst hX dX10_asks_267 ic2 ?_
        refine g_iadd hX dX10_asks_268 ?_
        refine g_ialoadN hX (ia70) (e2) ((show 60 * s + i + 3 * k + 2 < 480 by omega)) (by first | decide | assumption | omega) dX10_asks_269 ?_
        refine sX10_102 hX ⟨Nat.le_of_ble_eq_true rfl, Nat.le_of_ble_eq_true rfl⟩ (Nat.le_of_ble_eq_true rfl) dX10_asks_270 (c_add (r := 0) (n := N + k) (by decide) (by omega) hT.1) ?_
        refine g_iinc hX dX10_asks_273 rfl ic3 (by decide) rfl ?_
        refine g_goto (tgt := 228) hX dX10_asks_276 (by decide) ?_
        rw [show nI (60 * s + i + 3 * k) + 3 = nI (60 * s + i + 3 * (k + 1)) from by rw [show (3 : Int32) = nI 3 from rfl, nI_add2]; congr 1, g0, g1, g2]
        exact ih (k + 1) _ (by omega) hT.push (hT1.other (by decide) (by omega) rcm.1) (hF.tr (addS_F.mono (by decide) (fun _ h => by cases h))) (by rw [(addS_F.s (k := 67) (j := 1) (by decide)).1]; exact h67)
    refine g_aload_n (i := 0) hX dX10_asks_215 rfl rfl ?_
    refine g_iconst hX dX10_asks_216 ic0 ?_
    refine pX10_81 hX dX10_asks_217 ?_
    refine g_bipush hX dX10_asks_220 bp60 ?_
    refine g_iload_n (i := 1) hX dX10_asks_222 rfl rfl ?_
    refine g_imul hX dX10_asks_223 ?_
    refine g_iload_n (i := 2) hX dX10_asks_224 rfl rfl ?_
    refine g_iadd hX dX10_asks_225 ?_
    refine g_istore hX dX10_asks_226 (by decide) rfl ?_
    rw [nI_60]
    exact loop n 0 _ (by omega) ((rr1.q (K := []) (O := [(67, 0), (67, 1)]) ((Fq.rf.I (by decide)).I (by decide)) (by decide)).congr (fun j hj => exT_lo hj) (fun j hj => exN_lo hj) (fun j hj => exT_lo hj)) (rrm1.q (K := []) (O := [(67, 0), (67, 1)]) ((Fq.rf.I (by decide)).I (by decide)) (by decide)) ((Fq.rf.I (by decide)).I (by decide)) rfl
