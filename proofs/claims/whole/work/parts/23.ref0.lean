/-! the reference's small methods -/
def allck (K : List Nat) (O : List (Nat × Nat)) : Bool := ((List.range 16).all (okR K O) && okR K O 68 && okR K O 69 && okR K O 70) && ((okR K O 16 && okR K O 17 && okR K O 18 && okR K O 19 && okR K O 20) && (okR K O 71 && okR K O 72 && okR K O 73 && okR K O 74)) && ((okR K O 21 && okR K O 22 && okR K O 23 && okR K O 24 && okR K O 25) && (okR K O 71 && okR K O 72 && okR K O 73 && okR K O 74)) && (okR K O 36 && okR K O 37 && okR K O 38 && okR K O 39 && okR K O 75) && (okR K O 55 && okR K O 56 && okR K O 77) && (okS K O 50 2 && okR K O 51 && okS K O 67 13 && okR K O 78) && (okS K O 60 0 && okS K O 60 1 && okS K O 60 2 && okS K O 67 28 && okS K O 67 29 && okS K O 67 30) && (okS K O 48 15 && okS K O 48 14 && okS K O 48 16 && okS K O 48 12 && okS K O 48 13 && okS K O 67 1 && okS K O 67 14 && okS K O 67 36 && okS K O 67 26 && okS K O 67 27) && (okS K O 63 1 && okR K O 64 && okS K O 67 38 && okR K O 85)
theorem and_split {a b : Bool} (h : (a && b) = true) : a = true ∧ b = true := (Bool.and_eq_true a b).mp h
theorem Rel.q {K : List Nat} {O : List (Nat × Nat)} {S S1 : St} (h : Rel S) (hF : Fq K O S S1) (c : allck K O = true) : Rel S1 := by
  obtain ⟨h1, h2, h3, h4, h5, h6, h7, h8, h9⟩ := h
  obtain ⟨c, c9⟩ := and_split c
  obtain ⟨c, c8⟩ := and_split c
  obtain ⟨c, c7⟩ := and_split c
  obtain ⟨c, c6⟩ := and_split c
  obtain ⟨c, c5⟩ := and_split c
  obtain ⟨c, c4⟩ := and_split c
  obtain ⟨c, c3⟩ := and_split c
  obtain ⟨c1, c2⟩ := and_split c
  exact ⟨h1.q hF c1, h2.q hF c2, h3.q hF c3, h4.q hF c4, h5.q hF c5, h6.q hF c6, h7.q hF c7, h8.q hF c8, h9.q hF c9⟩
/-- thrown is set to 0 -/
abbrev S0 (S : St) : St := pI S 67 0 0
theorem Rel.thrown {S : St} (h : Rel S) : Rel (S0 S) := h.q (K := []) (O := [(67, 0)]) (Fq.rf.I (by decide)) (by decide)
theorem c_inI_t {Γ : GG} {S : St} {x : Int32} {a b : Int64} (h1 : a.toInt ≤ x.toInt) (h2 : x.toInt ≤ b.toInt) : kX10_in Γ [.long x.toInt64, .long a, .long b] S (rI 1 S) := c_in_t (by rw [l_le, l_i]; exact h1) (by rw [l_le, l_i]; exact h2)
theorem c_inI_f {Γ : GG} {S : St} {x : Int32} {a b : Int64} (h : ¬ (a.toInt ≤ x.toInt ∧ x.toInt ≤ b.toInt)) : kX10_in Γ [.long x.toInt64, .long a, .long b] S (rI 0 S) := c_in_f (by rw [l_le, l_le, l_i]; exact h)
theorem L0 : (0 : Int64).toInt = 0 := by decide
theorem c_isSheet_t {Γ : GG} {S : St} {j : Nat} (h : j < 8) : kX10_isSheet Γ [.int (nI j)] S (rI 1 S) := by
  refine oX10_isSheet (fun X hX hE => ?_)
  refine g_iload_n (i := 0) hX dX10_isSheet_0 rfl rfl ?_
  refine g_i2l hX dX10_isSheet_1 ?_
  refine g_lconst (v := 0) hX dX10_isSheet_2 (by decide) ?_
  refine g_ldc2_w hX ccX10_85 dX10_isSheet_3 ?_
  refine sX10_87 hX ⟨Nat.le_of_ble_eq_true rfl, Nat.le_of_ble_eq_true rfl⟩ (Nat.le_of_ble_eq_true rfl) dX10_isSheet_6 (c_inI_t (by rw [nI_toInt (by omega), L0]; omega) (by rw [nI_toInt (by omega), show (7 : Int64).toInt = 7 by decide]; omega)) ?_
  refine g_zret (st := []) hX hE rfl (nz_narrow (Or.inr rfl)).1 dX10_isSheet_9 (⟨rfl, rfl⟩)
theorem c_isSheet_f {Γ : GG} {S : St} {x : Int32} (h : ¬ inB x 8) : kX10_isSheet Γ [.int x] S (rI 0 S) := by
  refine oX10_isSheet (fun X hX hE => ?_)
  rw [inB_iff (by decide)] at h
  refine g_iload_n (i := 0) hX dX10_isSheet_0 rfl rfl ?_
  refine g_i2l hX dX10_isSheet_1 ?_
  refine g_lconst (v := 0) hX dX10_isSheet_2 (by decide) ?_
  refine g_ldc2_w hX ccX10_85 dX10_isSheet_3 ?_
  refine sX10_87 hX ⟨Nat.le_of_ble_eq_true rfl, Nat.le_of_ble_eq_true rfl⟩ (Nat.le_of_ble_eq_true rfl) dX10_isSheet_6 (c_inI_f (by rw [L0, show (7 : Int64).toInt = 7 by decide]; omega)) ?_
  refine g_zret (st := []) hX hE rfl (nz_narrow (Or.inl rfl)).1 dX10_isSheet_9 (⟨rfl, rfl⟩)
theorem c_isPart_t {Γ : GG} {S : St} {j : Nat} (h : j < 4) : kX10_isPart Γ [.int (nI j)] S (rI 1 S) := by
  refine oX10_isPart (fun X hX hE => ?_)
  refine g_iload_n (i := 0) hX dX10_isPart_0 rfl rfl ?_
  refine g_i2l hX dX10_isPart_1 ?_
  refine g_lconst (v := 0) hX dX10_isPart_2 (by decide) ?_
  refine g_ldc2_w hX ccX10_128 dX10_isPart_3 ?_
  refine sX10_87 hX ⟨Nat.le_of_ble_eq_true rfl, Nat.le_of_ble_eq_true rfl⟩ (Nat.le_of_ble_eq_true rfl) dX10_isPart_6 (c_inI_t (by rw [nI_toInt (by omega), L0]; omega) (by rw [nI_toInt (by omega), show (3 : Int64).toInt = 3 by decide]; omega)) ?_
  refine g_zret (st := []) hX hE rfl (nz_narrow (Or.inr rfl)).1 dX10_isPart_9 (⟨rfl, rfl⟩)
theorem c_isPart_f {Γ : GG} {S : St} {x : Int32} (h : ¬ inB x 4) : kX10_isPart Γ [.int x] S (rI 0 S) := by
  refine oX10_isPart (fun X hX hE => ?_)
  rw [inB_iff (by decide)] at h
  refine g_iload_n (i := 0) hX dX10_isPart_0 rfl rfl ?_
  refine g_i2l hX dX10_isPart_1 ?_
  refine g_lconst (v := 0) hX dX10_isPart_2 (by decide) ?_
  refine g_ldc2_w hX ccX10_128 dX10_isPart_3 ?_
  refine sX10_87 hX ⟨Nat.le_of_ble_eq_true rfl, Nat.le_of_ble_eq_true rfl⟩ (Nat.le_of_ble_eq_true rfl) dX10_isPart_6 (c_inI_f (by rw [L0, show (3 : Int64).toInt = 3 by decide]; omega)) ?_
  refine g_zret (st := []) hX hE rfl (nz_narrow (Or.inl rfl)).1 dX10_isPart_9 (⟨rfl, rfl⟩)
theorem c_findingR {Γ : GG} {S : St} {n : Int32} : kX10_finding Γ [.ref (Γ.1 67), .int n] S (rI (-1000010 - n) (pI S 67 1 n)) := by
  refine oX10_finding (fun X hX hE => ?_)
  refine g_aload_n (i := 0) hX dX10_finding_0 rfl rfl ?_
  refine g_iload_n (i := 1) hX dX10_finding_1 rfl rfl ?_
  refine pX10_81 hX dX10_finding_2 ?_
  refine g_ldc hX ccX10_84 dX10_finding_5 ?_
  refine g_iload_n (i := 1) hX dX10_finding_7 rfl rfl ?_
  refine g_isub hX dX10_finding_8 ?_
  refine g_iret (st := []) hX hE rfl dX10_finding_9 (⟨rfl, rfl⟩)
/-- the same finding on both sides -/
theorem MsRel.find {K : List Nat} {O : List (Nat × Nat)} {S S1 : St} {x : Int32} (h : MsRel S) (hF : Fq K O S S1) (c : (okS K O 48 14 && okS K O 48 16 && okS K O 48 12 && okS K O 48 13 && okS K O 67 14 && okS K O 67 36 && okS K O 67 26 && okS K O 67 27) = true) (h1 : S1.1 48 15 = x) (h2 : S1.1 67 1 = x) : MsRel S1 := by
  simp only [Bool.and_eq_true] at c
  obtain ⟨⟨⟨⟨⟨⟨⟨c1, c2⟩, c3⟩, c4⟩, c5⟩, c6⟩, c7⟩, c8⟩ := c
  obtain ⟨m1, m2, m3, m4, m5, m6⟩ := h
  refine ⟨by rw [h1, h2], ?_, ?_, ?_, ?_, ?_⟩
  · rw [(hF.s c1).1, (hF.s c5).1]; exact m2
  · rw [(hF.s c2).1, (hF.s c6).1]; exact m3
  · rw [(hF.s c3).1, (hF.s c7).1]; exact m4
  · rw [(hF.s c7).1]; exact m5
  · rw [(hF.s c4).2, (hF.s c8).2]; exact m6
theorem Rel.find {S S1 : St} {x : Int32} (h : Rel S) (hF : Fq [] [(48, 15), (67, 0), (67, 1)] S S1) (h1 : S1.1 48 15 = x) (h2 : S1.1 67 1 = x) : Rel S1 := by
  obtain ⟨r1, r2, r3, r4, r5, r6, r7, r8, r9⟩ := h
  exact ⟨r1.q hF (by decide), r2.q hF (by decide), r3.q hF (by decide), r4.q hF (by decide), r5.q hF (by decide), r6.q hF (by decide), r7.q hF (by decide), r8.find hF (by decide) h1 h2, r9.q hF (by decide)⟩
def shK : List Nat := [0, 1, 2, 3, 4, 5, 6, 7, 8, 9, 10, 11, 12, 13, 14, 15, 68, 69, 70]
theorem shK_lt {k : Nat} (h : k < 16) : k ∈ shK := by
  have : ∀ k, k < 16 → k ∈ shK := by decide
  exact this k h
abbrev shO : List (Nat × Nat) := [(48, 15), (67, 0), (67, 1)]
theorem Rel.sheet {S S1 : St} {x : Int32} (h : Rel S) (hF : Fq shK shO S S1) (hs : ShRel S1) (h1 : S1.1 48 15 = x) (h2 : S1.1 67 1 = x) : Rel S1 := by
  obtain ⟨r1, r2, r3, r4, r5, r6, r7, r8, r9⟩ := h
  exact ⟨hs, r2.q hF (by decide), r3.q hF (by decide), r4.q hF (by decide), r5.q hF (by decide), r6.q hF (by decide), r7.q hF (by decide), r8.find hF (by decide) h1 h2, r9.q hF (by decide)⟩
theorem ShRel.upd {S S1 : St} (h : ShRel S) (s : Nat) (hs : ShAt S1 s) (ho : ∀ t, t < 8 → t ≠ s → S1.1 (2 * t) = S.1 (2 * t) ∧ S1.1 (2 * t + 1) = S.1 (2 * t + 1) ∧ S1.1 68 t = S.1 68 t ∧ S1.1 69 t = S.1 69 t ∧ ∀ j, j < 60 → S1.1 70 (60 * t + j) = S.1 70 (60 * t + j)) : ShRel S1 := by
  intro t ht
  by_cases e : t = s
  · rw [e]; exact hs
  · obtain ⟨z, h1, h2, h3, h4, h5⟩ := h t ht
    obtain ⟨o1, o2, o3, o4, o5⟩ := ho t ht e
    refine ⟨z, h1, by rw [o1]; exact h2, by rw [o4]; exact h3, fun j hj => by rw [o2, o5 j hj]; exact h4 j hj, by rw [o1, o3]; exact h5⟩
theorem shh : ∀ s, s < 8 → ([0, 2, 4, 6, 8, 10, 12, 14] : List Nat)[s]? = some (2 * s) := by decide
