/-! the reference's faults; the class's number -/
theorem c_bad0 {Γ : GG} {S : St} {x : Int32} (h : S.1 67 20 = 0) : kX10_bad Γ [.ref (Γ.1 67), .int x] S (rV (pI (pI S 67 20 x) 67 21 (S.1 67 18))) := by
  refine oX10_bad (fun X hX hE => ?_)
  have e : (pI S 67 20 x).1 67 18 = S.1 67 18 := by rw [pR_self, upd_ne _ _ (by decide)]
  refine g_aload_n (i := 0) hX dX10_bad_0 rfl rfl ?_
  refine fX10_161 hX dX10_bad_1 ?_
  refine g_if_ne (tgt := 20) hX dX10_bad_4 (by decide) (fun h9 => absurd (h) h9) (fun _ => ?_)
  refine g_aload_n (i := 0) hX dX10_bad_7 rfl rfl ?_
  refine g_iload_n (i := 1) hX dX10_bad_8 rfl rfl ?_
  refine pX10_161 hX dX10_bad_9 ?_
  refine g_aload_n (i := 0) hX dX10_bad_12 rfl rfl ?_
  refine g_aload_n (i := 0) hX dX10_bad_13 rfl rfl ?_
  refine fX10_146 hX dX10_bad_14 ?_
  refine pX10_164 hX dX10_bad_17 ?_
  rw [e]
  refine g_vret (st := []) hX hE rfl dX10_bad_20 (⟨rfl, rfl⟩)
theorem c_bad1 {Γ : GG} {S : St} {x : Int32} (h : ¬ S.1 67 20 = 0) : kX10_bad Γ [.ref (Γ.1 67), .int x] S (rV S) := by
  refine oX10_bad (fun X hX hE => ?_)
  refine g_aload_n (i := 0) hX dX10_bad_0 rfl rfl ?_
  refine fX10_161 hX dX10_bad_1 ?_
  refine g_if_ne (tgt := 20) hX dX10_bad_4 (by decide) (fun _ => ?_) (fun h9 => absurd h9 (h))
  refine g_vret (st := []) hX hE rfl dX10_bad_20 (⟨rfl, rfl⟩)
theorem c_must_t {Γ : GG} {S : St} {Q : St → Prop} (h : S.1 67 20 = 0) (hn : kX10_next Γ [.ref (Γ.1 67)] S (eV Q)) : kX10_must Γ [.ref (Γ.1 67), .int 1] S (eV Q) := by
  refine oX10_must (fun X hX hE => ?_)
  refine g_iload_n (i := 1) hX dX10_must_0 rfl rfl ?_
  refine g_if_ne (tgt := 9) hX dX10_must_1 (by decide) (fun _ => ?_) (fun h9 => absurd h9 ((by decide)))
  refine g_aload_n (i := 0) hX dX10_must_9 rfl rfl ?_
  refine fX10_161 hX dX10_must_10 ?_
  refine g_if_ne (tgt := 20) hX dX10_must_13 (by decide) (fun h9 => absurd (h) h9) (fun _ => ?_)
  refine g_aload_n (i := 0) hX dX10_must_16 rfl rfl ?_
  refine eX10_171 hX ⟨Nat.le_of_ble_eq_true rfl, Nat.le_of_ble_eq_true rfl⟩ (Nat.le_of_ble_eq_true rfl) dX10_must_17 (hn) (fun T hT => ?_)
  refine g_vret (st := []) hX hE rfl dX10_must_20 (⟨rfl, hT⟩)
theorem c_must_f {Γ : GG} {S : St} (h : S.1 67 20 = 0) : kX10_must Γ [.ref (Γ.1 67), .int 0] S (rV (pI (pI S 67 20 1) 67 21 (S.1 67 18))) := by
  refine oX10_must (fun X hX hE => ?_)
  have e : ¬ (pI (pI S 67 20 1) 67 21 (S.1 67 18)).1 67 20 = 0 := by rw [pR_self, upd_ne _ _ (by decide), pR_self, upd_self]; decide
  refine g_iload_n (i := 1) hX dX10_must_0 rfl rfl ?_
  refine g_if_ne (tgt := 9) hX dX10_must_1 (by decide) (fun h9 => absurd (rfl) h9) (fun _ => ?_)
  refine g_aload_n (i := 0) hX dX10_must_4 rfl rfl ?_
  refine g_iconst hX dX10_must_5 ic1 ?_
  refine sX10_167 hX ⟨Nat.le_of_ble_eq_true rfl, Nat.le_of_ble_eq_true rfl⟩ (Nat.le_of_ble_eq_true rfl) dX10_must_6 (c_bad0 h) ?_
  refine g_aload_n (i := 0) hX dX10_must_9 rfl rfl ?_
  refine fX10_161 hX dX10_must_10 ?_
  refine g_if_ne (tgt := 20) hX dX10_must_13 (by decide) (fun _ => ?_) (fun h9 => absurd h9 (e))
  refine g_vret (st := []) hX hE rfl dX10_must_20 (⟨rfl, rfl⟩)
theorem c_must_x {Γ : GG} {S : St} {x : Int32} (h : ¬ S.1 67 20 = 0) : kX10_must Γ [.ref (Γ.1 67), .int x] S (rV S) := by
  refine oX10_must (fun X hX hE => ?_)
  by_cases q : x = 0
  · refine g_iload_n (i := 1) hX dX10_must_0 rfl rfl ?_
    refine g_if_ne (tgt := 9) hX dX10_must_1 (by decide) (fun h9 => absurd (q) h9) (fun _ => ?_)
    refine g_aload_n (i := 0) hX dX10_must_4 rfl rfl ?_
    refine g_iconst hX dX10_must_5 ic1 ?_
    refine sX10_167 hX ⟨Nat.le_of_ble_eq_true rfl, Nat.le_of_ble_eq_true rfl⟩ (Nat.le_of_ble_eq_true rfl) dX10_must_6 (c_bad1 h) ?_
    refine g_aload_n (i := 0) hX dX10_must_9 rfl rfl ?_
    refine fX10_161 hX dX10_must_10 ?_
    refine g_if_ne (tgt := 20) hX dX10_must_13 (by decide) (fun _ => ?_) (fun h9 => absurd h9 (h))
    refine g_vret (st := []) hX hE rfl dX10_must_20 (⟨rfl, rfl⟩)
  · refine g_iload_n (i := 1) hX dX10_must_0 rfl rfl ?_
    refine g_if_ne (tgt := 9) hX dX10_must_1 (by decide) (fun _ => ?_) (fun h9 => absurd h9 (q))
    refine g_aload_n (i := 0) hX dX10_must_9 rfl rfl ?_
    refine fX10_161 hX dX10_must_10 ?_
    refine g_if_ne (tgt := 20) hX dX10_must_13 (by decide) (fun _ => ?_) (fun h9 => absurd h9 (h))
    refine g_vret (st := []) hX hE rfl dX10_must_20 (⟨rfl, rfl⟩)
