/-! promise 10: model -/
theorem Cn.imp {Γ : GG} {y : MethodName} {cc : ByteArray} {maxL : Nat} {ret : Option FieldType} {fr lo : Nat} {av : List Value} {S : St} {P P' : Option Value → St → Prop} (h : Cn Γ y cc maxL ret fr lo av S P) (hi : ∀ v T, P v T → P' v T) : Cn Γ y cc maxL ret fr lo av S P' := by
  intro l p e a1 a2 a3 s m args below a4 a5 a6 a7
  obtain ⟨n, o, b1, b2, b3, ⟨v, S', e1, e2, e3, e4⟩, b4⟩ := h l p e a1 a2 a3 s m args below a4 a5 a6 a7
  exact ⟨n, o, b1, b2, b3, ⟨v, S', e1, hi v S' e2, e3, e4⟩, b4⟩
def flW (V : Nat → Nat → Nat) (j : Nat) : Nat := if j < 10 then V 0 j else if j < 21 then V 1 (j - 10) else if j < 31 then 0 else if j < 40 then V 2 (j - 30) else V 3 (j - 40)
theorem flW_at {V : Nat → Nat → Nat} {p i : Nat} (hp : p < 4) (h1 : wLo p ≤ i) (h2 : i < wHi p) : flW V (wOff p + i) = V p i := by
  rcases (by omega : p = 0 ∨ p = 1 ∨ p = 2 ∨ p = 3) with rfl | rfl | rfl | rfl
  · have h2' : i < 10 := h2
    show flW V (0 + i) = _
    unfold flW; rw [if_pos (by omega), Nat.zero_add]
  · have h2' : i < 11 := h2
    show flW V (10 + i) = _
    unfold flW; rw [if_neg (by omega), if_pos (by omega), Nat.add_sub_cancel_left]
  · have h2' : i < 10 := h2
    have h1' : 1 ≤ i := h1
    show flW V (30 + i) = _
    unfold flW; rw [if_neg (by omega), if_neg (by omega), if_neg (by omega), if_pos (by omega), Nat.add_sub_cancel_left]
  · have h2' : i < 9 := h2
    show flW V (40 + i) = _
    unfold flW; rw [if_neg (by omega), if_neg (by omega), if_neg (by omega), if_neg (by omega), Nat.add_sub_cancel_left]
theorem flW_no {V : Nat → Nat → Nat} {j : Nat} (h1 : 21 ≤ j) (h2 : j ≤ 30) : flW V j = 0 := by
  unfold flW; rw [if_neg (by omega), if_neg (by omega), if_pos (by omega)]
theorem flW_cases {j : Nat} (h : j < 49) : (21 ≤ j ∧ j ≤ 30) ∨ ∃ p i, p < 4 ∧ wLo p ≤ i ∧ i < wHi p ∧ j = wOff p + i := by
  by_cases q0 : j < 10
  · exact Or.inr ⟨0, j, by decide, Nat.zero_le _, q0, (Nat.zero_add _).symm⟩
  by_cases q1 : j < 21
  · exact Or.inr ⟨1, j - 10, by decide, Nat.zero_le _, show j - 10 < 11 by omega, show j = 10 + (j - 10) by omega⟩
  by_cases q2 : j < 31
  · exact Or.inl ⟨by omega, by omega⟩
  by_cases q3 : j < 40
  · exact Or.inr ⟨2, j - 30, by decide, show 1 ≤ j - 30 by omega, show j - 30 < 10 by omega, show j = 30 + (j - 30) by omega⟩
  · exact Or.inr ⟨3, j - 40, by decide, Nat.zero_le _, show j - 40 < 9 by omega, show j = 40 + (j - 40) by omega⟩
theorem wOff_inj {p i q k : Nat} (hp : p < 4) (hq : q < 4) (h1 : wLo p ≤ i) (h2 : i < wHi p) (h3 : wLo q ≤ k) (h4 : k < wHi q) (e : wOff p + i = wOff q + k) : p = q ∧ i = k := by
  have l : ∀ p, p < 4 → (p = 0 ∧ wLo p = 0 ∧ wHi p = 10 ∧ wOff p = 0) ∨ (p = 1 ∧ wLo p = 0 ∧ wHi p = 11 ∧ wOff p = 10) ∨ (p = 2 ∧ wLo p = 1 ∧ wHi p = 10 ∧ wOff p = 30) ∨ (p = 3 ∧ wLo p = 0 ∧ wHi p = 9 ∧ wOff p = 40) := by decide
  have l1 := l p hp
  have l2 := l q hq
  omega
theorem wOff_out {p i : Nat} (hp : p < 4) (h1 : wLo p ≤ i) (h2 : i < wHi p) : ¬ (21 ≤ wOff p + i ∧ wOff p + i ≤ 30) := by
  rcases (by omega : p = 0 ∨ p = 1 ∨ p = 2 ∨ p = 3) with rfl | rfl | rfl | rfl
  · have h2' : i < 10 := h2
    show ¬ (21 ≤ 0 + i ∧ 0 + i ≤ 30); omega
  · have h2' : i < 11 := h2
    show ¬ (21 ≤ 10 + i ∧ 10 + i ≤ 30); omega
  · have h1' : 1 ≤ i := h1
    show ¬ (21 ≤ 30 + i ∧ 30 + i ≤ 30); omega
  · show ¬ (21 ≤ 40 + i ∧ 40 + i ≤ 30); omega
theorem flW_upd {V : Nat → Nat → Nat} {p s v j : Nat} (hp : p < 4) (h1 : wLo p ≤ s) (h2 : s < wHi p) (hj : j < 49) : flW (fun p' s' => if p' = p ∧ s' = s then v else V p' s') j = if j = wOff p + s then v else flW V j := by
  rcases flW_cases hj with ⟨q1, q2⟩ | ⟨p', i, hp', g1, g2, rfl⟩
  · rw [flW_no q1 q2, flW_no q1 q2, if_neg (fun e => wOff_out hp h1 h2 (by omega))]
  · rw [flW_at hp' g1 g2, flW_at hp' g1 g2]
    by_cases e : p' = p ∧ i = s
    · rw [if_pos e, if_pos (by rw [e.1, e.2])]
    · rw [if_neg e, if_neg (fun z => e (wOff_inj hp' hp g1 g2 h1 h2 z))]
def wOk (V : Nat → Nat → Nat) : Prop := (∀ p, p < 4 → ∀ i, i < 11 → V p i ≤ 99) ∧ ∀ p, p < 4 → ∀ i, i < 11 → ¬ (wLo p ≤ i ∧ i < wHi p) → V p i = 0
theorem runT_ok {b : Nat → Nat} {n : Nat} : ∀ d g V, g ≤ n → wOk V → (runT b n d g V).1 ≤ 2 ∧ (runT b n d g V).2.1 ≤ n ∧ wOk (runT b n d g V).2.2 := by
  intro d
  induction d with
  | zero => intro g V hg hV; exact ⟨Nat.zero_le _, hg, hV⟩
  | succ d ih =>
    intro g V hg hV
    rw [runT]
    split
    · exact ⟨Nat.zero_le _, hg, hV⟩
    · obtain ⟨⟨a1, a2, a3⟩, -⟩ := tel_ok (b := b) hg
      split
      · rename_i q
        obtain ⟨c1, c2, c3, c4⟩ := a3 q
        refine ih _ _ (nx_ok a2).2 ⟨fun p hp i hi => ?_, fun p hp i hi hn => ?_⟩
        · show (if _ then _ else _) ≤ 99
          split
          · exact c4
          · exact hV.1 p hp i hi
        · show (if _ then _ else _) = 0
          rw [if_neg (by rintro ⟨rfl, rfl⟩; exact hn ⟨c2, c3⟩)]
          exact hV.2 p hp i hi hn
      · exact ⟨a1, a2, hV⟩
def cz (f : Nat → Nat) : Nat → Nat
  | 0 => 0
  | k + 1 => cz f k + (if f k = 0 then 0 else 1)
theorem cz_le (f : Nat → Nat) : ∀ k, cz f k ≤ k := by
  intro k
  induction k with
  | zero => exact Nat.le_refl _
  | succ k ih => rw [cz]; split <;> omega
theorem cz_add (f : Nat → Nat) (a : Nat) : ∀ k, cz f (a + k) = cz f a + cz (fun j => f (a + j)) k := by
  intro k
  induction k with
  | zero => rfl
  | succ k ih =>
    show cz f (a + k) + _ = cz f a + (cz (fun j => f (a + j)) k + _)
    rw [ih, Nat.add_assoc]; rfl
theorem cz_congr {f h : Nat → Nat} : ∀ k, (∀ j, j < k → f j = h j) → cz f k = cz h k := by
  intro k
  induction k with
  | zero => intro _; rfl
  | succ k ih => intro q; rw [cz, cz, ih (fun j hj => q j (by omega)), q k (by omega)]
theorem cz_0 {f : Nat → Nat} : ∀ k, (∀ j, j < k → f j = 0) → cz f k = 0 := by
  intro k
  induction k with
  | zero => intro _; rfl
  | succ k ih => intro q; rw [cz, ih (fun j hj => q j (by omega)), q k (by omega)]; rfl
theorem nz_cz {f : Nat → Int32} {g : Nat → Nat} : ∀ k, (∀ j, j < k → f j = nI (g j) ∧ g j ≤ 99) → nzN f k = cz g k := by
  intro k
  induction k with
  | zero => intro _; rfl
  | succ k ih =>
    intro q
    obtain ⟨q1, q2⟩ := q k (by omega)
    rw [nzN, cz, ih (fun j hj => q j (by omega))]
    congr 1
    by_cases e : g k = 0
    · rw [if_pos e, if_pos (by rw [q1, e]; rfl)]
    · rw [if_neg e, if_neg (by rw [q1]; exact nI_ne0 (by omega) (by omega))]
theorem cz_flat {V : Nat → Nat → Nat} (h : wOk V) : cz (flW V) 49 = cz (V 0) 11 + cz (V 1) 11 + cz (V 2) 11 + cz (V 3) 11 := by
  have z := h.2
  have e49 : cz (flW V) 49 = cz (flW V) 10 + cz (fun j => flW V (10 + j)) 11 + cz (fun j => flW V (21 + j)) 10 + cz (fun j => flW V (31 + j)) 9 + cz (fun j => flW V (40 + j)) 9 := by
    rw [show 49 = 40 + 9 from rfl, cz_add, show 40 = 31 + 9 from rfl, cz_add, show 31 = 21 + 10 from rfl, cz_add, show 21 = 10 + 11 from rfl, cz_add]
  have a0 : cz (flW V) 10 = cz (V 0) 10 := cz_congr _ (fun j hj => by have := flW_at (V := V) (p := 0) (i := j) (by decide) (Nat.zero_le _) hj; rw [show wOff 0 + j = j from Nat.zero_add _] at this; exact this)
  have a1 : cz (fun j => flW V (10 + j)) 11 = cz (V 1) 11 := cz_congr _ (fun j hj => flW_at (V := V) (p := 1) (i := j) (by decide) (Nat.zero_le _) hj)
  have a2 : cz (fun j => flW V (21 + j)) 10 = 0 := cz_0 _ (fun j hj => flW_no (by omega) (by omega))
  have a3 : cz (fun j => flW V (31 + j)) 9 = cz (fun j => V 2 (1 + j)) 9 := cz_congr _ (fun j hj => by
    have := flW_at (V := V) (p := 2) (i := 1 + j) (by decide) (show 1 ≤ 1 + j by omega) (show 1 + j < 10 by omega)
    show flW V (31 + j) = _
    rw [show 31 + j = wOff 2 + (1 + j) by show _ = 30 + (1 + j); omega]; exact this)
  have a4 : cz (fun j => flW V (40 + j)) 9 = cz (V 3) 9 := cz_congr _ (fun j hj => flW_at (V := V) (p := 3) (i := j) (by decide) (Nat.zero_le _) hj)
  have b0 : cz (V 0) 11 = cz (V 0) 10 := by rw [cz, z 0 (by decide) 10 (by decide) (by decide)]; rfl
  have b2 : cz (V 2) 11 = cz (fun j => V 2 (1 + j)) 9 := by
    rw [cz, z 2 (by decide) 10 (by decide) (by decide), show 10 = 1 + 9 from rfl, cz_add, cz, z 2 (by decide) 0 (by decide) (by decide)]
    show 0 + 0 + _ + 0 = _
    omega
  have b3 : cz (V 3) 11 = cz (V 3) 9 := by rw [cz, cz, z 3 (by decide) 10 (by decide) (by decide), z 3 (by decide) 9 (by decide) (by decide)]; rfl
  rw [e49, a0, a1, a2, a3, a4, b0, b2, b3, Nat.add_zero]
abbrev Omc : List (Nat × Nat) := [(50, 2), (50, 3), (50, 4), (50, 5), (50, 6), (48, 14)]
abbrev Omr : List (Nat × Nat) := [(67, 0), (67, 13), (67, 14), (67, 15), (67, 16), (67, 17), (67, 18), (67, 19), (67, 20), (67, 21)]
theorem c_modelC {Γ : GG} {S : St} {n : Nat} {b : Nat → Nat} {W : Nat → Nat → Nat} {F : Nat × Nat × (Nat → Nat → Nat)} (hb : BtC S n b) (hW : ∀ p, p < 4 → ∀ i, i < 11 → S.1 (36 + p) i = nI (W p i)) (hk : wOk W) (hF0 : runT b n (n + 1) (tkG b n 0) W = F) :
    kX9_model Γ [.ref (Γ.1 48)] S (eI (fun r S1 => (F.1 = 0 → r = nI (cz (F.2.2 0) 11 + cz (F.2.2 1) 11 + cz (F.2.2 2) 11 + cz (F.2.2 3) 11) ∧ (∀ p, p < 4 → ∀ i, i < 11 → S1.1 (36 + p) i = nI (F.2.2 p i)) ∧ S1.1 48 14 = S.1 48 14) ∧ (¬ F.1 = 0 → r = -1000100 - nI F.2.1 ∧ S1.1 48 14 = nI F.1 ∧ ∀ p, p < 4 → S1.1 (36 + p) = S.1 (36 + p)) ∧ S1.1 50 2 = 0 ∧ Fq [36, 37, 38, 39, 40, 41, 42, 43] Omc S S1)) := by
  refine oX9_model (fun X hX hE => ?_)
  have ok := runT_ok (b := b) (n := n) (n + 1) (tkG b n 0) W (tkG_ok (Nat.zero_le _)).2 hk
  rw [hF0] at ok
  refine g_aload_n (i := 0) hX dX9_model_0 rfl rfl ?_
  refine fX9_38 hX dX9_model_1 ?_
  refine fX9_177 hX dX9_model_4 ?_
  refine g_aload_n (i := 0) hX dX9_model_7 rfl rfl ?_
  refine fX9_31 hX dX9_model_8 ?_
  refine fX9_181 hX dX9_model_11 ?_
  refine eX9_184 hX ⟨Nat.le_of_ble_eq_true rfl, Nat.le_of_ble_eq_true rfl⟩ (Nat.le_of_ble_eq_true rfl) dX9_model_14 (c_copyWR) (fun T hT => ?_)
  obtain ⟨cT, hFT⟩ := hT
  have rT : rdC T W := fun p hp i hi => by rw [cT p hp i hi]; exact hW p hp i hi
  have cA := c_readAll (Γ := Γ) (hb.q hFT (by decide)) rT
  rw [hF0] at cA
  refine g_aload_n (i := 0) hX dX9_model_17 rfl rfl ?_
  refine fX9_31 hX dX9_model_18 ?_
  refine eX9_188 hX ⟨Nat.le_of_ble_eq_true rfl, Nat.le_of_ble_eq_true rfl⟩ (Nat.le_of_ble_eq_true rfl) dX9_model_21 (cA) (fun r U hU => ?_)
  obtain ⟨rfl, u3, uW, hFU⟩ := hU
  have hF2 : Fq [40, 41, 42, 43] Otk S U := (hFT.mono (fun _ z => z) (fun _ z => by cases z)).tr hFU
  refine g_istore_n (i := 1) hX dX9_model_24 rfl (by decide) rfl ?_
  refine g_aload_n (i := 0) hX dX9_model_25 rfl rfl ?_
  refine fX9_31 hX dX9_model_26 ?_
  refine g_iconst hX dX9_model_29 ic0 ?_
  refine pX9_173 hX dX9_model_30 ?_
  have hF3 : Fq [36, 37, 38, 39, 40, 41, 42, 43] Omc S (pI U 50 2 0) := (hF2.mono (by decide) (by decide)).I (by decide)
  have e2 : (pI U 50 2 0).1 50 2 = 0 := by rw [pR_self, upd_self]
  by_cases q : F.1 = 0
  · have hr : rdC (pI U 50 2 0) F.2.2 := fun p hp i hi => by rw [pR_ne _ _ (by omega)]; exact uW q p hp i hi
    have e14 : (pI U 50 2 0).1 48 14 = S.1 48 14 := by rw [pR_ne _ _ (by decide)]; exact (hF2.s (by decide)).1
    generalize pI U 50 2 0 = V at *
    rw [q]
    refine g_iload_n (i := 1) hX dX9_model_33 rfl rfl ?_
    refine g_if_eq (tgt := 53) hX dX9_model_34 (by decide) (fun _ => ?_) (fun h9 => absurd (rfl) h9)
    refine g_aload_n (i := 0) hX dX9_model_53 rfl rfl ?_
    refine fX9_31 hX dX9_model_54 ?_
    refine fX9_181 hX dX9_model_57 ?_
    refine g_aload_n (i := 0) hX dX9_model_60 rfl rfl ?_
    refine fX9_38 hX dX9_model_61 ?_
    refine fX9_177 hX dX9_model_64 ?_
    refine eX9_184 hX ⟨Nat.le_of_ble_eq_true rfl, Nat.le_of_ble_eq_true rfl⟩ (Nat.le_of_ble_eq_true rfl) dX9_model_67 (c_copyRW) (fun Y hY => ?_)
    obtain ⟨cY, hFY⟩ := hY
    have yW : ∀ p, p < 4 → ∀ i, i < 11 → Y.1 (36 + p) i = nI (F.2.2 p i) := fun p hp i hi => by rw [cY p hp i hi]; exact hr p hp i hi
    have nz : ∀ p, p < 4 → nzN (Y.1 (36 + p)) 11 = cz (F.2.2 p) 11 := fun p hp => nz_cz 11 (fun j hj => ⟨yW p hp j hj, ok.2.2.1 p hp j hj⟩)
    have hc := c_howManyTold (Γ := Γ) (S := Y)
    rw [nz 0 (by decide), nz 1 (by decide), nz 2 (by decide), nz 3 (by decide)] at hc
    refine g_aload_n (i := 0) hX dX9_model_70 rfl rfl ?_
    refine fX9_38 hX dX9_model_71 ?_
    refine sX9_195 hX ⟨Nat.le_of_ble_eq_true rfl, Nat.le_of_ble_eq_true rfl⟩ (Nat.le_of_ble_eq_true rfl) dX9_model_74 (hc) ?_
    refine g_iret (st := []) hX hE rfl dX9_model_77 (⟨_, rfl, fun _ => ⟨rfl, yW, ?_⟩, fun z => absurd q z, ?_, hF3.tr (hFY.mono (by decide) (fun _ z => by cases z))⟩)
    · rw [(hFY.s (k := 48) (j := 14) (by decide)).1]; exact e14
    · rw [(hFY.s (k := 50) (j := 2) (by decide)).1]; exact e2
  · have e3 : (pI (pI U 50 2 0) 48 14 (nI F.1)).1 50 3 = nI F.2.1 := by rw [pR_ne _ _ (by decide), pR_self, upd_ne _ _ (by decide)]; exact u3 q
    refine g_iload_n (i := 1) hX dX9_model_33 rfl rfl ?_
    refine g_if_eq (tgt := 53) hX dX9_model_34 (by decide) (fun h9 => absurd h9 ((nI_ne0 (by omega) (by omega)))) (fun _ => ?_)
    refine g_aload_n (i := 0) hX dX9_model_37 rfl rfl ?_
    refine g_iload_n (i := 1) hX dX9_model_38 rfl rfl ?_
    refine pX9_85 hX dX9_model_39 ?_
    refine g_ldc hX ccX9_191 dX9_model_42 ?_
    refine g_aload_n (i := 0) hX dX9_model_44 rfl rfl ?_
    refine fX9_31 hX dX9_model_45 ?_
    refine fX9_192 hX dX9_model_48 ?_
    rw [e3]
    refine g_isub hX dX9_model_51 ?_
    refine g_iret (st := []) hX hE rfl dX9_model_52 (⟨_, rfl, fun z => absurd z q, fun _ => ⟨rfl, ?_, fun p hp => ?_⟩, ?_, hF3.I (by decide)⟩)
    · rw [pR_self, upd_self]
    · rw [pR_ne _ _ (by omega), pR_ne _ _ (by omega)]
      exact hF2.row (by simp only [List.mem_cons, List.not_mem_nil, or_false]; omega) (by simp only [Otk, List.mem_cons, List.not_mem_nil, or_false]; rintro x (rfl | rfl | rfl | rfl) <;> (show ¬ 50 = _; omega))
    · rw [pR_ne _ _ (by decide)]; exact e2
theorem c_modelR {Γ : GG} {S : St} {n : Nat} {b : Nat → Nat} {W : Nat → Nat → Nat} {F : Nat × Nat × (Nat → Nat → Nat)} (hn : n ≤ 400) (h13 : S.1 67 13 = nI n) (hby : ∀ j, j < n → S.1 78 j = nI (b j) ∧ b j < 256) (hW : ∀ j, j < 49 → S.1 75 j = nI (flW W j)) (hk : wOk W) (hF0 : runT b n (n + 1) (tkG b n 0) W = F) :
    kX10_model Γ [.ref (Γ.1 67)] S (eI (fun r S1 => (F.1 = 0 → r = nI (cz (flW F.2.2) 49) ∧ (∀ j, j < 49 → S1.1 75 j = nI (flW F.2.2 j)) ∧ S1.1 67 14 = S.1 67 14) ∧ (¬ F.1 = 0 → r = -1000100 - nI F.2.1 ∧ S1.1 67 14 = nI F.1 ∧ S1.1 75 = S.1 75) ∧ S1.1 67 13 = 0 ∧ Fq [75, 76] Omr S S1)) := by
  refine oX10_model (fun X hX hE => ?_)
  have ok := runT_ok (b := b) (n := n) (n + 1) (tkG b n 0) W (tkG_ok (Nat.zero_le _)).2 hk
  rw [hF0] at ok
  have end0 : ∀ T x, F.1 = 0 → T.1 67 20 = 0 → (∀ j, j < 49 → T.1 76 j = nI (flW F.2.2 j)) → T.1 67 13 = 0 → T.1 67 14 = S.1 67 14 → Fq [75, 76] Omr S T → G Γ X T 80 [(0, .ref (Γ.1 67)), (1, .int x)] [] := by
    intro T x q t20 t76 t13 t14 hF
    have flb : ∀ j, j < 49 → flW F.2.2 j ≤ 99 := fun j hj => by
      have hb9 : ∀ p, p < 4 → wHi p ≤ 11 := by decide
      rcases flW_cases hj with ⟨q1, q2⟩ | ⟨p, i, hp, g1, g2, rfl⟩
      · rw [flW_no q1 q2]; decide
      · have := hb9 p hp
        rw [flW_at hp g1 g2]; exact ok.2.2.1 p hp i (by omega)
    have loop : ∀ d k U, k + d = 49 → (∀ j, j < k → U.1 75 j = nI (flW F.2.2 j)) → Fq [75] [] T U → G Γ X U 107 [(0, .ref (Γ.1 67)), (1, .int (nI (cz (flW F.2.2) k))), (2, .int (nI k))] [] := by
      intro d
      induction d with
      | zero =>
        intro k U hk hU hFU
        obtain rfl : k = 49 := by omega
        refine g_iload_n (i := 2) hX dX10_model_107 rfl rfl ?_
        refine g_bipush hX dX10_model_108 bp49 ?_
        refine g_icmp_ge (tgt := 148) hX dX10_model_110 (by decide) (fun _ => ?_) (fun h9 => absurd ((by decide)) h9)
        refine g_iload_n (i := 1) hX dX10_model_148 rfl rfl ?_
        refine g_iret (st := []) hX hE rfl dX10_model_149 (⟨_, rfl, fun _ => ⟨rfl, hU, ?_⟩, fun z => absurd q z, ?_, hF.tr (hFU.mono (by decide) (fun _ z => by cases z))⟩)
        · rw [(hFU.s (k := 67) (j := 14) (by decide)).1]; exact t14
        · rw [(hFU.s (k := 67) (j := 13) (by decide)).1]; exact t13
      | succ d ih =>
        intro k U hk hU hFU
        have u76 : U.1 76 k = nI (flW F.2.2 k) := by rw [hFU.r (k := 76) (by decide)]; exact t76 k (by omega)
        have hb9 := flb k (by omega)
        refine g_iload_n (i := 2) hX dX10_model_107 rfl rfl ?_
        refine g_bipush hX dX10_model_108 bp49 ?_
        refine g_icmp_ge (tgt := 148) hX dX10_model_110 (by decide) (fun h9 => absurd h9 (nI_ge (b := 49) (by omega) (by decide))) (fun _ => ?_)
        refine g_aload_n (i := 0) hX dX10_model_113 rfl rfl ?_
        refine fX10_31 hX dX10_model_114 ?_
        refine g_iload_n (i := 2) hX dX10_model_117 rfl rfl ?_
        refine g_aload_n (i := 0) hX dX10_model_118 rfl rfl ?_
        refine fX10_34 hX dX10_model_119 ?_
        refine g_iload_n (i := 2) hX dX10_model_122 rfl rfl ?_
        refine g_ialoadN hX (ia76) rfl ((show k < 49 by omega)) (by first | decide | assumption | omega) dX10_model_123 ?_
        refine g_iastoreN hX (ia75) rfl ((show k < 49 by omega)) (by first | decide | assumption | omega) dX10_model_124 ?_
        rw [u76]
        have v75 : (pI U 75 k (nI (flW F.2.2 k))).1 75 k = nI (flW F.2.2 k) := by rw [pR_self, upd_self]
        have ih2 := ih (k + 1) (pI U 75 k (nI (flW F.2.2 k))) (by omega) (fun j hj => by
          rw [pR_self]
          by_cases e : j = k
          · rw [e, upd_self]
          · rw [upd_ne _ _ e]; exact hU j (by omega)) (hFU.R (by decide))
        rw [cz] at ih2
        by_cases e : flW F.2.2 k = 0
        · rw [if_pos e] at ih2
          refine g_iload_n (i := 1) hX dX10_model_125 rfl rfl ?_
          refine g_aload_n (i := 0) hX dX10_model_126 rfl rfl ?_
          refine fX10_31 hX dX10_model_127 ?_
          refine g_iload_n (i := 2) hX dX10_model_130 rfl rfl ?_
          refine g_ialoadN hX (ia75) rfl ((show k < 49 by omega)) (by first | decide | assumption | omega) dX10_model_131 ?_
          refine g_if_le (tgt := 139) hX dX10_model_132 (by decide) (fun _ => ?_) (fun h9 => absurd ((by rw [v75, e]; exact Int32.le_refl _)) h9)
          refine g_iconst hX dX10_model_139 ic0 ?_
          refine g_iadd hX dX10_model_140 ?_
          refine g_istore_n (i := 1) hX dX10_model_141 rfl (by decide) rfl ?_
          rw [show (0 : Int32) = nI 0 from rfl, nI_add2]
          refine g_iinc hX dX10_model_142 rfl ic1 (by decide) rfl ?_
          refine g_goto (tgt := 107) hX dX10_model_145 (by decide) ?_
          rw [nI_1]
          exact g_weak ih2 (as_c rfl (as_c rfl (as_c rfl (as_n))))
        · rw [if_neg e] at ih2
          refine g_iload_n (i := 1) hX dX10_model_125 rfl rfl ?_
          refine g_aload_n (i := 0) hX dX10_model_126 rfl rfl ?_
          refine fX10_31 hX dX10_model_127 ?_
          refine g_iload_n (i := 2) hX dX10_model_130 rfl rfl ?_
          refine g_ialoadN hX (ia75) rfl ((show k < 49 by omega)) (by first | decide | assumption | omega) dX10_model_131 ?_
          refine g_if_le (tgt := 139) hX dX10_model_132 (by decide) (fun h9 => absurd h9 ((by rw [v75, i_le, nI_toInt (by omega), t0]; omega))) (fun _ => ?_)
          refine g_iconst hX dX10_model_135 ic1 ?_
          refine g_goto (tgt := 140) hX dX10_model_136 (by decide) ?_
          refine g_iadd hX dX10_model_140 ?_
          refine g_istore_n (i := 1) hX dX10_model_141 rfl (by decide) rfl ?_
          rw [show (1 : Int32) = nI 1 from rfl, nI_add2]
          refine g_iinc hX dX10_model_142 rfl ic1 (by decide) rfl ?_
          refine g_goto (tgt := 107) hX dX10_model_145 (by decide) ?_
          rw [nI_1]
          exact g_weak ih2 (as_c rfl (as_c rfl (as_c rfl (as_n))))
    refine g_aload_n (i := 0) hX dX10_model_80 rfl rfl ?_
    refine fX10_161 hX dX10_model_81 ?_
    refine g_if_le (tgt := 103) hX dX10_model_84 (by decide) (fun _ => ?_) (fun h9 => absurd ((by rw [t20]; exact Int32.le_refl _)) h9)
    refine g_iconst hX dX10_model_103 ic0 ?_
    refine g_istore_n (i := 1) hX dX10_model_104 rfl (by decide) rfl ?_
    refine g_iconst hX dX10_model_105 ic0 ?_
    refine g_istore_n (i := 2) hX dX10_model_106 rfl (by decide) rfl ?_
    exact g_weak (loop 49 0 T rfl (fun j hj => absurd hj (by omega)) Fq.rf) (as_c rfl (as_c rfl (as_c rfl (as_n))))
  have end1 : ∀ T x, ¬ F.1 = 0 → T.1 67 20 = nI F.1 → T.1 67 21 = nI F.2.1 → T.1 67 13 = 0 → Fq [76] Omr S T → G Γ X T 80 [(0, .ref (Γ.1 67)), (1, .int x)] [] := by
    intro T x q t20 t21 t13 hF
    have g20 : ¬ T.1 67 20 ≤ 0 := by rw [t20, i_le, nI_toInt (by omega), t0]; omega
    refine g_aload_n (i := 0) hX dX10_model_80 rfl rfl ?_
    refine fX10_161 hX dX10_model_81 ?_
    refine g_if_le (tgt := 103) hX dX10_model_84 (by decide) (fun h9 => absurd h9 (g20)) (fun _ => ?_)
    refine g_aload_n (i := 0) hX dX10_model_87 rfl rfl ?_
    refine g_aload_n (i := 0) hX dX10_model_88 rfl rfl ?_
    refine fX10_161 hX dX10_model_89 ?_
    rw [t20]
    refine pX10_198 hX dX10_model_92 ?_
    refine g_ldc hX ccX10_201 dX10_model_95 ?_
    refine g_aload_n (i := 0) hX dX10_model_97 rfl rfl ?_
    refine fX10_164 hX dX10_model_98 ?_
    have e21 : (pI T 67 14 (nI F.1)).1 67 21 = nI F.2.1 := by rw [pR_self, upd_ne _ _ (by decide)]; exact t21
    rw [e21]
    refine g_isub hX dX10_model_101 ?_
    refine g_iret (st := []) hX hE rfl dX10_model_102 (⟨_, rfl, fun z => absurd z q, fun _ => ⟨rfl, ?_, ?_⟩, ?_, (hF.mono (by decide) (fun _ z => Or.inl z)).I (by decide)⟩)
    · rw [pR_self, upd_self]
    · rw [pR_ne _ _ (by decide)]; exact hF.r (by decide)
    · rw [pR_self, upd_ne _ _ (by decide)]; exact t13
  have main : ∀ d g T V x, n + 1 ≤ g + d → g ≤ n → BtR T n b → Tok T b n g → T.1 67 20 = 0 → (∀ j, j < 49 → T.1 76 j = nI (flW V j)) → T.1 67 13 = 0 → T.1 67 14 = S.1 67 14 → Fq [76] Omr S T → runT b n d g V = F → G Γ X T 58 [(0, .ref (Γ.1 67)), (1, .int x)] [] := by
    intro d
    induction d with
    | zero => intro g T V x h1 h2; omega
    | succ d ih =>
      intro g T V x h1 h2 hbT tT t20 t76 t13 t14 hF he
      have hk4 := tkK_le b n g
      rw [runT] at he
      by_cases q0 : tkK b n g = 0
      · rw [if_pos q0] at he
        refine g_aload_n (i := 0) hX dX10_model_58 rfl rfl ?_
        refine fX10_161 hX dX10_model_59 ?_
        refine g_if_ne (tgt := 80) hX dX10_model_62 (by decide) (fun h9 => absurd (t20) h9) (fun _ => ?_)
        refine g_aload_n (i := 0) hX dX10_model_65 rfl rfl ?_
        refine fX10_149 hX dX10_model_66 ?_
        refine g_iconst hX dX10_model_69 ic1 ?_
        refine g_icmp_eq (tgt := 80) hX dX10_model_70 (by decide) (fun _ => ?_) (fun h9 => absurd ((by rw [tT.kind, q0]; rfl)) h9)
        exact end0 T x (by rw [← he]) t20 (by rw [← he]; exact t76) t13 t14 (hF.mono (by decide) (fun _ z => Or.inl z))
      · rw [if_neg q0] at he
        obtain ⟨⟨ok1, ok2, ok3⟩, ok4⟩ := tel_ok (b := b) h2
        refine g_aload_n (i := 0) hX dX10_model_58 rfl rfl ?_
        refine fX10_161 hX dX10_model_59 ?_
        refine g_if_ne (tgt := 80) hX dX10_model_62 (by decide) (fun h9 => absurd (t20) h9) (fun _ => ?_)
        refine g_aload_n (i := 0) hX dX10_model_65 rfl rfl ?_
        refine fX10_149 hX dX10_model_66 ?_
        refine g_iconst hX dX10_model_69 ic1 ?_
        refine g_icmp_eq (tgt := 80) hX dX10_model_70 (by decide) (fun h9 => absurd h9 ((by rw [tT.kind]; exact nI_ne (b := 1) (by unfold kiR; omega) (by decide) (by unfold kiR; omega)))) (fun _ => ?_)
        refine g_aload_n (i := 0) hX dX10_model_73 rfl rfl ?_
        refine eX10_195 hX ⟨Nat.le_of_ble_eq_true rfl, Nat.le_of_ble_eq_true rfl⟩ (Nat.le_of_ble_eq_true rfl) dX10_model_74 ((c_readWeight hbT h2 t20 tT)) (fun U hU => ?_)
        obtain ⟨u0, u1, hFU⟩ := hU
        have hF2 : Fq [76] Omr S U := hF.tr (hFU.mono (fun _ z => z) (by decide))
        have u13 : U.1 67 13 = 0 := by rw [(hFU.s (k := 67) (j := 13) (by decide)).1]; exact t13
        have u14 : U.1 67 14 = S.1 67 14 := by rw [(hFU.s (k := 67) (j := 14) (by decide)).1]; exact t14
        refine g_goto (tgt := 58) hX dX10_model_77 (by decide) ?_
        by_cases q1 : (tel b n g).1 = 0
        · rw [if_pos q1] at he
          obtain ⟨c1, c2, c3, c4⟩ := ok3 q1
          obtain ⟨v1, v2, v3⟩ := u0 q1
          have sx := sign_nx ok2 (tel_sign q1)
          refine ih (nx b n (tel b n g).2.1) U _ x (by omega) (nx_ok ok2).2 (hbT.q hFU (by decide)) v1 v2 (fun j hj => ?_) u13 u14 hF2 he
          rw [flW_upd c1 c2 c3 hj, v3 j]
          by_cases e : j = wOff (tel b n g).2.2.1 + (tel b n g).2.2.2.1
          · rw [if_pos e, if_pos e]
          · rw [if_neg e, if_neg e]; exact t76 j hj
        · rw [if_neg q1] at he
          obtain ⟨v1, v2⟩ := u1 q1
          have n0 : ¬ U.1 67 20 = 0 := by rw [v1]; exact nI_ne0 (by omega) (by omega)
          refine g_aload_n (i := 0) hX dX10_model_58 rfl rfl ?_
          refine fX10_161 hX dX10_model_59 ?_
          refine g_if_ne (tgt := 80) hX dX10_model_62 (by decide) (fun _ => ?_) (fun h9 => absurd h9 (n0))
          exact end1 U x (by rw [← he]; exact q1) (by rw [← he]; exact v1) (by rw [← he]; exact v2) u13 hF2
  have copy : ∀ d k T, k + d = 49 → T.1 67 15 = nI n → T.1 67 16 = 0 → T.1 67 20 = 0 → T.1 67 13 = 0 → (∀ j, j < k → T.1 76 j = nI (flW W j)) → Fq [76] Omr S T → T.1 67 14 = S.1 67 14 → G Γ X T 30 [(0, .ref (Γ.1 67)), (1, .int (nI k))] [] := by
    intro d
    induction d with
    | zero =>
      intro k T hk t15 t16 t20 t13 t76 hF t14
      obtain rfl : k = 49 := by omega
      have hbT : BtR T n b := ⟨hn, t15, by rw [hF.r (k := 78) (by decide)]; exact hby⟩
      refine g_iload_n (i := 1) hX dX10_model_30 rfl rfl ?_
      refine g_bipush hX dX10_model_31 bp49 ?_
      refine g_icmp_ge (tgt := 54) hX dX10_model_33 (by decide) (fun _ => ?_) (fun h9 => absurd ((by decide)) h9)
      refine g_aload_n (i := 0) hX dX10_model_54 rfl rfl ?_
      refine eX10_171 hX ⟨Nat.le_of_ble_eq_true rfl, Nat.le_of_ble_eq_true rfl⟩ (Nat.le_of_ble_eq_true rfl) dX10_model_55 ((c_nextR (i0 := 0) hbT (Nat.zero_le _) t16)) (fun U hU => ?_)
      obtain ⟨a1, a2, a3, a4, hFU⟩ := hU
      refine main (n + 1) (tkG b n 0) U W (nI 49) (by omega) (tkG_ok (Nat.zero_le _)).2 (hbT.q hFU (by decide)) ⟨a1, a2, a3, a4⟩ ?_ ?_ ?_ ?_ (hF.tr (hFU.mono (fun _ z => by cases z) (by decide))) hF0
      · rw [(hFU.s (k := 67) (j := 20) (by decide)).1]; exact t20
      · rw [hFU.r (k := 76) (by decide)]; exact t76
      · rw [(hFU.s (k := 67) (j := 13) (by decide)).1]; exact t13
      · rw [(hFU.s (k := 67) (j := 14) (by decide)).1]; exact t14
    | succ d ih =>
      intro k T hk t15 t16 t20 t13 t76 hF t14
      have e75 : T.1 75 k = nI (flW W k) := by rw [hF.r (k := 75) (by decide)]; exact hW k (by omega)
      refine g_iload_n (i := 1) hX dX10_model_30 rfl rfl ?_
      refine g_bipush hX dX10_model_31 bp49 ?_
      refine g_icmp_ge (tgt := 54) hX dX10_model_33 (by decide) (fun h9 => absurd h9 (nI_ge (b := 49) (by omega) (by decide))) (fun _ => ?_)
      refine g_aload_n (i := 0) hX dX10_model_36 rfl rfl ?_
      refine fX10_34 hX dX10_model_37 ?_
      refine g_iload_n (i := 1) hX dX10_model_40 rfl rfl ?_
      refine g_aload_n (i := 0) hX dX10_model_41 rfl rfl ?_
      refine fX10_31 hX dX10_model_42 ?_
      refine g_iload_n (i := 1) hX dX10_model_45 rfl rfl ?_
      refine g_ialoadN hX (ia75) rfl ((show k < 49 by omega)) (by first | decide | assumption | omega) dX10_model_46 ?_
      rw [e75]
      refine g_iastoreN hX (ia76) rfl ((show k < 49 by omega)) (by first | decide | assumption | omega) dX10_model_47 ?_
      refine g_iinc hX dX10_model_48 rfl ic1 (by decide) rfl ?_
      refine g_goto (tgt := 30) hX dX10_model_51 (by decide) ?_
      rw [nI_1]
      refine ih (k + 1) _ (by omega) ?_ ?_ ?_ ?_ (fun j hj => ?_) (hF.R (by decide)) ?_
      · rw [pR_ne _ _ (by decide)]; exact t15
      · rw [pR_ne _ _ (by decide)]; exact t16
      · rw [pR_ne _ _ (by decide)]; exact t20
      · rw [pR_ne _ _ (by decide)]; exact t13
      · rw [pR_self]
        by_cases e : j = k
        · rw [e, upd_self]
        · rw [upd_ne _ _ e]; exact t76 j (by omega)
      · rw [pR_ne _ _ (by decide)]; exact t14
  have g13 : (pI S 67 0 0).1 67 13 = nI n := by rw [pR_self, upd_ne _ _ (by decide)]; exact h13
  refine g_aload_n (i := 0) hX dX10_model_0 rfl rfl ?_
  refine g_iconst hX dX10_model_1 ic0 ?_
  refine pX10_78 hX dX10_model_2 ?_
  refine g_aload_n (i := 0) hX dX10_model_5 rfl rfl ?_
  refine g_aload_n (i := 0) hX dX10_model_6 rfl rfl ?_
  refine fX10_132 hX dX10_model_7 ?_
  rw [g13]
  refine pX10_137 hX dX10_model_10 ?_
  refine g_aload_n (i := 0) hX dX10_model_13 rfl rfl ?_
  refine g_iconst hX dX10_model_14 ic0 ?_
  refine pX10_132 hX dX10_model_15 ?_
  refine g_aload_n (i := 0) hX dX10_model_18 rfl rfl ?_
  refine g_iconst hX dX10_model_19 ic0 ?_
  refine pX10_140 hX dX10_model_20 ?_
  refine g_aload_n (i := 0) hX dX10_model_23 rfl rfl ?_
  refine g_iconst hX dX10_model_24 ic0 ?_
  refine pX10_161 hX dX10_model_25 ?_
  refine g_iconst hX dX10_model_28 ic0 ?_
  refine g_istore_n (i := 1) hX dX10_model_29 rfl (by decide) rfl ?_
  refine copy 49 0 _ rfl ?_ ?_ ?_ ?_ (fun j hj => absurd hj (by omega)) (((((Fq.rf.I (by decide)).I (by decide)).I (by decide)).I (by decide)).I (by decide)) ?_
  · simp only [pR_self]; rw [upd_ne _ _ (by decide), upd_ne _ _ (by decide), upd_ne _ _ (by decide), upd_self]
  · simp only [pR_self]; rw [upd_ne _ _ (by decide), upd_self]
  · simp only [pR_self]; rw [upd_self]
  · simp only [pR_self]; rw [upd_ne _ _ (by decide), upd_ne _ _ (by decide), upd_self]
  · simp only [pR_self]; rw [upd_ne _ _ (by decide), upd_ne _ _ (by decide), upd_ne _ _ (by decide), upd_ne _ _ (by decide), upd_ne _ _ (by decide)]
theorem step_model {Γ : GG} : Step (fun S P => kX9_model Γ [.ref (Γ.1 48)] S P) (fun S P => kX10_model Γ [.ref (Γ.1 67)] S P) := by
  intro S hR
  obtain ⟨r1, r2, r3, r4, r5, r6, r7, r8, r9⟩ := hR
  obtain ⟨w, w1, w2, w3, w4⟩ := r4
  obtain ⟨n, hn, c1, c2, c3⟩ := id r6
  obtain ⟨b, hb⟩ : ∃ b : Nat → Nat, ∀ j, j < n → b j < 256 ∧ S.1 51 j = nI (b j) ∧ S.1 78 j = nI (b j) := by
    refine ⟨fun j => (S.1 51 j).toInt.toNat, fun j hj => ?_⟩
    obtain ⟨c, q1, q2, q3⟩ := c3 j hj
    have e : (S.1 51 j).toInt.toNat = c := by rw [q2, nI_toInt (by omega)]; omega
    show (S.1 51 j).toInt.toNat < 256 ∧ S.1 51 j = nI (S.1 51 j).toInt.toNat ∧ S.1 78 j = nI (S.1 51 j).toInt.toNat
    rw [e]; exact ⟨q1, q2, q3⟩
  have hk : wOk w := ⟨fun p hp i hi => (w1 p hp i hi).2, w3⟩
  obtain ⟨F, hF⟩ : ∃ F, runT b n (n + 1) (tkG b n 0) w = F := ⟨_, rfl⟩
  have ok := runT_ok (b := b) (n := n) (n + 1) (tkG b n 0) w (tkG_ok (Nat.zero_le _)).2 hk
  rw [hF] at ok
  have fW : ∀ j, j < 49 → S.1 75 j = nI (flW w j) := fun j hj => by
    rcases flW_cases hj with ⟨q1, q2⟩ | ⟨p, i, hp, g1, g2, rfl⟩
    · rw [flW_no q1 q2]; exact w4 j q1 q2
    · rw [flW_at hp g1 g2]; exact w2 p hp i g1 g2
  have cC := c_modelC (Γ := Γ) ⟨hn, c1, fun j hj => ⟨(hb j hj).2.1, (hb j hj).1⟩⟩ (fun p hp i hi => (w1 p hp i hi).1) hk hF
  refine ⟨if F.1 = 0 then nI (cz (flW F.2.2) 49) else -1000100 - nI F.2.1, fun S1 => (F.1 = 0 → (∀ p, p < 4 → ∀ i, i < 11 → S1.1 (36 + p) i = nI (F.2.2 p i)) ∧ S1.1 48 14 = S.1 48 14) ∧ (¬ F.1 = 0 → S1.1 48 14 = nI F.1 ∧ ∀ p, p < 4 → S1.1 (36 + p) = S.1 (36 + p)) ∧ S1.1 50 2 = 0 ∧ Fq [36, 37, 38, 39, 40, 41, 42, 43] Omc S S1, ?_, ?_⟩
  · refine Cn.imp cC ?_
    rintro v S1 ⟨r, rfl, g1, g2, g3, g4⟩
    refine ⟨r, rfl, ?_, fun q => (g1 q).2, fun q => (g2 q).2, g3, g4⟩
    by_cases q : F.1 = 0
    · rw [if_pos q, (g1 q).1, cz_flat ok.2.2]
    · rw [if_neg q, (g2 q).1]
  · rintro S1 ⟨m1, m2, m3, hF1⟩
    have cR := c_modelR (Γ := Γ) (S := S1) hn (by rw [(hF1.s (k := 67) (j := 13) (by decide)).1]; exact c2) (fun j hj => by rw [hF1.r (k := 78) (by decide)]; exact ⟨(hb j hj).2.2, (hb j hj).1⟩) (fun j hj => by rw [hF1.r (k := 75) (by decide)]; exact fW j hj) hk hF
    refine Cn.imp cR ?_
    rintro v S2 ⟨r, rfl, g1, g2, g3, g4⟩
    refine ⟨r, rfl, ?_, ?_⟩
    · by_cases q : F.1 = 0
      · rw [if_pos q, (g1 q).1]
      · rw [if_neg q, (g2 q).1]
    · have hFF : Fq [36, 37, 38, 39, 40, 41, 42, 43, 75, 76] [(50, 2), (50, 3), (50, 4), (50, 5), (50, 6), (48, 14), (67, 0), (67, 13), (67, 14), (67, 15), (67, 16), (67, 17), (67, 18), (67, 19), (67, 20), (67, 21)] S S2 := (hF1.mono (by decide) (by decide)).tr (g4.mono (by decide) (by decide))
      have tp : TpRel S2 := ⟨0, by decide, by rw [(g4.s (k := 50) (j := 2) (by decide)).1]; exact m3, g3, fun j hj => absurd hj (by omega)⟩
      have e36 : ∀ p, p < 4 → S2.1 (36 + p) = S1.1 (36 + p) := fun p hp => g4.row (by simp only [List.mem_cons, List.not_mem_nil, or_false]; omega) (by simp only [Omr, List.mem_cons, List.not_mem_nil, or_false]; rintro x (rfl | rfl | rfl | rfl | rfl | rfl | rfl | rfl | rfl | rfl) <;> (show ¬ 67 = _; omega))
      have e48 : S2.1 48 14 = S1.1 48 14 := (g4.s (k := 48) (j := 14) (by decide)).1
      have wt : WtRel S2 := by
        by_cases q : F.1 = 0
        · refine ⟨F.2.2, fun p hp i hi => ⟨by rw [e36 p hp]; exact (m1 q).1 p hp i hi, ok.2.2.1 p hp i hi⟩, fun p hp i h1 h2 => ?_, ok.2.2.2, fun j h1 h2 => ?_⟩
          · rw [(g1 q).2.1 _ (wOff_lt p hp i h2), flW_at hp h1 h2]
          · rw [(g1 q).2.1 j (by omega), flW_no h1 h2]; rfl
        · refine WtRel.keep ⟨w, w1, w2, w3, w4⟩ (fun k hk => ?_)
          by_cases e : k = 75
          · subst e; rw [(g2 q).2.2]; exact hF1.r (by decide)
          · obtain ⟨p, hp, rfl⟩ : ∃ p, p < 4 ∧ k = 36 + p := ⟨k - 36, by omega, by omega⟩
            rw [e36 p hp]; exact (m2 q).2 p hp
      have ms : MsRel S2 := by
        obtain ⟨y1, y2, y3, y4, y5, y6⟩ := r8
        refine ⟨?_, ?_, ?_, ?_, ?_, ?_⟩
        · rw [(hFF.s (k := 48) (j := 15) (by decide)).1, (hFF.s (k := 67) (j := 1) (by decide)).1]; exact y1
        · by_cases q : F.1 = 0
          · rw [e48, (m1 q).2, (g1 q).2.2, (hF1.s (k := 67) (j := 14) (by decide)).1]; exact y2
          · rw [e48, (m2 q).1, (g2 q).2.1]
        · rw [(hFF.s (k := 48) (j := 16) (by decide)).1, (hFF.s (k := 67) (j := 36) (by decide)).1]; exact y3
        · rw [(hFF.s (k := 48) (j := 12) (by decide)).1, (hFF.s (k := 67) (j := 26) (by decide)).1]; exact y4
        · rw [(hFF.s (k := 67) (j := 26) (by decide)).1]; exact y5
        · rw [(hFF.s (k := 48) (j := 13) (by decide)).2, (hFF.s (k := 67) (j := 27) (by decide)).2]; exact y6
      exact ⟨r1.q hFF (by decide), r2.q hFF (by decide), r3.q hFF (by decide), wt, r5.q hFF (by decide), tp, r7.q hFF (by decide), ms, r9.q hFF (by decide)⟩
