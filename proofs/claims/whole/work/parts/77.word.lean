/-! the reference's words as numbers -/
def wL (f : Nat → Nat) : Nat → Nat
  | 0 => 0
  | k + 1 => wL f k * 256 + f k
theorem wL_lt {f : Nat → Nat} : ∀ k, (∀ j, j < k → f j < 256) → wL f k < 256 ^ k := by
  intro k
  induction k with
  | zero => intro _; rw [wL]; decide
  | succ k ih =>
    intro h
    have h1 := ih (fun j hj => h j (by omega))
    have h2 := h k (by omega)
    rw [wL, Nat.pow_succ]
    omega
theorem wL_congr {f h : Nat → Nat} : ∀ k, (∀ j, j < k → f j = h j) → wL f k = wL h k := by
  intro k
  induction k with
  | zero => intro _; rfl
  | succ k ih => intro q; rw [wL, wL, ih (fun j hj => q j (by omega)), q k (by omega)]
theorem wL_inj {f h : Nat → Nat} : ∀ k m, (∀ j, j < k → 0 < f j ∧ f j < 256) → (∀ j, j < m → 0 < h j ∧ h j < 256) → wL f k = wL h m → k = m ∧ ∀ j, j < k → f j = h j := by
  intro k
  induction k with
  | zero =>
    intro m _ hm e
    cases m with
    | zero => exact ⟨rfl, fun j hj => absurd hj (by omega)⟩
    | succ m =>
      have := hm m (by omega)
      rw [wL, wL] at e
      omega
  | succ k ih =>
    intro m hk hm e
    have h1 := hk k (by omega)
    cases m with
    | zero => rw [wL, wL] at e; omega
    | succ m =>
      have h2 := hm m (by omega)
      rw [wL, wL] at e
      obtain ⟨rfl, h3⟩ := ih m (fun j hj => hk j (by omega)) (fun j hj => hm j (by omega)) (by omega)
      refine ⟨rfl, fun j hj => ?_⟩
      by_cases q : j = k
      · rw [q]; omega
      · exact h3 j (by omega)
theorem l64_inj {a c : Nat} (ha : a < 2 ^ 63) (hc : c < 2 ^ 63) (h : Int64.ofNat a = Int64.ofNat c) : a = c := by
  have h2 : (Int64.ofNat a).toBitVec = (Int64.ofNat c).toBitVec := congrArg Int64.toBitVec h
  have h3 : (BitVec.ofNat 64 a) = BitVec.ofNat 64 c := h2
  have h4 := congrArg BitVec.toNat h3
  rw [BitVec.toNat_ofNat, BitVec.toNat_ofNat, Nat.mod_eq_of_lt (by omega), Nat.mod_eq_of_lt (by omega)] at h4
  exact h4
theorem word_step {w c : Nat} (hw : w < 2 ^ 55) (hc : c < 256) : (Int64.ofNat w <<< ((8 : Int32).toInt64 &&& 63)) ||| (nI c).toInt64 = Int64.ofNat (w * 256 + c) := by
  apply Int64.toBitVec_inj.mp
  rw [Int64.toBitVec_or]
  have e1 : (Int64.ofNat w <<< ((8 : Int32).toInt64 &&& 63)).toBitVec = BitVec.ofNat 64 w <<< 8 := by
    show BitVec.ofNat 64 w <<< ((((8 : Int32).toInt64 &&& 63).toBitVec.smod 64#64)) = _
    rw [show (((8 : Int32).toInt64 &&& 63).toBitVec.smod 64#64) = 8#64 by decide]
    rfl
  have e2 : (nI c).toInt64.toBitVec = BitVec.ofNat 64 c := by
    have h9 : ∀ c, c < 256 → (nI c).toInt64.toBitVec = BitVec.ofNat 64 c := by decide +kernel
    exact h9 c hc
  rw [e1, e2]
  show _ = BitVec.ofNat 64 (w * 256 + c)
  apply BitVec.eq_of_toNat_eq
  rw [BitVec.toNat_or, BitVec.toNat_shiftLeft, BitVec.toNat_ofNat, BitVec.toNat_ofNat, BitVec.toNat_ofNat, Nat.shiftLeft_eq, Nat.mod_eq_of_lt (show w < 2 ^ 64 by omega), Nat.mod_eq_of_lt (show c < 2 ^ 64 by omega), Nat.mod_eq_of_lt (show w * 2 ^ 8 < 2 ^ 64 by omega), Nat.mod_eq_of_lt (show w * 256 + c < 2 ^ 64 by omega)]
  have h3 := Nat.shiftLeft_add_eq_or_of_lt (i := 8) (b := c) (by omega) w
  rw [Nat.shiftLeft_eq] at h3
  rw [← h3]
theorem tk_ltr {b : Nat → Nat} {n g : Nat} (h : tkK b n g = 1) : ∀ j, j < tkE b n g - g → ltr (b (g + j)) = true := by
  unfold tkK at h
  by_cases q0 : n ≤ g
  · rw [if_pos q0] at h; omega
  · rw [if_neg q0] at h
    by_cases q1 : ltr (b g) = true
    · have e : tkE b n g = runE ltr b (n - g) g := by unfold tkE; rw [if_neg q0, if_pos q1]
      intro j hj
      rw [e] at hj
      exact runE_all (n - g) g (g + j) (by omega) (by omega)
    · rw [if_neg q1] at h
      by_cases q2 : fgr (b g) = true
      · rw [if_pos q2] at h; split at h <;> omega
      · rw [if_neg q2] at h; split at h <;> omega
def wdV (b : Nat → Nat) (n g : Nat) : Nat := if tkK b n g = 1 ∧ tkE b n g - g < 8 then wL (fun j => b (g + j)) (tkE b n g - g) else 0
def cdN (i : Nat) : Nat := wL (ktN i) (kLen.getD i 0)
theorem cd_ok : ∀ i, i < 5 → cdN i < 2 ^ 63 ∧ 0 < cdN i ∧ kLen.getD i 0 < 8 ∧ ∀ j, j < kLen.getD i 0 → 0 < ktN i j ∧ ktN i j < 256 := by decide
theorem isW_iff {b : Nat → Nat} {g e i : Nat} : isW b g e i = true ↔ (e - g = kLen.getD i 0 ∧ ∀ j, j < kLen.getD i 0 → b (g + j) = ktN i j) := by unfold isW; rw [decide_eq_true_iff]
theorem wd_is {b : Nat → Nat} {n g i : Nat} (hi : i < 5) (h : wdN b n g = i) : wdV b n g = cdN i := by
  have key : tkK b n g = 1 ∧ isW b g (tkE b n g) i = true := by
    unfold wdN at h
    by_cases q : tkK b n g = 1
    · rw [if_pos q] at h
      refine ⟨q, ?_⟩
      split at h
      · rw [← h]; assumption
      · split at h
        · rw [← h]; assumption
        · split at h
          · rw [← h]; assumption
          · split at h
            · rw [← h]; assumption
            · split at h
              · rw [← h]; assumption
              · omega
    · rw [if_neg q] at h; omega
  obtain ⟨k1, k2⟩ := key
  obtain ⟨k3, k4⟩ := isW_iff.mp k2
  have c := cd_ok i hi
  unfold wdV cdN
  rw [if_pos ⟨k1, by omega⟩, k3]
  exact wL_congr _ k4
theorem wd_no {b : Nat → Nat} {n g : Nat} (hl : ∀ j, j < n → b j < 256) (hg : g ≤ n) (h : wdN b n g = 5) : ∀ i, i < 5 → ¬ wdV b n g = cdN i := by
  intro i hi e
  have c := cd_ok i hi
  have e2 := (tkE_ok (b := b) hg).2
  unfold wdV at e
  by_cases q : tkK b n g = 1 ∧ tkE b n g - g < 8
  · rw [if_pos q] at e
    have hL := tk_ltr q.1
    obtain ⟨h1, h2⟩ := wL_inj (f := fun j => b (g + j)) _ _ (fun j hj => by
      have h9 := hL j hj
      unfold ltr at h9
      rw [decide_eq_true_iff] at h9
      show 0 < b (g + j) ∧ b (g + j) < 256
      omega) c.2.2.2 e
    have hw : isW b g (tkE b n g) i = true := isW_iff.mpr ⟨h1, fun j hj => h2 j (by omega)⟩
    unfold wdN at h
    rw [if_pos q.1] at h
    rcases (by omega : i = 0 ∨ i = 1 ∨ i = 2 ∨ i = 3 ∨ i = 4) with rfl | rfl | rfl | rfl | rfl <;> (simp only [hw, if_true] at h; repeat' split at h) <;> omega
  · rw [if_neg q] at e; omega
theorem c_word {Γ : GG} {S : St} {n g : Nat} {b : Nat → Nat} (hb : BtR S n b) (hg : g ≤ n) (ht : Tok S b n g) : kX10_word Γ [.ref (Γ.1 67)] S (rL (Int64.ofNat (wdV b n g)) S) := by
  refine oX10_word (fun X hX hE => ?_)
  have h400 := hb.1
  have hk4 := tkK_le b n g
  obtain ⟨e1, e2⟩ := tkE_ok (b := b) hg
  obtain ⟨t18, t16, t19, t17⟩ := ht
  have es : S.1 67 19 - S.1 67 18 = nI (tkE b n g - g) := by rw [t19, t18, nI_sub e1]
  by_cases q1 : tkK b n g = 1
  · have k2 : S.1 67 17 = 2 := by rw [t17, q1]; rfl
    by_cases q2 : tkE b n g - g < 8
    · have hv : wdV b n g = wL (fun j => b (g + j)) (tkE b n g - g) := if_pos ⟨q1, q2⟩
      rw [hv] at hE
      have loop : ∀ d k, k + d = tkE b n g - g → G Γ X S 7 [(0, .ref (Γ.1 67)), (1, .long (Int64.ofNat (wL (fun j => b (g + j)) k))), (3, .int (nI (g + k)))] [] := by
        intro d
        induction d with
        | zero =>
          intro k hk
          obtain rfl : k = tkE b n g - g := by omega
          refine g_iload_n (i := 3) hX dX10_word_7 rfl rfl ?_
          refine g_aload_n (i := 0) hX dX10_word_8 rfl rfl ?_
          refine fX10_158 hX dX10_word_9 ?_
          refine g_icmp_ge (tgt := 56) hX dX10_word_12 (by decide) (fun _ => ?_) (fun h9 => absurd ((by rw [t19]; exact nI_le (by omega) (by omega))) h9)
          refine g_lload_n (i := 1) hX dX10_word_56 rfl rfl ?_
          refine g_lret (st := []) hX hE rfl dX10_word_57 (⟨rfl, rfl⟩)
        | succ d ih =>
          intro k hk
          have hlt := wL_lt (f := fun j => b (g + j)) k (fun j hj => (hb.2.2 (g + j) (by omega)).2)
          have h7 : 256 ^ k ≤ 256 ^ 6 := Nat.pow_le_pow_right (by decide) (by omega)
          have ih2 := ih (k + 1) (by omega)
          rw [wL] at ih2
          refine g_iload_n (i := 3) hX dX10_word_7 rfl rfl ?_
          refine g_aload_n (i := 0) hX dX10_word_8 rfl rfl ?_
          refine fX10_158 hX dX10_word_9 ?_
          refine g_icmp_ge (tgt := 56) hX dX10_word_12 (by decide) (fun h9 => absurd h9 ((by rw [t19]; exact nI_ge (by omega) (by omega)))) (fun _ => ?_)
          refine g_aload_n (i := 0) hX dX10_word_15 rfl rfl ?_
          refine fX10_149 hX dX10_word_16 ?_
          refine g_iconst hX dX10_word_19 ic2 ?_
          refine g_icmp_ne (tgt := 56) hX dX10_word_20 (by decide) (fun h9 => absurd ((by rw [k2])) h9) (fun _ => ?_)
          refine g_aload_n (i := 0) hX dX10_word_23 rfl rfl ?_
          refine fX10_158 hX dX10_word_24 ?_
          refine g_aload_n (i := 0) hX dX10_word_27 rfl rfl ?_
          refine fX10_146 hX dX10_word_28 ?_
          refine g_isub hX dX10_word_31 ?_
          refine g_bipush hX dX10_word_32 bp8 ?_
          refine g_icmp_ge (tgt := 56) hX dX10_word_34 (by decide) (fun h9 => absurd h9 ((by rw [es]; exact nI_ge (b := 8) q2 (by decide)))) (fun _ => ?_)
          refine g_lload_n (i := 1) hX dX10_word_37 rfl rfl ?_
          refine g_bipush hX dX10_word_38 bp8 ?_
          refine g_lshl hX dX10_word_40 ?_
          refine g_aload_n (i := 0) hX dX10_word_41 rfl rfl ?_
          refine fX10_41 hX dX10_word_42 ?_
          refine g_iload_n (i := 3) hX dX10_word_45 rfl rfl ?_
          refine g_ialoadN hX (ia78) rfl ((show g + k < 400 by omega)) (by first | decide | assumption | omega) dX10_word_46 ?_
          refine g_i2l hX dX10_word_47 ?_
          rw [(hb.2.2 (g + k) (by omega)).1]
          refine g_lor hX dX10_word_48 ?_
          rw [word_step (show wL (fun j => b (g + j)) k < 2 ^ 55 by omega) (hb.2.2 (g + k) (by omega)).2]
          refine g_lstore_n (i := 1) hX dX10_word_49 rfl (by decide) rfl ?_
          refine g_iinc hX dX10_word_50 rfl ic1 (by decide) rfl ?_
          refine g_goto (tgt := 7) hX dX10_word_53 (by decide) ?_
          rw [nI_1]
          exact g_weak ih2 (as_c rfl (as_c rfl (as_c rfl (as_n))))
      refine g_lconst (v := 0) hX dX10_word_0 (by decide) ?_
      refine g_lstore_n (i := 1) hX dX10_word_1 rfl (by decide) rfl ?_
      refine g_aload_n (i := 0) hX dX10_word_2 rfl rfl ?_
      refine fX10_146 hX dX10_word_3 ?_
      refine g_istore_n (i := 3) hX dX10_word_6 rfl (by decide) rfl ?_
      rw [t18]
      exact g_weak (loop _ 0 (Nat.zero_add _)) (as_c rfl (as_c rfl (as_c rfl (as_n))))
    · have hv : wdV b n g = 0 := if_neg (fun z => q2 z.2)
      rw [hv] at hE
      refine g_lconst (v := 0) hX dX10_word_0 (by decide) ?_
      refine g_lstore_n (i := 1) hX dX10_word_1 rfl (by decide) rfl ?_
      refine g_aload_n (i := 0) hX dX10_word_2 rfl rfl ?_
      refine fX10_146 hX dX10_word_3 ?_
      refine g_istore_n (i := 3) hX dX10_word_6 rfl (by decide) rfl ?_
      refine g_iload_n (i := 3) hX dX10_word_7 rfl rfl ?_
      refine g_aload_n (i := 0) hX dX10_word_8 rfl rfl ?_
      refine fX10_158 hX dX10_word_9 ?_
      refine g_icmp_ge (tgt := 56) hX dX10_word_12 (by decide) (fun h9 => absurd h9 ((by rw [t19, t18]; exact nI_ge (by omega) (by omega)))) (fun _ => ?_)
      refine g_aload_n (i := 0) hX dX10_word_15 rfl rfl ?_
      refine fX10_149 hX dX10_word_16 ?_
      refine g_iconst hX dX10_word_19 ic2 ?_
      refine g_icmp_ne (tgt := 56) hX dX10_word_20 (by decide) (fun h9 => absurd ((by rw [k2])) h9) (fun _ => ?_)
      refine g_aload_n (i := 0) hX dX10_word_23 rfl rfl ?_
      refine fX10_158 hX dX10_word_24 ?_
      refine g_aload_n (i := 0) hX dX10_word_27 rfl rfl ?_
      refine fX10_146 hX dX10_word_28 ?_
      refine g_isub hX dX10_word_31 ?_
      refine g_bipush hX dX10_word_32 bp8 ?_
      refine g_icmp_ge (tgt := 56) hX dX10_word_34 (by decide) (fun _ => ?_) (fun h9 => absurd ((by rw [es]; exact nI_le (a := 8) (by omega) (by omega))) h9)
      refine g_lload_n (i := 1) hX dX10_word_56 rfl rfl ?_
      refine g_lret (st := []) hX hE rfl dX10_word_57 (⟨rfl, rfl⟩)
  · have hv : wdV b n g = 0 := if_neg (fun z => q1 z.1)
    rw [hv] at hE
    have k2 : ¬ S.1 67 17 = 2 := by rw [t17]; exact nI_ne (b := 2) (by unfold kiR; omega) (by decide) (by unfold kiR; omega)
    by_cases q9 : tkE b n g ≤ g
    · refine g_lconst (v := 0) hX dX10_word_0 (by decide) ?_
      refine g_lstore_n (i := 1) hX dX10_word_1 rfl (by decide) rfl ?_
      refine g_aload_n (i := 0) hX dX10_word_2 rfl rfl ?_
      refine fX10_146 hX dX10_word_3 ?_
      refine g_istore_n (i := 3) hX dX10_word_6 rfl (by decide) rfl ?_
      refine g_iload_n (i := 3) hX dX10_word_7 rfl rfl ?_
      refine g_aload_n (i := 0) hX dX10_word_8 rfl rfl ?_
      refine fX10_158 hX dX10_word_9 ?_
      refine g_icmp_ge (tgt := 56) hX dX10_word_12 (by decide) (fun _ => ?_) (fun h9 => absurd ((by rw [t19, t18]; exact nI_le q9 (by omega))) h9)
      refine g_lload_n (i := 1) hX dX10_word_56 rfl rfl ?_
      refine g_lret (st := []) hX hE rfl dX10_word_57 (⟨rfl, rfl⟩)
    · refine g_lconst (v := 0) hX dX10_word_0 (by decide) ?_
      refine g_lstore_n (i := 1) hX dX10_word_1 rfl (by decide) rfl ?_
      refine g_aload_n (i := 0) hX dX10_word_2 rfl rfl ?_
      refine fX10_146 hX dX10_word_3 ?_
      refine g_istore_n (i := 3) hX dX10_word_6 rfl (by decide) rfl ?_
      refine g_iload_n (i := 3) hX dX10_word_7 rfl rfl ?_
      refine g_aload_n (i := 0) hX dX10_word_8 rfl rfl ?_
      refine fX10_158 hX dX10_word_9 ?_
      refine g_icmp_ge (tgt := 56) hX dX10_word_12 (by decide) (fun h9 => absurd h9 ((by rw [t19, t18]; exact nI_ge (by omega) (by omega)))) (fun _ => ?_)
      refine g_aload_n (i := 0) hX dX10_word_15 rfl rfl ?_
      refine fX10_149 hX dX10_word_16 ?_
      refine g_iconst hX dX10_word_19 ic2 ?_
      refine g_icmp_ne (tgt := 56) hX dX10_word_20 (by decide) (fun _ => ?_) (fun h9 => absurd h9 (k2))
      refine g_lload_n (i := 1) hX dX10_word_56 rfl rfl ?_
      refine g_lret (st := []) hX hE rfl dX10_word_57 (⟨rfl, rfl⟩)
