/-! promise 22: shape -/
def shV (s d : Nat) : Nat := if s = 0 then 9 else if s = 1 then 10 - d else if s = 2 then 9 / (d + 1) else if d = 0 then 9 else 1
theorem c_shapeAt {Γ : GG} {S : St} {s d : Nat} (hs : s < 4) (hd : d < 10) : kX9_shapeAt Γ [.int (nI s), .int (nI d)] S (rI (nI (shV s d)) S) := by
  refine oX9_shapeAt (fun X hX hE => ?_)
  rcases (by omega : s = 0 ∨ s = 1 ∨ s = 2 ∨ s = 3) with rfl | rfl | rfl | rfl
  · refine g_iload_n (i := 0) hX dX9_shapeAt_0 rfl rfl ?_
    refine g_tableIn (off := 27) (tgt := 28) hX dX9_shapeAt_1 (by decide) (by decide) (by decide) (by decide) ?_
    refine g_bipush hX dX9_shapeAt_28 bp9 ?_
    refine g_iret (st := []) hX hE rfl dX9_shapeAt_30 (⟨rfl, rfl⟩)
  · refine g_iload_n (i := 0) hX dX9_shapeAt_0 rfl rfl ?_
    refine g_tableIn (off := 30) (tgt := 31) hX dX9_shapeAt_1 (by decide) (by decide) (by decide) (by decide) ?_
    refine g_bipush hX dX9_shapeAt_31 bp10 ?_
    refine g_iload_n (i := 1) hX dX9_shapeAt_33 rfl rfl ?_
    refine g_isub hX dX9_shapeAt_34 ?_
    refine g_iret (st := []) hX hE rfl dX9_shapeAt_35 (⟨?_, rfl⟩)
    show some (Value.int (nI 10 - nI d)) = _
    rw [nI_sub (by omega)]; rfl
  · refine g_iload_n (i := 0) hX dX9_shapeAt_0 rfl rfl ?_
    refine g_tableIn (off := 35) (tgt := 36) hX dX9_shapeAt_1 (by decide) (by decide) (by decide) (by decide) ?_
    refine g_iload_n (i := 1) hX dX9_shapeAt_36 rfl rfl ?_
    refine g_if_ge (tgt := 45) hX dX9_shapeAt_37 (by decide) (fun _ => ?_) (fun h9 => absurd (nI_pos' (by omega)) h9)
    refine g_bipush hX dX9_shapeAt_45 bp9 ?_
    refine g_iload_n (i := 1) hX dX9_shapeAt_47 rfl rfl ?_
    refine g_iconst hX dX9_shapeAt_48 ic1 ?_
    refine g_iadd hX dX9_shapeAt_49 ?_
    refine g_idiv hX dX9_shapeAt_50 ((by rw [nI_1]; exact nI_ne0 (by omega) (by omega))) ?_
    refine g_iret (st := []) hX hE rfl dX9_shapeAt_51 (⟨?_, rfl⟩)
    show some (Value.int (nI 9 / (nI d + 1))) = _
    rw [nI_1, div_nI (by decide) (by omega) (by omega)]; rfl
  · by_cases e : d = 0
    · subst e
      refine g_iload_n (i := 0) hX dX9_shapeAt_0 rfl rfl ?_
      refine g_tableOut (tgt := 52) hX dX9_shapeAt_1 (by decide) (by decide) ?_
      refine g_iload_n (i := 1) hX dX9_shapeAt_52 rfl rfl ?_
      refine g_if_ne (tgt := 61) hX dX9_shapeAt_53 (by decide) (fun h9 => absurd (rfl) h9) (fun _ => ?_)
      refine g_bipush hX dX9_shapeAt_56 bp9 ?_
      refine g_goto (tgt := 62) hX dX9_shapeAt_58 (by decide) ?_
      refine g_iret (st := []) hX hE rfl dX9_shapeAt_62 (⟨rfl, rfl⟩)
    · refine g_iload_n (i := 0) hX dX9_shapeAt_0 rfl rfl ?_
      refine g_tableOut (tgt := 52) hX dX9_shapeAt_1 (by decide) (by decide) ?_
      refine g_iload_n (i := 1) hX dX9_shapeAt_52 rfl rfl ?_
      refine g_if_ne (tgt := 61) hX dX9_shapeAt_53 (by decide) (fun _ => ?_) (fun h9 => absurd h9 (nI_ne0 (by omega) (by omega)))
      refine g_iconst hX dX9_shapeAt_61 ic1 ?_
      refine g_iret (st := []) hX hE rfl dX9_shapeAt_62 (⟨?_, rfl⟩)
      rw [show shV 3 d = 1 from by simp [shV, e]]; rfl
/-- a shape laid at o: ten depths, then what is new -/
def lyF (s : Nat) (fr : Int32) (o n : Nat) (f : Nat → Int32) : Nat → Int32 := fun q => if o ≤ q ∧ q < o + n then nI (shV s (q - o)) else if n = 11 ∧ q = o + 10 then fr else f q
def lyP (s o n : Nat) (f : Nat → Int32) : Nat → Int32 := fun q => if o ≤ q ∧ q < o + n then nI (shV s (q - o)) else f q
def lyE (s : Nat) (fr : Int32) (o : Nat) (f : Nat → Int32) : Nat → Int32 := upd (lyP s o 10 f) (o + 10) fr
theorem lyP_step (S : St) (k s o i : Nat) (f : Nat → Int32) : pI (pR S k (lyP s o i f)) k (o + i) (nI (shV s i)) = pR S k (lyP s o (i + 1) f) := by
  show pR (pR S k _) k (upd ((pR S k _).1 k) (o + i) _) = _
  rw [pR_self, pR_pR]
  congr 1
  funext q
  by_cases h : q = o + i
  · subst h
    rw [upd_self]
    unfold lyP
    rw [if_pos (by omega), Nat.add_sub_cancel_left]
  · rw [upd_ne _ _ h]
    unfold lyP
    by_cases h1 : o ≤ q ∧ q < o + i
    · rw [if_pos h1, if_pos (by omega)]
    · rw [if_neg h1, if_neg (by omega)]
theorem lyP_0 (s o : Nat) (f : Nat → Int32) : lyP s o 0 f = f := funext fun q => if_neg (by omega)
theorem c_layShape {Γ : GG} {S : St} {k s : Nat} {fr : Int32} (hs : s < 4) (hk : IsArr k 11) : kX9_layShape Γ [.int (nI s), .int fr, .ref (Γ.1 k)] S (rV (pR S k (lyE s fr 0 (S.1 k)))) := by
  refine oX9_layShape (fun X hX hE => ?_)
  have loop : ∀ d i, i + d = 10 → G Γ X (pR S k (lyP s 0 i (S.1 k))) 2 [(0, .int (nI s)), (1, .int fr), (2, .ref (Γ.1 k)), (3, .int (nI i))] [] := by
    intro d
    induction d with
    | zero =>
      intro i hi
      obtain rfl : i = 10 := by omega
      refine g_iload_n (i := 3) hX dX9_layShape_2 rfl rfl ?_
      refine g_bipush hX dX9_layShape_3 bp10 ?_
      refine g_icmp_ge (tgt := 28) hX dX9_layShape_5 (by decide) (fun _ => ?_) (fun h9 => absurd (Int32.le_refl _) h9)
      refine g_bipush hX dX9_layShape_28 bp10 ?_
      refine g_aload_n (i := 2) hX dX9_layShape_30 rfl rfl ?_
      refine g_alen hX (hk).1 (hk).2 dX9_layShape_31 ?_
      refine g_icmp_ge (tgt := 40) hX dX9_layShape_32 (by decide) (fun h9 => absurd h9 ((by decide))) (fun _ => ?_)
      refine g_aload_n (i := 2) hX dX9_layShape_35 rfl rfl ?_
      refine g_bipush hX dX9_layShape_36 bp10 ?_
      refine g_iload_n (i := 1) hX dX9_layShape_38 rfl rfl ?_
      refine g_iastoreN (i := 10) hX (hk) rfl (by decide) (by first | decide | assumption | omega) dX9_layShape_39 ?_
      refine g_vret (st := []) hX hE rfl dX9_layShape_40 (⟨rfl, ?_⟩)
      show pR (pR S k _) k (upd ((pR S k _).1 k) 10 fr) = _
      rw [pR_self, pR_pR]; rfl
    | succ d ih =>
      intro i hi
      refine g_iload_n (i := 3) hX dX9_layShape_2 rfl rfl ?_
      refine g_bipush hX dX9_layShape_3 bp10 ?_
      refine g_icmp_ge (tgt := 28) hX dX9_layShape_5 (by decide) (fun h9 => absurd h9 (nI_ge (show i < 10 by omega) (by decide))) (fun _ => ?_)
      refine g_iload_n (i := 3) hX dX9_layShape_8 rfl rfl ?_
      refine g_aload_n (i := 2) hX dX9_layShape_9 rfl rfl ?_
      refine g_alen hX (hk).1 (hk).2 dX9_layShape_10 ?_
      refine g_icmp_ge (tgt := 28) hX dX9_layShape_11 (by decide) (fun h9 => absurd h9 (nI_ge (show i < 11 by omega) (by decide))) (fun _ => ?_)
      refine g_aload_n (i := 2) hX dX9_layShape_14 rfl rfl ?_
      refine g_iload_n (i := 3) hX dX9_layShape_15 rfl rfl ?_
      refine g_iload_n (i := 0) hX dX9_layShape_16 rfl rfl ?_
      refine g_iload_n (i := 3) hX dX9_layShape_17 rfl rfl ?_
      refine sX9_293 hX ⟨Nat.le_of_ble_eq_true rfl, Nat.le_of_ble_eq_true rfl⟩ (Nat.le_of_ble_eq_true rfl) dX9_layShape_18 (c_shapeAt hs (by omega)) ?_
      refine g_iastoreN hX (hk) rfl ((show i < 11 by omega)) (by first | decide | assumption | omega) dX9_layShape_21 ?_
      refine g_iinc hX dX9_layShape_22 rfl ic1 (by decide) rfl ?_
      refine g_goto (tgt := 2) hX dX9_layShape_25 (by decide) ?_
      have e := lyP_step S k s 0 i (S.1 k)
      rw [Nat.zero_add] at e
      rw [nI_1, e]
      exact ih (i + 1) (by omega)
  have h0 := loop 10 0 (by omega)
  rw [lyP_0, pR_eta] at h0
  refine g_iconst hX dX9_layShape_0 ic0 ?_
  refine g_istore_n (i := 3) hX dX9_layShape_1 rfl (by decide) rfl ?_
  exact h0
theorem c_shapeTo {Γ : GG} {S : St} {k s : Nat} {fr : Int32} (hs : s < 4) (hk : IsArr k 49) : kX10_shapeTo Γ [.ref (Γ.1 67), .ref (Γ.1 k), .int (nI s), .int fr] S (rV (pR S k (lyE s fr 10 (S.1 k)))) := by
  refine oX10_shapeTo (fun X hX hE => ?_)
  have e10 : ∀ i, (10 : Int32) + nI i = nI (10 + i) := fun i => by rw [show (10 : Int32) = nI 10 from rfl, nI_add2]
  have loop : ∀ d i, i + d = 10 → G Γ X (pR S k (lyP s 10 i (S.1 k))) 3 [(0, .ref (Γ.1 67)), (1, .ref (Γ.1 k)), (2, .int (nI s)), (3, .int fr), (4, .int (nI i))] [] := by
    intro d
    induction d with
    | zero =>
      intro i hi
      obtain rfl : i = 10 := by omega
      refine g_iload hX dX10_shapeTo_3 rfl ?_
      refine g_bipush hX dX10_shapeTo_5 bp10 ?_
      refine g_icmp_ge (tgt := 71) hX dX10_shapeTo_7 (by decide) (fun _ => ?_) (fun h9 => absurd (Int32.le_refl _) h9)
      refine g_aload_n (i := 1) hX dX10_shapeTo_71 rfl rfl ?_
      refine g_bipush hX dX10_shapeTo_72 bp20 ?_
      refine g_iload_n (i := 3) hX dX10_shapeTo_74 rfl rfl ?_
      refine g_iastoreN (i := 20) hX (hk) rfl (by decide) (by first | decide | assumption | omega) dX10_shapeTo_75 ?_
      refine g_vret (st := []) hX hE rfl dX10_shapeTo_76 (⟨rfl, ?_⟩)
      show pR (pR S k _) k (upd ((pR S k _).1 k) 20 fr) = _
      rw [pR_self, pR_pR]; rfl
    | succ d ih =>
      intro i hi
      have fin : ∀ v, v = nI (shV s i) → G Γ X (pR S k (lyP s 10 i (S.1 k))) 64 [(0, .ref (Γ.1 67)), (1, .ref (Γ.1 k)), (2, .int (nI s)), (3, .int fr), (4, .int (nI i))] [.int v, .int (10 + nI i), .ref (Γ.1 k)] := by
        intro v hv
        subst hv
        refine g_iastoreN hX (hk) (e10 i) ((show 10 + i < 49 by omega)) (by first | decide | assumption | omega) dX10_shapeTo_64 ?_
        refine g_iinc hX dX10_shapeTo_65 rfl ic1 (by decide) rfl ?_
        refine g_goto (tgt := 3) hX dX10_shapeTo_68 (by decide) ?_
        rw [nI_1, lyP_step]
        exact ih (i + 1) (by omega)
      rcases (by omega : s = 0 ∨ s = 1 ∨ s = 2 ∨ s = 3) with rfl | rfl | rfl | rfl
      · refine g_iload hX dX10_shapeTo_3 rfl ?_
        refine g_bipush hX dX10_shapeTo_5 bp10 ?_
        refine g_icmp_ge (tgt := 71) hX dX10_shapeTo_7 (by decide) (fun h9 => absurd h9 (nI_ge (show i < 10 by omega) (by decide))) (fun _ => ?_)
        refine g_aload_n (i := 1) hX dX10_shapeTo_10 rfl rfl ?_
        refine g_bipush hX dX10_shapeTo_11 bp10 ?_
        refine g_iload hX dX10_shapeTo_13 rfl ?_
        refine g_iadd hX dX10_shapeTo_15 ?_
        refine g_iload_n (i := 2) hX dX10_shapeTo_16 rfl rfl ?_
        refine g_if_ne (tgt := 25) hX dX10_shapeTo_17 (by decide) (fun h9 => absurd (rfl) h9) (fun _ => ?_)
        refine g_bipush hX dX10_shapeTo_20 bp9 ?_
        refine g_goto (tgt := 64) hX dX10_shapeTo_22 (by decide) ?_
        exact fin _ rfl
      · refine g_iload hX dX10_shapeTo_3 rfl ?_
        refine g_bipush hX dX10_shapeTo_5 bp10 ?_
        refine g_icmp_ge (tgt := 71) hX dX10_shapeTo_7 (by decide) (fun h9 => absurd h9 (nI_ge (show i < 10 by omega) (by decide))) (fun _ => ?_)
        refine g_aload_n (i := 1) hX dX10_shapeTo_10 rfl rfl ?_
        refine g_bipush hX dX10_shapeTo_11 bp10 ?_
        refine g_iload hX dX10_shapeTo_13 rfl ?_
        refine g_iadd hX dX10_shapeTo_15 ?_
        refine g_iload_n (i := 2) hX dX10_shapeTo_16 rfl rfl ?_
        refine g_if_ne (tgt := 25) hX dX10_shapeTo_17 (by decide) (fun _ => ?_) (fun h9 => absurd h9 ((by decide)))
        refine g_iload_n (i := 2) hX dX10_shapeTo_25 rfl rfl ?_
        refine g_iconst hX dX10_shapeTo_26 ic1 ?_
        refine g_icmp_ne (tgt := 38) hX dX10_shapeTo_27 (by decide) (fun h9 => absurd (rfl) h9) (fun _ => ?_)
        refine g_bipush hX dX10_shapeTo_30 bp10 ?_
        refine g_iload hX dX10_shapeTo_32 rfl ?_
        refine g_isub hX dX10_shapeTo_34 ?_
        refine g_goto (tgt := 64) hX dX10_shapeTo_35 (by decide) ?_
        exact fin _ (by rw [show (10 : Int32) = nI 10 from rfl, nI_sub (by omega)]; rfl)
      · refine g_iload hX dX10_shapeTo_3 rfl ?_
        refine g_bipush hX dX10_shapeTo_5 bp10 ?_
        refine g_icmp_ge (tgt := 71) hX dX10_shapeTo_7 (by decide) (fun h9 => absurd h9 (nI_ge (show i < 10 by omega) (by decide))) (fun _ => ?_)
        refine g_aload_n (i := 1) hX dX10_shapeTo_10 rfl rfl ?_
        refine g_bipush hX dX10_shapeTo_11 bp10 ?_
        refine g_iload hX dX10_shapeTo_13 rfl ?_
        refine g_iadd hX dX10_shapeTo_15 ?_
        refine g_iload_n (i := 2) hX dX10_shapeTo_16 rfl rfl ?_
        refine g_if_ne (tgt := 25) hX dX10_shapeTo_17 (by decide) (fun _ => ?_) (fun h9 => absurd h9 ((by decide)))
        refine g_iload_n (i := 2) hX dX10_shapeTo_25 rfl rfl ?_
        refine g_iconst hX dX10_shapeTo_26 ic1 ?_
        refine g_icmp_ne (tgt := 38) hX dX10_shapeTo_27 (by decide) (fun _ => ?_) (fun h9 => absurd h9 ((by decide)))
        refine g_iload_n (i := 2) hX dX10_shapeTo_38 rfl rfl ?_
        refine g_iconst hX dX10_shapeTo_39 ic2 ?_
        refine g_icmp_ne (tgt := 53) hX dX10_shapeTo_40 (by decide) (fun h9 => absurd (rfl) h9) (fun _ => ?_)
        refine g_bipush hX dX10_shapeTo_43 bp9 ?_
        refine g_iload hX dX10_shapeTo_45 rfl ?_
        refine g_iconst hX dX10_shapeTo_47 ic1 ?_
        refine g_iadd hX dX10_shapeTo_48 ?_
        refine g_idiv hX dX10_shapeTo_49 ((by rw [nI_1]; exact nI_ne0 (by omega) (by omega))) ?_
        refine g_goto (tgt := 64) hX dX10_shapeTo_50 (by decide) ?_
        exact fin _ (by rw [nI_1, show (9 : Int32) = nI 9 from rfl, div_nI (by decide) (by omega) (by omega)]; rfl)
      · by_cases e : i = 0
        · subst e
          refine g_iload hX dX10_shapeTo_3 rfl ?_
          refine g_bipush hX dX10_shapeTo_5 bp10 ?_
          refine g_icmp_ge (tgt := 71) hX dX10_shapeTo_7 (by decide) (fun h9 => absurd h9 ((by decide))) (fun _ => ?_)
          refine g_aload_n (i := 1) hX dX10_shapeTo_10 rfl rfl ?_
          refine g_bipush hX dX10_shapeTo_11 bp10 ?_
          refine g_iload hX dX10_shapeTo_13 rfl ?_
          refine g_iadd hX dX10_shapeTo_15 ?_
          refine g_iload_n (i := 2) hX dX10_shapeTo_16 rfl rfl ?_
          refine g_if_ne (tgt := 25) hX dX10_shapeTo_17 (by decide) (fun _ => ?_) (fun h9 => absurd h9 ((by decide)))
          refine g_iload_n (i := 2) hX dX10_shapeTo_25 rfl rfl ?_
          refine g_iconst hX dX10_shapeTo_26 ic1 ?_
          refine g_icmp_ne (tgt := 38) hX dX10_shapeTo_27 (by decide) (fun _ => ?_) (fun h9 => absurd h9 ((by decide)))
          refine g_iload_n (i := 2) hX dX10_shapeTo_38 rfl rfl ?_
          refine g_iconst hX dX10_shapeTo_39 ic2 ?_
          refine g_icmp_ne (tgt := 53) hX dX10_shapeTo_40 (by decide) (fun _ => ?_) (fun h9 => absurd h9 ((by decide)))
          refine g_iload hX dX10_shapeTo_53 rfl ?_
          refine g_if_ne (tgt := 63) hX dX10_shapeTo_55 (by decide) (fun h9 => absurd (rfl) h9) (fun _ => ?_)
          refine g_bipush hX dX10_shapeTo_58 bp9 ?_
          refine g_goto (tgt := 64) hX dX10_shapeTo_60 (by decide) ?_
          exact fin _ rfl
        · refine g_iload hX dX10_shapeTo_3 rfl ?_
          refine g_bipush hX dX10_shapeTo_5 bp10 ?_
          refine g_icmp_ge (tgt := 71) hX dX10_shapeTo_7 (by decide) (fun h9 => absurd h9 (nI_ge (show i < 10 by omega) (by decide))) (fun _ => ?_)
          refine g_aload_n (i := 1) hX dX10_shapeTo_10 rfl rfl ?_
          refine g_bipush hX dX10_shapeTo_11 bp10 ?_
          refine g_iload hX dX10_shapeTo_13 rfl ?_
          refine g_iadd hX dX10_shapeTo_15 ?_
          refine g_iload_n (i := 2) hX dX10_shapeTo_16 rfl rfl ?_
          refine g_if_ne (tgt := 25) hX dX10_shapeTo_17 (by decide) (fun _ => ?_) (fun h9 => absurd h9 ((by decide)))
          refine g_iload_n (i := 2) hX dX10_shapeTo_25 rfl rfl ?_
          refine g_iconst hX dX10_shapeTo_26 ic1 ?_
          refine g_icmp_ne (tgt := 38) hX dX10_shapeTo_27 (by decide) (fun _ => ?_) (fun h9 => absurd h9 ((by decide)))
          refine g_iload_n (i := 2) hX dX10_shapeTo_38 rfl rfl ?_
          refine g_iconst hX dX10_shapeTo_39 ic2 ?_
          refine g_icmp_ne (tgt := 53) hX dX10_shapeTo_40 (by decide) (fun _ => ?_) (fun h9 => absurd h9 ((by decide)))
          refine g_iload hX dX10_shapeTo_53 rfl ?_
          refine g_if_ne (tgt := 63) hX dX10_shapeTo_55 (by decide) (fun _ => ?_) (fun h9 => absurd h9 (nI_ne0 (by omega) (by omega)))
          refine g_iconst hX dX10_shapeTo_63 ic1 ?_
          exact fin _ (by rw [show shV 3 i = 1 from by simp [shV, e]]; rfl)
  have h0 := loop 10 0 (by omega)
  rw [lyP_0, pR_eta] at h0
  refine g_iconst hX dX10_shapeTo_0 ic0 ?_
  refine g_istore hX dX10_shapeTo_1 (by decide) rfl ?_
  exact h0
theorem shV_le : ∀ s, s < 4 → ∀ d, d < 10 → shV s d ≤ 10 ∧ 1 ≤ shV s d ∨ shV s d = 0 := by decide
theorem shV_99 {s d : Nat} (hs : s < 4) (hd : d < 10) : shV s d ≤ 99 := by rcases shV_le s hs d hd with h | h <;> omega
/-- new weights of the names -/
theorem WtRel.names {S S1 : St} (h : WtRel S) (g : Nat → Nat) (hg : ∀ i, i < 11 → g i ≤ 99 ∧ S1.1 37 i = nI (g i) ∧ S1.1 75 (10 + i) = nI (g i)) (h36 : S1.1 36 = S.1 36) (h38 : S1.1 38 = S.1 38) (h39 : S1.1 39 = S.1 39) (h75 : ∀ j, ¬ (10 ≤ j ∧ j < 21) → S1.1 75 j = S.1 75 j) : WtRel S1 := by
  obtain ⟨w, w1, w2, w3, w4⟩ := h
  refine ⟨fun p => if p = 1 then g else w p, fun p hp i hi => ?_, fun p hp i h1 h2 => ?_, fun p hp i hi hn => ?_, fun j h1 h2 => by rw [h75 j (by omega)]; exact w4 j h1 h2⟩
  · rcases (by omega : p = 0 ∨ p = 1 ∨ p = 2 ∨ p = 3) with rfl | rfl | rfl | rfl
    · rw [show (36 : Nat) + 0 = 36 from rfl, h36]; exact w1 0 (by decide) i hi
    · exact ⟨(hg i hi).2.1, (hg i hi).1⟩
    · rw [show (36 : Nat) + 2 = 38 from rfl, h38]; exact w1 2 (by decide) i hi
    · rw [show (36 : Nat) + 3 = 39 from rfl, h39]; exact w1 3 (by decide) i hi
  · rcases (by omega : p = 0 ∨ p = 1 ∨ p = 2 ∨ p = 3) with rfl | rfl | rfl | rfl
    · have h9 : i < 10 := h2
      show S1.1 75 (0 + i) = nI (w 0 i)
      rw [h75 _ (by omega)]; exact w2 0 (by decide) i h1 h2
    · exact (hg i h2).2.2
    · have h9 : i < 10 := h2
      show S1.1 75 (30 + i) = nI (w 2 i)
      rw [h75 _ (by omega)]; exact w2 2 (by decide) i h1 h2
    · have h9 : i < 9 := h2
      show S1.1 75 (40 + i) = nI (w 3 i)
      rw [h75 _ (by omega)]; exact w2 3 (by decide) i h1 h2
  · rcases (by omega : p = 0 ∨ p = 1 ∨ p = 2 ∨ p = 3) with rfl | rfl | rfl | rfl
    · exact w3 0 (by decide) i hi hn
    · exact absurd ⟨Nat.zero_le _, hi⟩ hn
    · exact w3 2 (by decide) i hi hn
    · exact w3 3 (by decide) i hi hn
theorem step_shape {Γ : GG} (x1 x2 : Int32) : Step (fun S P => kX9_shape Γ [.ref (Γ.1 48), .int x1, .int x2] S P) (fun S P => kX10_shape Γ [.ref (Γ.1 67), .int x1, .int x2] S P) := by
  intro S hR
  have l1 : (1 : Int64).toInt = 1 := by decide
  have l3 : (3 : Int64).toInt = 3 := by decide
  have l9 : (9 : Int64).toInt = 9 := by decide
  by_cases h1 : inB x1 4
  case neg =>
    refine ⟨-1000001, fun S1 => S1 = S, ?_, ?_⟩
    · refine oX9_shape (fun X hX hE => ?_)
      refine g_iload_n (i := 1) hX dX9_shape_0 rfl rfl ?_
      refine g_iconst hX dX9_shape_1 ic4 ?_
      refine sX9_96 hX ⟨Nat.le_of_ble_eq_true rfl, Nat.le_of_ble_eq_true rfl⟩ (Nat.le_of_ble_eq_true rfl) dX9_shape_2 (isB_f (n := 4) (by decide) h1) ?_
      refine g_if_eq (tgt := 19) hX dX9_shape_5 (by decide) (fun _ => ?_) (fun h9 => absurd (rfl) h9)
      refine g_ldc hX ccX9_100 dX9_shape_19 ?_
      refine g_iret (st := []) hX hE rfl dX9_shape_21 (⟨_, rfl, rfl, rfl⟩)
    · rintro S1 rfl
      refine oX10_shape (fun X hX hE => ?_)
      rw [inB_iff (by decide)] at h1
      refine g_aload_n (i := 0) hX dX10_shape_0 rfl rfl ?_
      refine g_iconst hX dX10_shape_1 ic0 ?_
      refine pX10_78 hX dX10_shape_2 ?_
      refine g_iload_n (i := 1) hX dX10_shape_5 rfl rfl ?_
      refine g_i2l hX dX10_shape_6 ?_
      refine g_lconst (v := 0) hX dX10_shape_7 (by decide) ?_
      refine g_ldc2_w hX ccX10_128 dX10_shape_8 ?_
      refine sX10_87 hX ⟨Nat.le_of_ble_eq_true rfl, Nat.le_of_ble_eq_true rfl⟩ (Nat.le_of_ble_eq_true rfl) dX10_shape_11 (c_inI_f (by rw [L0, l3]; omega)) ?_
      refine g_if_eq (tgt := 29) hX dX10_shape_14 (by decide) (fun _ => ?_) (fun h9 => absurd (rfl) h9)
      refine g_ldc hX ccX10_97 dX10_shape_29 ?_
      refine g_iret (st := []) hX hE rfl dX10_shape_31 (⟨_, rfl, rfl, hR.thrown⟩)
  obtain ⟨s, hs, rfl⟩ := h1
  have c3 : ∀ T : St, kX10_in Γ [.long (nI s).toInt64, .long 0, .long 3] T (rI 1 T) := fun T => c_inI_t (by rw [nI_toInt (by omega), L0]; omega) (by rw [nI_toInt (by omega), l3]; omega)
  by_cases h2 : 1 ≤ x2.toInt ∧ x2.toInt ≤ 9
  case neg =>
    refine ⟨-1000001, fun S1 => S1 = S, ?_, ?_⟩
    · refine oX9_shape (fun X hX hE => ?_)
      by_cases q : x2 < 1
      · refine g_iload_n (i := 1) hX dX9_shape_0 rfl rfl ?_
        refine g_iconst hX dX9_shape_1 ic4 ?_
        refine sX9_96 hX ⟨Nat.le_of_ble_eq_true rfl, Nat.le_of_ble_eq_true rfl⟩ (Nat.le_of_ble_eq_true rfl) dX9_shape_2 (isB_t (n := 4) hs (by decide)) ?_
        refine g_if_eq (tgt := 19) hX dX9_shape_5 (by decide) (fun h9 => absurd h9 ((by decide))) (fun _ => ?_)
        refine g_iload_n (i := 2) hX dX9_shape_8 rfl rfl ?_
        refine g_iconst hX dX9_shape_9 ic1 ?_
        refine g_icmp_lt (tgt := 19) hX dX9_shape_10 (by decide) (fun _ => ?_) (fun h9 => absurd (q) h9)
        refine g_ldc hX ccX9_100 dX9_shape_19 ?_
        refine g_iret (st := []) hX hE rfl dX9_shape_21 (⟨_, rfl, rfl, rfl⟩)
      · refine g_iload_n (i := 1) hX dX9_shape_0 rfl rfl ?_
        refine g_iconst hX dX9_shape_1 ic4 ?_
        refine sX9_96 hX ⟨Nat.le_of_ble_eq_true rfl, Nat.le_of_ble_eq_true rfl⟩ (Nat.le_of_ble_eq_true rfl) dX9_shape_2 (isB_t (n := 4) hs (by decide)) ?_
        refine g_if_eq (tgt := 19) hX dX9_shape_5 (by decide) (fun h9 => absurd h9 ((by decide))) (fun _ => ?_)
        refine g_iload_n (i := 2) hX dX9_shape_8 rfl rfl ?_
        refine g_iconst hX dX9_shape_9 ic1 ?_
        refine g_icmp_lt (tgt := 19) hX dX9_shape_10 (by decide) (fun h9 => absurd h9 (q)) (fun _ => ?_)
        refine g_iload_n (i := 2) hX dX9_shape_13 rfl rfl ?_
        refine g_bipush hX dX9_shape_14 bp9 ?_
        refine g_icmp_le (tgt := 22) hX dX9_shape_16 (by decide) (fun h9 => absurd h9 ((by rw [i_lt, t1] at q; rw [i_le, t9]; omega))) (fun _ => ?_)
        refine g_ldc hX ccX9_100 dX9_shape_19 ?_
        refine g_iret (st := []) hX hE rfl dX9_shape_21 (⟨_, rfl, rfl, rfl⟩)
    · rintro S1 rfl
      refine oX10_shape (fun X hX hE => ?_)
      refine g_aload_n (i := 0) hX dX10_shape_0 rfl rfl ?_
      refine g_iconst hX dX10_shape_1 ic0 ?_
      refine pX10_78 hX dX10_shape_2 ?_
      refine g_iload_n (i := 1) hX dX10_shape_5 rfl rfl ?_
      refine g_i2l hX dX10_shape_6 ?_
      refine g_lconst (v := 0) hX dX10_shape_7 (by decide) ?_
      refine g_ldc2_w hX ccX10_128 dX10_shape_8 ?_
      refine sX10_87 hX ⟨Nat.le_of_ble_eq_true rfl, Nat.le_of_ble_eq_true rfl⟩ (Nat.le_of_ble_eq_true rfl) dX10_shape_11 (c3 _) ?_
      refine g_if_eq (tgt := 29) hX dX10_shape_14 (by decide) (fun h9 => absurd h9 ((by decide))) (fun _ => ?_)
      refine g_iload_n (i := 2) hX dX10_shape_17 rfl rfl ?_
      refine g_i2l hX dX10_shape_18 ?_
      refine g_lconst (v := 1) hX dX10_shape_19 (by decide) ?_
      refine g_ldc2_w hX ccX10_112 dX10_shape_20 ?_
      refine sX10_87 hX ⟨Nat.le_of_ble_eq_true rfl, Nat.le_of_ble_eq_true rfl⟩ (Nat.le_of_ble_eq_true rfl) dX10_shape_23 (c_inI_f (by rw [l1, l9]; exact h2)) ?_
      refine g_if_ne (tgt := 32) hX dX10_shape_26 (by decide) (fun h9 => absurd (rfl) h9) (fun _ => ?_)
      refine g_ldc hX ccX10_97 dX10_shape_29 ?_
      refine g_iret (st := []) hX hE rfl dX10_shape_31 (⟨_, rfl, rfl, hR.thrown⟩)
  obtain ⟨f, hf1, hf9, rfl⟩ : ∃ n, 1 ≤ n ∧ n ≤ 9 ∧ x2 = nI n := ⟨x2.toInt.toNat, by omega, by omega, nI_nat (by omega)⟩
  clear h2
  refine ⟨1, fun S1 => S1 = pR S 37 (lyE s (nI f) 0 (S.1 37)), ?_, ?_⟩
  · refine oX9_shape (fun X hX hE => ?_)
    refine g_iload_n (i := 1) hX dX9_shape_0 rfl rfl ?_
    refine g_iconst hX dX9_shape_1 ic4 ?_
    refine sX9_96 hX ⟨Nat.le_of_ble_eq_true rfl, Nat.le_of_ble_eq_true rfl⟩ (Nat.le_of_ble_eq_true rfl) dX9_shape_2 (isB_t (n := 4) hs (by decide)) ?_
    refine g_if_eq (tgt := 19) hX dX9_shape_5 (by decide) (fun h9 => absurd h9 ((by decide))) (fun _ => ?_)
    refine g_iload_n (i := 2) hX dX9_shape_8 rfl rfl ?_
    refine g_iconst hX dX9_shape_9 ic1 ?_
    refine g_icmp_lt (tgt := 19) hX dX9_shape_10 (by decide) (fun h9 => absurd h9 ((by rw [i_lt, t1, nI_toInt (by omega)]; omega))) (fun _ => ?_)
    refine g_iload_n (i := 2) hX dX9_shape_13 rfl rfl ?_
    refine g_bipush hX dX9_shape_14 bp9 ?_
    refine g_icmp_le (tgt := 22) hX dX9_shape_16 (by decide) (fun _ => ?_) (fun h9 => absurd ((by rw [i_le, t9, nI_toInt (by omega)]; omega)) h9)
    refine g_iload_n (i := 1) hX dX9_shape_22 rfl rfl ?_
    refine g_iload_n (i := 2) hX dX9_shape_23 rfl rfl ?_
    refine g_aload_n (i := 0) hX dX9_shape_24 rfl rfl ?_
    refine fX9_38 hX dX9_shape_25 ?_
    refine fX9_177 hX dX9_shape_28 ?_
    refine g_iconst hX dX9_shape_31 ic1 ?_
    refine g_aaloadN (i := 1) hX (show 54 < NC by decide) (Or.inr rfl) (show lay 54 = (3, 4, [36, 37, 38, 39]) by decide) rfl (by decide) (by decide) (rfl) dX9_shape_32 ?_
    refine sX9_250 hX ⟨Nat.le_of_ble_eq_true rfl, Nat.le_of_ble_eq_true rfl⟩ (Nat.le_of_ble_eq_true rfl) dX9_shape_33 (c_layShape hs ia37) ?_
    refine g_iconst hX dX9_shape_36 ic1 ?_
    refine g_iret (st := []) hX hE rfl dX9_shape_37 (⟨_, rfl, rfl, rfl⟩)
  · rintro S1 rfl
    refine oX10_shape (fun X hX hE => ?_)
    refine g_aload_n (i := 0) hX dX10_shape_0 rfl rfl ?_
    refine g_iconst hX dX10_shape_1 ic0 ?_
    refine pX10_78 hX dX10_shape_2 ?_
    refine g_iload_n (i := 1) hX dX10_shape_5 rfl rfl ?_
    refine g_i2l hX dX10_shape_6 ?_
    refine g_lconst (v := 0) hX dX10_shape_7 (by decide) ?_
    refine g_ldc2_w hX ccX10_128 dX10_shape_8 ?_
    refine sX10_87 hX ⟨Nat.le_of_ble_eq_true rfl, Nat.le_of_ble_eq_true rfl⟩ (Nat.le_of_ble_eq_true rfl) dX10_shape_11 (c3 _) ?_
    refine g_if_eq (tgt := 29) hX dX10_shape_14 (by decide) (fun h9 => absurd h9 ((by decide))) (fun _ => ?_)
    refine g_iload_n (i := 2) hX dX10_shape_17 rfl rfl ?_
    refine g_i2l hX dX10_shape_18 ?_
    refine g_lconst (v := 1) hX dX10_shape_19 (by decide) ?_
    refine g_ldc2_w hX ccX10_112 dX10_shape_20 ?_
    refine sX10_87 hX ⟨Nat.le_of_ble_eq_true rfl, Nat.le_of_ble_eq_true rfl⟩ (Nat.le_of_ble_eq_true rfl) dX10_shape_23 (c_inI_t (by rw [nI_toInt (by omega), l1]; omega) (by rw [nI_toInt (by omega), l9]; omega)) ?_
    refine g_if_ne (tgt := 32) hX dX10_shape_26 (by decide) (fun _ => ?_) (fun h9 => absurd h9 ((by decide)))
    refine g_aload_n (i := 0) hX dX10_shape_32 rfl rfl ?_
    refine g_aload_n (i := 0) hX dX10_shape_33 rfl rfl ?_
    refine fX10_31 hX dX10_shape_34 ?_
    refine g_iload_n (i := 1) hX dX10_shape_37 rfl rfl ?_
    refine g_iload_n (i := 2) hX dX10_shape_38 rfl rfl ?_
    refine sX10_286 hX ⟨Nat.le_of_ble_eq_true rfl, Nat.le_of_ble_eq_true rfl⟩ (Nat.le_of_ble_eq_true rfl) dX10_shape_39 (c_shapeTo hs ia75) ?_
    refine g_iconst hX dX10_shape_42 ic1 ?_
    refine g_iret (st := []) hX hE rfl dX10_shape_43 (⟨_, rfl, rfl, ?_⟩)
    generalize hS2 : pR (pI (pR S 37 (lyE s (nI f) 0 (S.1 37))) 67 0 0) 75 (lyE s (nI f) 10 ((pI (pR S 37 (lyE s (nI f) 0 (S.1 37))) 67 0 0).1 75)) = S2
    have hF : Fq [37, 75] [(67, 0)] S S2 := by rw [← hS2]; exact ((Fq.rf.R (by decide)).I (by decide)).R (by decide)
    have e37 : S2.1 37 = lyE s (nI f) 0 (S.1 37) := by rw [← hS2]; rfl
    have e75 : S2.1 75 = lyE s (nI f) 10 (S.1 75) := by rw [← hS2]; rfl
    clear hS2
    have hW : WtRel S2 := by
      refine hR.2.2.2.1.names (fun i => if i < 10 then shV s i else f) (fun i hi => ?_) (hF.r (by decide)) (hF.r (by decide)) (hF.r (by decide)) (fun j hj => ?_)
      · rw [e37, e75]
        unfold lyE
        by_cases e : i < 10
        · rw [if_pos e, upd_ne _ _ (by omega), upd_ne _ _ (by omega)]
          unfold lyP
          rw [if_pos (by omega), if_pos (by omega), Nat.sub_zero, Nat.add_sub_cancel_left]
          exact ⟨shV_99 hs e, rfl, rfl⟩
        · obtain rfl : i = 10 := by omega
          rw [if_neg (by omega), upd_self, upd_self]
          exact ⟨by omega, rfl, rfl⟩
      · rw [e75]
        unfold lyE
        rw [upd_ne _ _ (by omega)]
        exact if_neg (by omega)
    obtain ⟨r1, r2, r3, r4, r5, r6, r7, r8, r9⟩ := hR
    exact ⟨r1.q hF (by decide), r2.q hF (by decide), r3.q hF (by decide), hW, r5.q hF (by decide), r6.q hF (by decide), r7.q hF (by decide), r8.q hF (by decide), r9.q hF (by decide)⟩
