/-! a made row: what the model's weights and a seed come to -/
def chN (W : Nat → Nat → Nat) (a j : Nat) : Nat := if j < a then W 1 j else W 1 10
def opN (a : Nat) : Nat := if a < 10 then a + 1 else a
def whoN (l : List Nat) (d : Nat) : Nat := if d < l.length then l.getD d 0 else lnn (msk l) 9 0
def Ms : Type := Int64 × Nat × Nat × Nat × List Nat × Nat × Nat
def Ms.x (s : Ms) : Int64 := s.1
def Ms.c (s : Ms) : Nat := s.2.1
def Ms.now (s : Ms) : Nat := s.2.2.1
def Ms.st (s : Ms) : Nat := s.2.2.2.1
def Ms.l (s : Ms) : List Nat := s.2.2.2.2.1
def Ms.who (s : Ms) : Nat := s.2.2.2.2.2.1
def Ms.gr (s : Ms) : Nat := s.2.2.2.2.2.2
def mX1 (W : Nat → Nat → Nat) (s : Ms) : Int64 := drX (W 0) 11 s.x
def mX2 (W : Nat → Nat → Nat) (s : Ms) : Int64 := drX (chN W s.l.length) (opN s.l.length) (mX1 W s)
def mX3 (W : Nat → Nat → Nat) (s : Ms) : Int64 := drX (W 2) 11 (mX2 W s)
def wkN (W : Nat → Nat → Nat) (s : Ms) (j : Nat) : Nat := W 3 (3 * s.st + j)
def mX4 (W : Nat → Nat → Nat) (s : Ms) : Int64 := drX (wkN W s) 3 (mX3 W s)
def mNow (W : Nat → Nat → Nat) (s : Ms) : Nat := min (s.now + drO (W 0) 11 s.x 1) 9999
def mWho (W : Nat → Nat → Nat) (s : Ms) : Nat := whoN s.l (drO (chN W s.l.length) (opN s.l.length) (mX1 W s) 0)
def mGr (W : Nat → Nat → Nat) (s : Ms) : Nat := min (drO (W 2) 11 (mX2 W s) 1 + s.st) 9
def mSt (W : Nat → Nat → Nat) (s : Ms) : Nat := drO (wkN W s) 3 (mX3 W s) s.st
def mC (W : Nat → Nat → Nat) (s : Ms) : Nat := s.c + drC (W 0) 11 + drC (chN W s.l.length) (opN s.l.length) + drC (W 2) 11 + drC (wkN W s) 3
def mkS (W : Nat → Nat → Nat) (s : Ms) : Ms := (mX4 W s, mC W s, mNow W s, mSt W s, mWho W s :: s.l.erase (mWho W s), mWho W s, mGr W s)
def mkN (W : Nat → Nat → Nat) (z : Int64) : Nat → Ms
  | 0 => (z, 0, 0, 0, [], 0, 0)
  | i + 1 => mkS W (mkN W z i)
def tkM (W : Nat → Nat → Nat) (z : Int64) (i : Nat) : Int32 := nI (mkN W z (i + 1)).now
def nmM (W : Nat → Nat → Nat) (z : Int64) (i : Nat) : Nat := (mkN W z (i + 1)).who
def grM (W : Nat → Nat → Nat) (z : Int64) (i : Nat) : Int32 := nI (mkN W z (i + 1)).gr
theorem mru_mk (W : Nat → Nat → Nat) (z : Int64) : ∀ i, mru (nmM W z) i = (mkN W z i).l := by
  intro i
  induction i with
  | zero => rfl
  | succ i ih => rw [mru, ih]; rfl
theorem dr_cases (g : Nat → Nat) (n : Nat) (x : Int64) : (drV g n x = -1000000 ∧ ∀ y, drO g n x y = y) ∨ ∃ d, d < n ∧ drV g n x = nI d ∧ ∀ y, drO g n x y = d := by
  by_cases h : sumW g n = 0
  · exact Or.inl ⟨if_pos h, fun y => if_pos h⟩
  · exact Or.inr ⟨drD g n x, drD_lt h, if_neg h, fun y => if_neg h⟩
theorem drO_lt {g : Nat → Nat} {n : Nat} {x : Int64} {y : Nat} (h : y < n) : drO g n x y < n := by
  rcases dr_cases g n x with ⟨_, e⟩ | ⟨d, hd, _, e⟩
  · rw [e]; exact h
  · rw [e]; exact hd
theorem opN_ok (a : Nat) (h : a ≤ 10) : a ≤ opN a ∧ opN a ≤ 10 ∧ 0 < opN a ∧ (opN a = a + 1 ∨ (opN a = a ∧ a = 10)) := by
  unfold opN
  split <;> omega
theorem who_ok {l : List Nat} {d : Nat} (hd : l.Nodup) (h10 : ∀ y ∈ l, y < 10) (h : d < opN l.length) : whoN l d < 10 ∧ (¬ d < l.length → l.length < 10) := by
  have hl := nd_len hd h10
  obtain ⟨o1, o2, o3, o4⟩ := opN_ok l.length hl
  unfold whoN
  by_cases q : d < l.length
  · rw [if_pos q]
    refine ⟨?_, fun z => absurd q z⟩
    rw [List.getD_eq_getElem?_getD, List.getElem?_eq_getElem q]
    exact h10 _ (List.getElem_mem q)
  · rw [if_neg q]
    have h9 : l.length < 10 := by omega
    exact ⟨(lnn_ok _ (msk_lt l h10) (by rw [msk_pop l hd h10]; exact h9)).1, fun _ => h9⟩
/-- the run keeps its bounds -/
theorem mk_ok (W : Nat → Nat → Nat) (z : Int64) : ∀ i, (mkN W z i).l.Nodup ∧ (∀ y ∈ (mkN W z i).l, y < 10) ∧ (mkN W z i).st < 3 ∧ (mkN W z i).now ≤ 9999 ∧ (0 < i → (mkN W z i).who < 10 ∧ 0 ≤ (mkN W z i).gr ∧ (mkN W z i).gr ≤ 9) := by
  intro i
  induction i with
  | zero => exact ⟨List.nodup_nil, fun y h => (by cases h), (by decide : (0 : Nat) < 3), (by decide : (0 : Nat) ≤ 9999), fun h => absurd h (by omega)⟩
  | succ i ih =>
    obtain ⟨h1, h2, h3, h4, h5⟩ := ih
    rw [show mkN W z (i + 1) = mkS W (mkN W z i) from rfl]
    generalize mkN W z i = s at *
    have hl := nd_len h1 h2
    have hw : mWho W s < 10 := (who_ok h1 h2 (drO_lt (opN_ok s.l.length hl).2.2.1)).1
    refine ⟨List.nodup_cons.mpr ⟨List.Nodup.not_mem_erase h1, h1.erase _⟩, ?_, drO_lt h3, Nat.min_le_right _ _, fun _ => ⟨hw, Nat.zero_le _, Nat.min_le_right _ _⟩⟩
    intro y hy
    rcases List.mem_cons.mp hy with e | e
    · rw [e]; exact hw
    · exact h2 y (List.mem_of_mem_erase e)
theorem now_mono (W : Nat → Nat → Nat) (z : Int64) (i : Nat) : (mkN W z i).now ≤ (mkN W z (i + 1)).now := by
  have h := (mk_ok W z i).2.2.2.1
  show (mkN W z i).now ≤ mNow W (mkN W z i)
  unfold mNow
  omega
theorem pick_pos {g : Nat → Nat} : ∀ d i r, r + sumW g i < sumW g (i + d) → 0 < g (pickN g d i r) := by
  intro d
  induction d with
  | zero => intro i r h; exact absurd h (by rw [Nat.add_zero]; omega)
  | succ d ih =>
    intro i r h
    rw [pickN]
    split
    · omega
    · rename_i q
      exact ih (i + 1) (r - g i) (by rw [show i + 1 + d = i + (d + 1) by omega, sumW]; omega)
theorem pick_pos0 {g : Nat → Nat} {n r : Nat} (h : r < sumW g n) : 0 < g (pickN g n 0 r) := pick_pos n 0 r (by rw [Nat.zero_add, sumW, Nat.add_zero]; exact h)
theorem drO_pos {g : Nat → Nat} {n : Nat} {x : Int64} (h : g 0 = 0) : 1 ≤ drO g n x 1 := by
  unfold drO
  split
  · exact Nat.le_refl 1
  · rename_i q
    have h2 : 0 < g (drD g n x) := pick_pos0 (Nat.mod_lt _ (Nat.pos_of_ne_zero q))
    generalize drD g n x = d at *
    rcases Nat.eq_zero_or_pos d with e | e
    · rw [e, h] at h2; exact absurd h2 (by decide)
    · exact e
theorem mk_tr {W : Nat → Nat → Nat} (z : Int64) (n : Nat) (hW : W 2 0 = 0) : TrOk n (tkM W z) (grM W z) := by
  refine ⟨fun i hi => ?_, fun i hi => ?_⟩
  · have h4 := (mk_ok W z (i + 1)).2.2.2.1
    have h5 := ((mk_ok W z (i + 1)).2.2.2.2 (by omega)).2.2
    have h6 : 1 ≤ (mkN W z (i + 1)).gr := by
      show 1 ≤ mGr W (mkN W z i)
      unfold mGr
      have := drO_pos (n := 11) (x := mX2 W (mkN W z i)) hW
      omega
    unfold tkM grM
    rw [nI_toInt (by omega), nI_toInt (by omega)]
    omega
  · have h4 := (mk_ok W z (i + 1)).2.2.2.1
    have h5 := (mk_ok W z (i + 1 + 1)).2.2.2.1
    have h6 := now_mono W z (i + 1)
    unfold tkM
    rw [nI_toInt (by omega), nI_toInt (by omega)]
    omega
theorem nm_mk {W : Nat → Nat → Nat} {z : Int64} (i : Nat) : nmM W z i < 10 := ((mk_ok W z (i + 1)).2.2.2.2 (by omega)).1
theorem drSt_ok {g : Nat → Nat} {n : Nat} {S : St} : (drSt g n S).2 58 0 = drX g n (S.2 58 0) ∧ (drSt g n S).1 58 1 = S.1 58 1 + nI (drC g n) ∧ Fq [] [(58, 0), (58, 1)] S (drSt g n S) := by
  unfold drSt drX drC
  by_cases h : sumW g n = 0
  · rw [if_pos h, if_pos h, if_pos h]
    exact ⟨rfl, (Int32.add_zero _).symm, Fq.rf⟩
  · rw [if_neg h, if_neg h, if_neg h]
    refine ⟨nextS_J S, ?_, nextS_F⟩
    unfold nextS
    rw [pR_self, upd_self]; rfl
theorem c_drawName {Γ : GG} {S : St} {b k n : Nat} {tk : Nat → Int32} {nm : Nat → Nat} {gr : Nat → Int32} {W : Nat → Nat → Nat} (hb : IsRow b) (hb6 : b + 5 ≤ 58) (hr : RwC S b n tk nm gr) (ha : IsArr k 11) (hk : k ≠ 59) (hk8 : k ≠ 58) (hW : ∀ j, j < 11 → S.1 k j = nI (W 1 j) ∧ W 1 j ≤ 99) :
    kX4_drawName Γ [.ref (Γ.1 57), .ref (Γ.1 b), .ref (Γ.1 k)] S (eI (fun r S1 => r = nI (whoN (mru nm n) (drO (chN W (mru nm n).length) (opN (mru nm n).length) (S.2 58 0) 0)) ∧ S1.2 58 0 = drX (chN W (mru nm n).length) (opN (mru nm n).length) (S.2 58 0) ∧ S1.1 58 1 = S.1 58 1 + nI (drC (chN W (mru nm n).length) (opN (mru nm n).length)) ∧ Fq [59] [(58, 0), (58, 1)] S S1)) := by
  refine oX4_drawName (fun X hX hE => ?_)
  have h40 := hr.1
  have hnm : ∀ i, i < n → nm i < 10 := fun i hi => (hr.2.2 i hi).2.2.1
  have hnm2 : ∀ i, i < n → S.1 (b + 2) i = nI (nm i) ∧ nm i < 10 := fun i hi => ⟨(hr.2.2 i hi).2.1, (hr.2.2 i hi).2.2.1⟩
  have hlen := mru_len hnm
  have epop : bc (nI (setN nm n)) = nI (mru nm n).length := by rw [bc_popA _ (setN_lt n hnm), setN_msk, msk_pop _ (mru_nd n) (mru_10 hnm)]
  obtain ⟨o1, o2, o3, o4⟩ := opN_ok _ hlen
  generalize hA : (mru nm n).length = A at *
  -- the rest, once the chances are laid
  have last : ∀ T v, Fq [59] [] S T → (∀ j, j < opN A → T.1 59 j = nI (chN W A j)) → G Γ X T 63 [(0, .ref (Γ.1 57)), (1, .ref (Γ.1 b)), (2, .ref (Γ.1 k)), (3, .int (nI A)), (4, .int (nI (opN A))), (5, .int v)] [] := by
    intro T v hF hT
    have hx : T.2 58 0 = S.2 58 0 := (hF.s (by decide)).2
    have hx1 : T.1 58 1 = S.1 58 1 := (hF.s (by decide)).1
    have cd := c_draw (Γ := Γ) (S := T) (k := 59) (f := 0) (n := opN A) (g := chN W A) ia59 (by decide) (by omega) (fun i hi => ⟨by rw [Nat.zero_add]; exact hT i hi, by unfold chN; split <;> exact (hW _ (by omega)).2⟩)
    rw [hx] at cd
    obtain ⟨d1, d2, d3⟩ := drSt_ok (g := chN W A) (n := opN A) (S := T)
    rw [hx] at d1
    rw [hx1] at d2
    have hFU : Fq [59] [(58, 0), (58, 1)] S (drSt (chN W A) (opN A) T) := (hF.mono (fun _ z => z) (fun _ z => by cases z)).tr (d3.mono (fun _ z => by cases z) (fun _ z => Or.inl z))
    generalize drSt (chN W A) (opN A) T = U at *
    have rU : RwC U b n tk nm gr := hr.keep (fun q hq => hFU.row (by simp only [List.mem_cons, List.not_mem_nil, or_false]; omega) (by simp only [List.mem_cons, List.not_mem_nil, or_false]; rintro _ (rfl | rfl) <;> (simp only; omega)))
    have hnU : ∀ i, i < n → U.1 (b + 2) i = nI (nm i) ∧ nm i < 10 := fun i hi => ⟨(rU.2.2 i hi).2.1, (rU.2.2 i hi).2.2.1⟩
    have fin : ∀ d, d < opN A → whoN (mru nm n) d = whoN (mru nm n) (drO (chN W A) (opN A) (S.2 58 0) 0) → G Γ X U 89 [(0, .ref (Γ.1 57)), (1, .ref (Γ.1 b)), (2, .ref (Γ.1 k)), (3, .int (nI A)), (4, .int (nI (opN A))), (5, .int (nI d))] [] := by
      intro d hd he
      unfold whoN at he
      rw [hA] at he
      by_cases q : d < A
      · rw [if_pos q] at he
        refine g_iload hX dX4_drawName_89 rfl ?_
        refine g_iload_n (i := 3) hX dX4_drawName_91 rfl rfl ?_
        refine g_icmp_lt (tgt := 102) hX dX4_drawName_92 (by decide) (fun _ => ?_) (fun h9 => absurd ((by rw [i_lt, nI_toInt (by omega), nI_toInt (by omega)]; omega)) h9)
        refine g_aload_n (i := 1) hX dX4_drawName_102 rfl rfl ?_
        refine g_iload hX dX4_drawName_103 rfl ?_
        refine sX4_76 hX hb ⟨Nat.le_of_ble_eq_true rfl, Nat.le_of_ble_eq_true rfl⟩ (Nat.le_of_ble_eq_true rfl) dX4_drawName_105 (c_nameAtDepth hb h40 rU.2.1 (by omega) hnU) ?_
        refine g_iret (st := []) hX hE rfl dX4_drawName_108 (⟨_, rfl, ?_, d1, d2, hFU⟩)
        rw [nad_get hnm, he]; unfold whoN; rw [hA]
      · rw [if_neg q] at he
        refine g_iload hX dX4_drawName_89 rfl ?_
        refine g_iload_n (i := 3) hX dX4_drawName_91 rfl rfl ?_
        refine g_icmp_lt (tgt := 102) hX dX4_drawName_92 (by decide) (fun h9 => absurd h9 (nI_nlt (by omega) (by omega))) (fun _ => ?_)
        refine g_aload_n (i := 1) hX dX4_drawName_95 rfl rfl ?_
        refine sX4_73 hX hb ⟨Nat.le_of_ble_eq_true rfl, Nat.le_of_ble_eq_true rfl⟩ (Nat.le_of_ble_eq_true rfl) dX4_drawName_96 (c_leastNewName hb h40 rU.2.1 hnU) ?_
        refine g_goto (tgt := 108) hX dX4_drawName_99 (by decide) ?_
        refine g_iret (st := []) hX hE rfl dX4_drawName_108 (⟨_, rfl, ?_, d1, d2, hFU⟩)
        rw [setN_msk, he]; unfold whoN; rw [hA]
    refine g_aload_n (i := 0) hX dX4_drawName_63 rfl rfl ?_
    refine fX4_12 hX dX4_drawName_64 ?_
    refine g_aload_n (i := 0) hX dX4_drawName_67 rfl rfl ?_
    refine fX4_18 hX dX4_drawName_68 ?_
    refine g_iconst hX dX4_drawName_71 ic0 ?_
    refine g_iload hX dX4_drawName_72 rfl ?_
    refine sX4_38 hX ⟨Nat.le_of_ble_eq_true rfl, Nat.le_of_ble_eq_true rfl⟩ (Nat.le_of_ble_eq_true rfl) dX4_drawName_74 (cd) ?_
    refine g_istore hX dX4_drawName_77 (by decide) rfl ?_
    rcases dr_cases (chN W A) (opN A) (S.2 58 0) with ⟨e1, e2⟩ | ⟨d, hd, e1, e2⟩
    · rw [e1]
      refine g_iload hX dX4_drawName_79 rfl ?_
      refine g_ldc hX ccX4_46 dX4_drawName_81 ?_
      refine g_icmp_ne (tgt := 89) hX dX4_drawName_83 (by decide) (fun h9 => absurd (rfl) h9) (fun _ => ?_)
      refine g_iconst hX dX4_drawName_86 ic0 ?_
      refine g_istore hX dX4_drawName_87 (by decide) rfl ?_
      exact fin 0 o3 (by rw [e2])
    · rw [e1]
      refine g_iload hX dX4_drawName_79 rfl ?_
      refine g_ldc hX ccX4_46 dX4_drawName_81 ?_
      refine g_icmp_ne (tgt := 89) hX dX4_drawName_83 (by decide) (fun _ => ?_) (fun h9 => absurd h9 (nI_nN (by omega)))
      exact fin d hd (by rw [e2])
  have mid : ∀ T v, Fq [59] [] S T → (∀ j, j < A → T.1 59 j = nI (W 1 j)) → G Γ X T 44 [(0, .ref (Γ.1 57)), (1, .ref (Γ.1 b)), (2, .ref (Γ.1 k)), (3, .int (nI A)), (4, .int (nI A)), (5, .int v)] [] := by
    intro T v hF hT
    have ek : T.1 k = S.1 k := hF.row (by simp only [List.mem_cons, List.not_mem_nil, or_false]; exact hk) (fun _ z => by cases z)
    by_cases q : A < 10
    · have eo : opN A = A + 1 := if_pos q
      refine g_iload_n (i := 3) hX dX4_drawName_44 rfl rfl ?_
      refine g_bipush hX dX4_drawName_45 bp10 ?_
      refine g_icmp_ge (tgt := 63) hX dX4_drawName_47 (by decide) (fun h9 => absurd h9 (nI_ge q (by decide))) (fun _ => ?_)
      refine g_aload_n (i := 0) hX dX4_drawName_50 rfl rfl ?_
      refine fX4_18 hX dX4_drawName_51 ?_
      refine g_iload_n (i := 3) hX dX4_drawName_54 rfl rfl ?_
      refine g_aload_n (i := 2) hX dX4_drawName_55 rfl rfl ?_
      refine g_bipush hX dX4_drawName_56 bp10 ?_
      refine g_ialoadN (i := 10) hX (ha) rfl (by decide) (by first | decide | assumption | omega) dX4_drawName_58 ?_
      refine g_iastoreN hX (ia59) rfl ((show A < 11 by omega)) (by first | decide | assumption | omega) dX4_drawName_59 ?_
      refine g_iinc hX dX4_drawName_60 rfl ic1 (by decide) rfl ?_
      rw [ek, (hW 10 (by decide)).1, nI_1, ← eo]
      refine last _ _ (hF.R (by simp)) (fun j hj => ?_)
      rw [pR_self]
      unfold chN
      by_cases e : j = A
      · subst e; rw [upd_self, if_neg (by omega)]
      · rw [upd_ne _ _ e, if_pos (by omega)]; exact hT j (by omega)
    · have eo : opN A = A := if_neg q
      have h2 := last T v hF (fun j hj => by unfold chN; rw [if_pos (by omega)]; exact hT j (by omega))
      rw [eo] at h2
      refine g_iload_n (i := 3) hX dX4_drawName_44 rfl rfl ?_
      refine g_bipush hX dX4_drawName_45 bp10 ?_
      refine g_icmp_ge (tgt := 63) hX dX4_drawName_47 (by decide) (fun _ => ?_) (fun h9 => absurd (nI_le (a := 10) (by omega) (by omega)) h9)
      exact h2
  have loop : ∀ d j T, j + d = A → Fq [59] [] S T → (∀ i, i < j → T.1 59 i = nI (W 1 i)) → G Γ X T 14 [(0, .ref (Γ.1 57)), (1, .ref (Γ.1 b)), (2, .ref (Γ.1 k)), (3, .int (nI A)), (4, .int (nI A)), (5, .int (nI j))] [] := by
    intro d
    induction d with
    | zero =>
      intro j T hj hF hT
      obtain rfl : j = A := by omega
      refine g_iload hX dX4_drawName_14 rfl ?_
      refine g_iload_n (i := 3) hX dX4_drawName_16 rfl rfl ?_
      refine g_icmp_ge (tgt := 44) hX dX4_drawName_17 (by decide) (fun _ => ?_) (fun h9 => absurd (nI_le (Nat.le_refl _) (by omega)) h9)
      exact mid T _ hF hT
    | succ d ih =>
      intro j T hj hF hT
      have ek : T.1 k = S.1 k := hF.row (by simp only [List.mem_cons, List.not_mem_nil, or_false]; exact hk) (fun _ z => by cases z)
      refine g_iload hX dX4_drawName_14 rfl ?_
      refine g_iload_n (i := 3) hX dX4_drawName_16 rfl rfl ?_
      refine g_icmp_ge (tgt := 44) hX dX4_drawName_17 (by decide) (fun h9 => absurd h9 (nI_ge (show j < A by omega) (by omega))) (fun _ => ?_)
      refine g_iload hX dX4_drawName_20 rfl ?_
      refine g_bipush hX dX4_drawName_22 bp10 ?_
      refine g_icmp_ge (tgt := 44) hX dX4_drawName_24 (by decide) (fun h9 => absurd h9 (nI_ge (show j < 10 by omega) (by decide))) (fun _ => ?_)
      refine g_aload_n (i := 0) hX dX4_drawName_27 rfl rfl ?_
      refine fX4_18 hX dX4_drawName_28 ?_
      refine g_iload hX dX4_drawName_31 rfl ?_
      refine g_aload_n (i := 2) hX dX4_drawName_33 rfl rfl ?_
      refine g_iload hX dX4_drawName_34 rfl ?_
      refine g_ialoadN hX (ha) rfl ((show j < 11 by omega)) (by first | decide | assumption | omega) dX4_drawName_36 ?_
      refine g_iastoreN hX (ia59) rfl ((show j < 11 by omega)) (by first | decide | assumption | omega) dX4_drawName_37 ?_
      refine g_iinc hX dX4_drawName_38 rfl ic1 (by decide) rfl ?_
      refine g_goto (tgt := 14) hX dX4_drawName_41 (by decide) ?_
      rw [ek, (hW j (by omega)).1, nI_1]
      refine ih (j + 1) _ (by omega) (hF.R (by simp)) (fun i hi => ?_)
      rw [pR_self]
      by_cases e : i = j
      · subst e; rw [upd_self]
      · rw [upd_ne _ _ e]; exact hT i (by omega)
  refine g_aload_n (i := 1) hX dX4_drawName_0 rfl rfl ?_
  refine sX4_64 hX hb ⟨Nat.le_of_ble_eq_true rfl, Nat.le_of_ble_eq_true rfl⟩ (Nat.le_of_ble_eq_true rfl) dX4_drawName_1 (c_namesAsked hb h40 hr.2.1 hnm2) ?_
  refine sX4_67 hX ⟨Nat.le_of_ble_eq_true rfl, Nat.le_of_ble_eq_true rfl⟩ (Nat.le_of_ble_eq_true rfl) dX4_drawName_4 (c_bitCount) ?_
  rw [epop]
  refine g_istore_n (i := 3) hX dX4_drawName_7 rfl (by decide) rfl ?_
  refine g_iload_n (i := 3) hX dX4_drawName_8 rfl rfl ?_
  refine g_istore hX dX4_drawName_9 (by decide) rfl ?_
  refine g_iconst hX dX4_drawName_11 ic0 ?_
  refine g_istore hX dX4_drawName_12 (by decide) rfl ?_
  exact loop A 0 S (by omega) Fq.rf (fun i hi => absurd hi (by omega))
