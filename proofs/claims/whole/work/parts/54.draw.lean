/-! the lots: drawing among weights -/
theorem setN_msk {nm : Nat → Nat} : ∀ k, setN nm k = msk (mru nm k) := by
  intro k
  refine Nat.eq_of_testBit_eq fun x => ?_
  rw [msk_bit]
  induction k with
  | zero => simp [setN, mru]
  | succ k ih =>
    rw [setN, Nat.testBit_or, ih, Nat.testBit_two_pow, ← Bool.decide_or]
    refine decide_eq_decide.mpr ?_
    rw [mru_mem, mru_mem]
    constructor
    · rintro (⟨j, hj, e⟩ | e)
      · exact ⟨j, by omega, e⟩
      · exact ⟨k, by omega, e⟩
    · rintro ⟨j, hj, e⟩
      by_cases z : j = k
      · subst z; exact Or.inr e
      · exact Or.inl ⟨j, by omega, e⟩
theorem filt_erase {m x : Nat} {l : List Nat} (hd : l.Nodup) : (l.erase x).filter (fun y => !m.testBit y) = l.filter (fun y => !(m ||| 2 ^ x).testBit y) := by
  rw [List.Nodup.erase_eq_filter hd, List.filter_filter]
  refine List.filter_congr fun y _ => ?_
  rw [Nat.testBit_or, Nat.testBit_two_pow]
  by_cases e : y = x
  · subst e; simp
  · simp [e, Ne.symm e]
theorem nad_mru {nm : Nat → Nat} {d : Nat} : ∀ k m, m < 1024 → popN m ≤ d → (∀ j, j < k → nm j < 10) → nad nm d k m = ((mru nm k).filter (fun y => !m.testBit y)).getD (d - popN m) 0 := by
  intro k
  induction k with
  | zero => intro m _ _ _; simp [nad, mru]
  | succ k ih =>
    intro m hm hp h10
    have hx := h10 k (by omega)
    have ho := (or_name m hm _ hx).2
    have hpo := pop_or m hm _ hx
    rw [nad, mru, List.filter_cons, filt_erase (mru_nd k)]
    by_cases t : m.testBit (nm k) = false
    · by_cases e : popN m = d
      · rw [if_pos ⟨t, e⟩, if_pos (by rw [t]; rfl), e, Nat.sub_self]; rfl
      · rw [if_neg (fun z => e z.2), if_pos (by rw [t]; rfl), ih _ ho (by rw [hpo, t]; simp; omega) (fun j hj => h10 j (by omega))]
        rw [show d - popN m = (d - popN (m ||| 2 ^ nm k)) + 1 by rw [hpo, t]; simp; omega]
        rfl
    · have t2 : m.testBit (nm k) = true := by simpa using t
      rw [if_neg (fun z => t z.1), if_neg (by rw [t2]; decide), ih _ ho (by rw [hpo, t2]; simpa using hp) (fun j hj => h10 j (by omega))]
      rw [hpo, t2]; rfl
theorem nad_get {nm : Nat → Nat} {d k : Nat} (h : ∀ j, j < k → nm j < 10) : nad nm d k 0 = (mru nm k).getD d 0 := by
  rw [nad_mru k 0 (by decide) (by rw [show popN 0 = 0 by decide]; omega) h, show popN 0 = 0 by decide, Nat.sub_zero]
  rw [List.filter_eq_self.mpr (fun y _ => by simp)]
theorem lnn_ok : ∀ m, m < 1024 → popN m < 10 → lnn m 9 0 < 10 ∧ m.testBit (lnn m 9 0) = false ∧ ∀ j, j < lnn m 9 0 → m.testBit j = true := by decide +kernel
/-- the place where the rest falls -/
def pickN (g : Nat → Nat) : Nat → Nat → Nat → Nat
  | 0, i, _ => i
  | d + 1, i, r => if r < g i then i else pickN g d (i + 1) (r - g i)
def lotN (x : Int64) : Nat := (lotV (nxL x)).toInt.toNat
theorem lotN_ok (x : Int64) : lotV (nxL x) = nI (lotN x) ∧ lotN x < 2 ^ 31 := by
  obtain ⟨n, hn, e⟩ := lotV_nat (nxL x)
  have e2 : lotN x = n := by unfold lotN; rw [e, nI_toInt hn]; omega
  rw [e2]; exact ⟨e, hn⟩
def drD (g : Nat → Nat) (n : Nat) (x : Int64) : Nat := pickN g n 0 (lotN x % sumW g n)
def drV (g : Nat → Nat) (n : Nat) (x : Int64) : Int32 := if sumW g n = 0 then -1000000 else nI (drD g n x)
def drO (g : Nat → Nat) (n : Nat) (x : Int64) (y : Nat) : Nat := if sumW g n = 0 then y else drD g n x
def drX (g : Nat → Nat) (n : Nat) (x : Int64) : Int64 := if sumW g n = 0 then x else nxL x
def drC (g : Nat → Nat) (n : Nat) : Nat := if sumW g n = 0 then 0 else 1
theorem pick_ok {g : Nat → Nat} : ∀ d i r, r + sumW g i < sumW g (i + d) → i ≤ pickN g d i r ∧ pickN g d i r < i + d := by
  intro d
  induction d with
  | zero => intro i r h; exact absurd h (by rw [Nat.add_zero]; omega)
  | succ d ih =>
    intro i r h
    rw [pickN]
    split
    · omega
    · rename_i q
      have h2 := ih (i + 1) (r - g i) (by rw [show i + 1 + d = i + (d + 1) by omega, sumW]; omega)
      omega
theorem pick_lt {g : Nat → Nat} {n r : Nat} (h : r < sumW g n) : pickN g n 0 r < n := by
  have h2 := (pick_ok (g := g) n 0 r (by rw [Nat.zero_add, sumW, Nat.add_zero]; exact h)).2
  rw [Nat.zero_add] at h2
  exact h2
theorem drD_lt {g : Nat → Nat} {n : Nat} {x : Int64} (h : sumW g n ≠ 0) : drD g n x < n := pick_lt (Nat.mod_lt _ (Nat.pos_of_ne_zero h))
