/-! the names by how long ago they were asked -/
def mru (nm : Nat → Nat) : Nat → List Nat
  | 0 => []
  | k + 1 => nm k :: (mru nm k).erase (nm k)
def msk : List Nat → Nat
  | [] => 0
  | x :: l => msk l ||| 2 ^ x
def bfr (x : Nat) : List Nat → List Nat
  | [] => []
  | y :: l => if y = x then [] else y :: bfr x l
def befN (nm : Nat → Nat) (x : Nat) : Nat → Nat
  | 0 => 0
  | k + 1 => if nm k = x then 0 else 2 ^ nm k ||| befN nm x k
theorem mru_mem {nm : Nat → Nat} {x : Nat} : ∀ k, x ∈ mru nm k ↔ ∃ j, j < k ∧ nm j = x := by
  intro k
  induction k with
  | zero => exact ⟨fun h => (by cases h), fun ⟨j, h, _⟩ => absurd h (by omega)⟩
  | succ k ih =>
    rw [mru, List.mem_cons]
    constructor
    · rintro (h | h)
      · exact ⟨k, by omega, h.symm⟩
      · obtain ⟨j, hj, e⟩ := ih.mp (List.mem_of_mem_erase h)
        exact ⟨j, by omega, e⟩
    · rintro ⟨j, hj, e⟩
      by_cases q : x = nm k
      · exact Or.inl q
      · exact Or.inr ((List.mem_erase_of_ne q).mpr (ih.mpr ⟨j, (by
          by_cases z : j = k
          · exact absurd (z ▸ e).symm q
          · omega), e⟩))
theorem mru_nd {nm : Nat → Nat} : ∀ k, (mru nm k).Nodup := by
  intro k
  induction k with
  | zero => exact List.nodup_nil
  | succ k ih => exact List.nodup_cons.mpr ⟨List.Nodup.not_mem_erase ih, ih.erase _⟩
theorem mru_10 {nm : Nat → Nat} {k : Nat} (h : ∀ j, j < k → nm j < 10) : ∀ x ∈ mru nm k, x < 10 := by
  intro x hx
  obtain ⟨j, hj, rfl⟩ := (mru_mem k).mp hx
  exact h j hj
theorem msk_bit : ∀ (l : List Nat) (x : Nat), (msk l).testBit x = decide (x ∈ l) := by
  intro l
  induction l with
  | nil => intro x; simp [msk]
  | cons y l ih =>
    intro x
    rw [msk, Nat.testBit_or, ih, Nat.testBit_two_pow]
    by_cases e : x = y
    · subst e; simp
    · simp [e, Ne.symm e]
theorem msk_lt : ∀ (l : List Nat), (∀ x ∈ l, x < 10) → msk l < 1024 := by
  intro l
  induction l with
  | nil => intro _; decide
  | cons y l ih => intro h; exact (or_name _ (ih (fun x hx => h x (List.mem_cons_of_mem _ hx))) y (h y (List.mem_cons_self ..))).2
theorem msk_pop : ∀ (l : List Nat), l.Nodup → (∀ x ∈ l, x < 10) → popN (msk l) = l.length := by
  intro l
  induction l with
  | nil => intro _ _; decide
  | cons y l ih =>
    intro hd h
    obtain ⟨h1, h2⟩ := List.nodup_cons.mp hd
    have h10 := fun x hx => h x (List.mem_cons_of_mem y hx)
    rw [msk, pop_or _ (msk_lt l h10) y (h y (List.mem_cons_self ..)), ih h2 h10, msk_bit]
    simp [h1]
theorem mru_len {nm : Nat → Nat} {k : Nat} (h : ∀ j, j < k → nm j < 10) : (mru nm k).length ≤ 10 := by
  rw [← msk_pop _ (mru_nd k) (mru_10 h)]
  exact popN_lt _ (msk_lt _ (mru_10 h))
theorem bfr_sub {x : Nat} : ∀ l : List Nat, ∀ y ∈ bfr x l, y ∈ l ∧ y ≠ x := by
  intro l
  induction l with
  | nil => intro y h; cases h
  | cons z l ih =>
    intro y h
    rw [bfr] at h
    split at h
    · cases h
    · rename_i hz
      rcases List.mem_cons.mp h with rfl | h
      · exact ⟨List.mem_cons_self .., hz⟩
      · exact ⟨List.mem_cons_of_mem _ (ih y h).1, (ih y h).2⟩
theorem bfr_nd {x : Nat} : ∀ l : List Nat, l.Nodup → (bfr x l).Nodup := by
  intro l
  induction l with
  | nil => intro _; exact List.nodup_nil
  | cons z l ih =>
    intro h
    obtain ⟨h1, h2⟩ := List.nodup_cons.mp h
    rw [bfr]
    split
    · exact List.nodup_nil
    · exact List.nodup_cons.mpr ⟨fun q => h1 (bfr_sub l z q).1, ih h2⟩
theorem bfr_all {x : Nat} : ∀ l : List Nat, x ∉ l → bfr x l = l := by
  intro l
  induction l with
  | nil => intro _; rfl
  | cons z l ih =>
    intro h
    rw [List.mem_cons] at h
    rw [bfr, if_neg (fun e => h (Or.inl e.symm)), ih (fun q => h (Or.inr q))]
theorem bfr_lt {x : Nat} : ∀ l : List Nat, x ∈ l → (bfr x l).length < l.length ∧ l[(bfr x l).length]? = some x := by
  intro l
  induction l with
  | nil => intro h; cases h
  | cons z l ih =>
    intro h
    rw [bfr]
    split
    · rename_i e; subst e; exact ⟨Nat.zero_lt_succ _, rfl⟩
    · rename_i e
      have := ih ((List.mem_cons.mp h).resolve_left (fun q => e q.symm))
      exact ⟨Nat.succ_lt_succ this.1, this.2⟩
theorem bfr_ne {x : Nat} : ∀ (l : List Nat) (j : Nat), j < (bfr x l).length → ∃ y, l[j]? = some y ∧ y ≠ x := by
  intro l
  induction l with
  | nil => intro j h; cases h
  | cons z l ih =>
    intro j h
    rw [bfr] at h
    split at h
    · cases h
    · rename_i e
      cases j with
      | zero => exact ⟨z, rfl, e⟩
      | succ j => exact ih j (Nat.lt_of_succ_lt_succ h)
theorem or_c3 (a b c : Nat) : a ||| b ||| c = a ||| c ||| b := by rw [Nat.or_assoc, Nat.or_comm b c, ← Nat.or_assoc]
theorem bfr_erase {x y : Nat} (h : x ≠ y) : ∀ l : List Nat, msk (bfr x (l.erase y)) ||| 2 ^ y = msk (bfr x l) ||| 2 ^ y := by
  intro l
  induction l with
  | nil => rfl
  | cons z l ih =>
    rw [List.erase_cons]
    by_cases e : z = y
    · subst e
      rw [if_pos (by simp), bfr, if_neg (fun q => h q.symm), msk, Nat.or_assoc, Nat.or_self]
    · rw [if_neg (by simpa using e), bfr, bfr]
      split
      · rfl
      · rw [msk, msk, or_c3, ih, or_c3]
theorem bef_msk {nm : Nat → Nat} {x : Nat} : ∀ k, befN nm x k = msk (bfr x (mru nm k)) := by
  intro k
  induction k with
  | zero => rfl
  | succ k ih =>
    rw [befN, mru, bfr]
    split
    · rfl
    · rename_i e
      rw [msk, bfr_erase (fun q => e q.symm), ih, Nat.or_comm]
theorem scan_bef {nm : Nat → Nat} {x : Nat} : ∀ k m, scan nm x k m = if x ∈ mru nm k then nI (popN (m ||| befN nm x k)) else -1000000 := by
  intro k
  induction k with
  | zero => intro m; rw [if_neg (by rw [mru]; simp)]; rfl
  | succ k ih =>
    intro m
    rw [scan, befN]
    by_cases e : nm k = x
    · rw [if_pos e, if_pos ((mru_mem _).mpr ⟨k, by omega, e⟩), if_pos e, Nat.or_zero]
    · rw [if_neg e, if_neg e, ih, Nat.or_assoc]
      have : x ∈ mru nm (k + 1) ↔ x ∈ mru nm k := by
        rw [mru_mem, mru_mem]
        exact ⟨fun ⟨j, hj, q⟩ => ⟨j, (by
          by_cases z : j = k
          · exact absurd (z ▸ q) e
          · omega), q⟩, fun ⟨j, hj, q⟩ => ⟨j, by omega, q⟩⟩
      by_cases z : x ∈ mru nm k
      · rw [if_pos z, if_pos (this.mpr z)]
      · rw [if_neg z, if_neg (fun q => z (this.mp q))]
theorem dep_mru {nm : Nat → Nat} {i : Nat} (h : ∀ j, j < i → nm j < 10) : dep nm i = if nm i ∈ mru nm i then nI (bfr (nm i) (mru nm i)).length else -1000000 := by
  unfold dep
  rw [scan_bef, Nat.zero_or, bef_msk, msk_pop _ (bfr_nd _ (mru_nd i)) (fun x hx => mru_10 h x (bfr_sub _ x hx).1)]
/-- the erased list, place by place -/
theorem erase_get {x : Nat} : ∀ (l : List Nat) (j : Nat), (l.erase x)[j]? = if j < (bfr x l).length then l[j]? else l[j + 1]? := by
  intro l
  induction l with
  | nil => intro j; rfl
  | cons z l ih =>
    intro j
    rw [List.erase_cons, bfr]
    by_cases e : z = x
    · subst e
      rw [if_pos (by simp), if_pos rfl]; rfl
    · rw [if_neg (by simpa using e), if_neg e]
      cases j with
      | zero => rfl
      | succ j =>
        show (l.erase x)[j]? = _
        rw [ih j]
        by_cases q : j < (bfr x l).length
        · rw [if_pos q, if_pos (by rw [List.length_cons]; omega)]; rfl
        · rw [if_neg q, if_neg (by rw [List.length_cons]; omega)]; rfl
theorem mru_suc {nm : Nat → Nat} {k : Nat} : (mru nm (k + 1)).length = (mru nm k).length + (if (bfr (nm k) (mru nm k)).length = (mru nm k).length then 1 else 0) := by
  rw [mru, List.length_cons]
  by_cases h : nm k ∈ mru nm k
  · have := (bfr_lt _ h).1
    rw [if_neg (by omega), List.length_erase_of_mem h]
    omega
  · rw [bfr_all _ h, if_pos rfl, List.erase_of_not_mem h]
