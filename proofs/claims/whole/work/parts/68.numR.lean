/-! the reference's number in a telling: figures -/
theorem runE_all {u : Nat → Bool} {b : Nat → Nat} : ∀ d i j, i ≤ j → j < runE u b d i → u (b j) = true := by
  intro d
  induction d with
  | zero => intro i j h1 h2; rw [runE] at h2; omega
  | succ d ih =>
    intro i j h1 h2
    rw [runE] at h2
    by_cases q : u (b i) = true
    · rw [if_pos q] at h2
      by_cases e : j = i
      · rw [e]; exact q
      · exact ih (i + 1) j (by omega) h2
    · rw [if_neg q] at h2; omega
theorem val_lt {b : Nat → Nat} {f : Nat} : ∀ k, (∀ j, j < k → fgr (b (f + j)) = true) → valN b f k < 10 ^ k := by
  intro k
  induction k with
  | zero => intro _; rw [valN]; decide
  | succ k ih =>
    intro h
    have h1 := ih (fun j hj => h j (by omega))
    have h2 := h k (by omega)
    unfold fgr at h2
    rw [decide_eq_true_iff] at h2
    rw [valN, Nat.pow_succ]
    omega
theorem val_step {b : Nat → Nat} {f k : Nat} (hk : k < 4) (h : ∀ j, j < k + 1 → fgr (b (f + j)) = true) : valN b f (k + 1) = 10 * valN b f k + (b (f + k) - 48) ∧ 48 ≤ b (f + k) ∧ b (f + k) ≤ 57 := by
  have h1 := val_lt k (fun j hj => h j (by omega))
  have h2 := h k (by omega)
  unfold fgr at h2
  rw [decide_eq_true_iff] at h2
  have h3 : 10 ^ k ≤ 1000 := by
    rcases (by omega : k = 0 ∨ k = 1 ∨ k = 2 ∨ k = 3) with rfl | rfl | rfl | rfl <;> decide
  exact ⟨by rw [valN]; omega, h2⟩
