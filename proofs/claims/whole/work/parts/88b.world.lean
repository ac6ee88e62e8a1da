/-! the two objects made are the world of the first state -/
def adM (b9 b10 : Nat) (a9 a10 : Nat → Nat) (k : Nat) : Nat := if k = 48 then b9 else if k = 67 then b10 else if k < 67 then a9 k else a10 k
def GM (D : va_G) (cA : Nat → ClassId) (b9 b10 : Nat) (a9 a10 sA kA kV : Nat → Nat) : GG := (adM b9 b10 a9 a10, D.1, D.2, cA, sA, kA, kV)
theorem q_congr {cA : ClassId} {n : Nat} {f f' : Nat → Option Nat} (h : ∀ i, i < n → f i = f' i) : vp_cell cA (n, .inr (.inr (.inr (.inr f)))) = vp_cell cA (n, .inr (.inr (.inr (.inr f')))) := by
  rw [vp_cell_q, vp_cell_q]
  unfold arrV
  congr 1
  apply Array.ext
  · simp
  · intro i h1 h2
    simp only [Array.getElem_ofFn]
    rw [h i (by simpa using h1)]
set_option maxRecDepth 20000 in
theorem world_beg {D : va_G} {cA : Nat → ClassId} {b9 b10 : Nat} {a9 a10 sA kA kV : Nat → Nat} {H : Heap} (hP : va_P D classes (pwX9 cA b9 a9 ++ pwX10 cA b10 a10) H) : va_P (dG (GM D cA b9 b10 a9 a10 sA kA kV)) classes (world (GM D cA b9 b10 a9 a10 sA kA kV) Sbeg) H := by
  intro k q hk
  have hlt : k < 86 := by
    have h := (List.getElem?_eq_some_iff.mp hk).1
    rw [world_len] at h
    exact h
  rw [world_get _ _ hlt] at hk
  cases hk
  have key : ∀ k, k < 86 → va_at (dG (GM D cA b9 b10 a9 a10 sA kA kV)) classes ((GM D cA b9 b10 a9 a10 sA kA kV).1 k, ent (GM D cA b9 b10 a9 a10 sA kA kV) Sbeg k) H := fun k hk => match k, hk with
    | 0, _ => hP 0 _ rfl
    | 1, _ => hP 1 _ rfl
    | 2, _ => hP 2 _ rfl
    | 3, _ => hP 3 _ rfl
    | 4, _ => hP 4 _ rfl
    | 5, _ => hP 5 _ rfl
    | 6, _ => hP 6 _ rfl
    | 7, _ => hP 7 _ rfl
    | 8, _ => hP 8 _ rfl
    | 9, _ => hP 9 _ rfl
    | 10, _ => hP 10 _ rfl
    | 11, _ => hP 11 _ rfl
    | 12, _ => hP 12 _ rfl
    | 13, _ => hP 13 _ rfl
    | 14, _ => hP 14 _ rfl
    | 15, _ => hP 15 _ rfl
    | 16, _ => hP 16 _ rfl
    | 17, _ => hP 17 _ rfl
    | 18, _ => hP 18 _ rfl
    | 19, _ => hP 19 _ rfl
    | 20, _ => hP 20 _ rfl
    | 21, _ => hP 21 _ rfl
    | 22, _ => hP 22 _ rfl
    | 23, _ => hP 23 _ rfl
    | 24, _ => hP 24 _ rfl
    | 25, _ => hP 25 _ rfl
    | 26, _ => hP 26 _ rfl
    | 27, _ => hP 27 _ rfl
    | 28, _ => hP 28 _ rfl
    | 29, _ => hP 29 _ rfl
    | 30, _ => hP 30 _ rfl
    | 31, _ => hP 31 _ rfl
    | 32, _ => hP 32 _ rfl
    | 33, _ => hP 33 _ rfl
    | 34, _ => hP 34 _ rfl
    | 35, _ => hP 35 _ rfl
    | 36, _ => hP 36 _ rfl
    | 37, _ => hP 37 _ rfl
    | 38, _ => hP 38 _ rfl
    | 39, _ => hP 39 _ rfl
    | 40, _ => hP 40 _ rfl
    | 41, _ => hP 41 _ rfl
    | 42, _ => hP 42 _ rfl
    | 43, _ => hP 43 _ rfl
    | 44, _ => hP 44 _ rfl
    | 45, _ => hP 45 _ rfl
    | 46, _ => hP 46 _ rfl
    | 47, _ => hP 47 _ rfl
    | 48, _ => hP 48 _ rfl
    | 49, _ => by
      have h9 := hP 49 _ rfl
      refine Eq.trans h9 (congrArg some (q_congr (fun i hi => ?_)))
      rcases (by omega : i = 0 ∨ i = 1 ∨ i = 2 ∨ i = 3 ∨ i = 4 ∨ i = 5 ∨ i = 6 ∨ i = 7) with rfl | rfl | rfl | rfl | rfl | rfl | rfl | rfl <;> rfl
    | 50, _ => hP 50 _ rfl
    | 51, _ => hP 51 _ rfl
    | 52, _ => by
      have h9 := hP 52 _ rfl
      refine Eq.trans h9 (congrArg some (q_congr (fun i hi => ?_)))
      rcases (by omega : i = 0 ∨ i = 1 ∨ i = 2 ∨ i = 3) with rfl | rfl | rfl | rfl <;> rfl
    | 53, _ => hP 53 _ rfl
    | 54, _ => by
      have h9 := hP 54 _ rfl
      refine Eq.trans h9 (congrArg some (q_congr (fun i hi => ?_)))
      rcases (by omega : i = 0 ∨ i = 1 ∨ i = 2 ∨ i = 3) with rfl | rfl | rfl | rfl <;> rfl
    | 55, _ => hP 55 _ rfl
    | 56, _ => hP 56 _ rfl
    | 57, _ => hP 57 _ rfl
    | 58, _ => hP 58 _ rfl
    | 59, _ => hP 59 _ rfl
    | 60, _ => hP 60 _ rfl
    | 61, _ => hP 61 _ rfl
    | 62, _ => hP 62 _ rfl
    | 63, _ => hP 63 _ rfl
    | 64, _ => hP 64 _ rfl
    | 65, _ => hP 65 _ rfl
    | 66, _ => hP 66 _ rfl
    | 67, _ => hP 67 _ rfl
    | 68, _ => hP 68 _ rfl
    | 69, _ => hP 69 _ rfl
    | 70, _ => hP 70 _ rfl
    | 71, _ => hP 71 _ rfl
    | 72, _ => hP 72 _ rfl
    | 73, _ => hP 73 _ rfl
    | 74, _ => hP 74 _ rfl
    | 75, _ => hP 75 _ rfl
    | 76, _ => hP 76 _ rfl
    | 77, _ => hP 77 _ rfl
    | 78, _ => hP 78 _ rfl
    | 79, _ => hP 79 _ rfl
    | 80, _ => hP 80 _ rfl
    | 81, _ => hP 81 _ rfl
    | 82, _ => hP 82 _ rfl
    | 83, _ => hP 83 _ rfl
    | 84, _ => hP 84 _ rfl
    | 85, _ => hP 85 _ rfl
    | n + 86, h => absurd h (by omega)
  exact key k hlt
set_option maxRecDepth 20000 in
theorem place_beg {D : va_G} {cA : Nat → ClassId} {b9 b10 : Nat} {a9 a10 sA kA kV : Nat → Nat} : ∀ k, k < 86 → ∃ e, (pwX9 cA b9 a9 ++ pwX10 cA b10 a10)[k]? = some ((GM D cA b9 b10 a9 a10 sA kA kV).1 k, e) := fun k hk => match k, hk with
  | 0, _ => ⟨_, rfl⟩
  | 1, _ => ⟨_, rfl⟩
  | 2, _ => ⟨_, rfl⟩
  | 3, _ => ⟨_, rfl⟩
  | 4, _ => ⟨_, rfl⟩
  | 5, _ => ⟨_, rfl⟩
  | 6, _ => ⟨_, rfl⟩
  | 7, _ => ⟨_, rfl⟩
  | 8, _ => ⟨_, rfl⟩
  | 9, _ => ⟨_, rfl⟩
  | 10, _ => ⟨_, rfl⟩
  | 11, _ => ⟨_, rfl⟩
  | 12, _ => ⟨_, rfl⟩
  | 13, _ => ⟨_, rfl⟩
  | 14, _ => ⟨_, rfl⟩
  | 15, _ => ⟨_, rfl⟩
  | 16, _ => ⟨_, rfl⟩
  | 17, _ => ⟨_, rfl⟩
  | 18, _ => ⟨_, rfl⟩
  | 19, _ => ⟨_, rfl⟩
  | 20, _ => ⟨_, rfl⟩
  | 21, _ => ⟨_, rfl⟩
  | 22, _ => ⟨_, rfl⟩
  | 23, _ => ⟨_, rfl⟩
  | 24, _ => ⟨_, rfl⟩
  | 25, _ => ⟨_, rfl⟩
  | 26, _ => ⟨_, rfl⟩
  | 27, _ => ⟨_, rfl⟩
  | 28, _ => ⟨_, rfl⟩
  | 29, _ => ⟨_, rfl⟩
  | 30, _ => ⟨_, rfl⟩
  | 31, _ => ⟨_, rfl⟩
  | 32, _ => ⟨_, rfl⟩
  | 33, _ => ⟨_, rfl⟩
  | 34, _ => ⟨_, rfl⟩
  | 35, _ => ⟨_, rfl⟩
  | 36, _ => ⟨_, rfl⟩
  | 37, _ => ⟨_, rfl⟩
  | 38, _ => ⟨_, rfl⟩
  | 39, _ => ⟨_, rfl⟩
  | 40, _ => ⟨_, rfl⟩
  | 41, _ => ⟨_, rfl⟩
  | 42, _ => ⟨_, rfl⟩
  | 43, _ => ⟨_, rfl⟩
  | 44, _ => ⟨_, rfl⟩
  | 45, _ => ⟨_, rfl⟩
  | 46, _ => ⟨_, rfl⟩
  | 47, _ => ⟨_, rfl⟩
  | 48, _ => ⟨_, rfl⟩
  | 49, _ => ⟨_, rfl⟩
  | 50, _ => ⟨_, rfl⟩
  | 51, _ => ⟨_, rfl⟩
  | 52, _ => ⟨_, rfl⟩
  | 53, _ => ⟨_, rfl⟩
  | 54, _ => ⟨_, rfl⟩
  | 55, _ => ⟨_, rfl⟩
  | 56, _ => ⟨_, rfl⟩
  | 57, _ => ⟨_, rfl⟩
  | 58, _ => ⟨_, rfl⟩
  | 59, _ => ⟨_, rfl⟩
  | 60, _ => ⟨_, rfl⟩
  | 61, _ => ⟨_, rfl⟩
  | 62, _ => ⟨_, rfl⟩
  | 63, _ => ⟨_, rfl⟩
  | 64, _ => ⟨_, rfl⟩
  | 65, _ => ⟨_, rfl⟩
  | 66, _ => ⟨_, rfl⟩
  | 67, _ => ⟨_, rfl⟩
  | 68, _ => ⟨_, rfl⟩
  | 69, _ => ⟨_, rfl⟩
  | 70, _ => ⟨_, rfl⟩
  | 71, _ => ⟨_, rfl⟩
  | 72, _ => ⟨_, rfl⟩
  | 73, _ => ⟨_, rfl⟩
  | 74, _ => ⟨_, rfl⟩
  | 75, _ => ⟨_, rfl⟩
  | 76, _ => ⟨_, rfl⟩
  | 77, _ => ⟨_, rfl⟩
  | 78, _ => ⟨_, rfl⟩
  | 79, _ => ⟨_, rfl⟩
  | 80, _ => ⟨_, rfl⟩
  | 81, _ => ⟨_, rfl⟩
  | 82, _ => ⟨_, rfl⟩
  | 83, _ => ⟨_, rfl⟩
  | 84, _ => ⟨_, rfl⟩
  | 85, _ => ⟨_, rfl⟩
  | n + 86, h => absurd h (by omega)
