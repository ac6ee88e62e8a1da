/-! the first state -/
def ini0 (k : Nat) : Nat → Int32 := if k = 0 then (fun j => if j = 1 then 1 else 0) else if k = 2 then (fun j => if j = 1 then 1 else 0) else if k = 4 then (fun j => if j = 1 then 1 else 0) else if k = 6 then (fun j => if j = 1 then 1 else 0) else if k = 8 then (fun j => if j = 1 then 1 else 0) else if k = 10 then (fun j => if j = 1 then 1 else 0) else if k = 12 then (fun j => if j = 1 then 1 else 0) else if k = 14 then (fun j => if j = 1 then 1 else 0) else if k = 48 then (fun j => if j = 16 then 100 else 0) else if k = 60 then (fun j => if j = 0 then 2 else if j = 1 then 1 else if j = 2 then 5 else 0) else if k = 63 then (fun j => if j = 3 then 5 else 0) else if k = 67 then (fun j => if j = 28 then 2 else if j = 29 then 1 else if j = 30 then 5 else if j = 36 then 100 else 0) else if k = 68 then (upd (upd (upd (upd (upd (upd (upd (upd (fun _ => 0) 0 (-1)) 1 (-1)) 2 (-1)) 3 (-1)) 4 (-1)) 5 (-1)) 6 (-1)) 7 (-1)) else (fun _ => 0)
def Sbeg : St := (ini0, fun _ _ => 0)
theorem rel_beg : Rel Sbeg := by
  have nz : ∀ {P : Nat → Prop} (i : Nat), i < 0 → P i := fun i hi => absurd hi (Nat.not_lt_zero i)
  refine ⟨?_, ?_, ?_, ?_, ?_, ?_, ?_, ?_, ?_⟩
  · intro s hs
    rcases (by omega : s = 0 ∨ s = 1 ∨ s = 2 ∨ s = 3 ∨ s = 4 ∨ s = 5 ∨ s = 6 ∨ s = 7) with rfl | rfl | rfl | rfl | rfl | rfl | rfl | rfl <;> exact ⟨0, by decide, rfl, rfl, fun j hj => rfl, Or.inl ⟨rfl, rfl⟩⟩
  · exact ⟨0, fun _ => 0, fun _ => 0, fun _ => 0, ⟨by decide, rfl, fun i hi => absurd hi (Nat.not_lt_zero i)⟩, ⟨rfl, fun i hi => absurd hi (Nat.not_lt_zero i)⟩, fun i hi => absurd hi (Nat.not_lt_zero i), fun i hi => absurd hi (Nat.not_lt_zero _)⟩
  · exact ⟨0, fun _ => 0, fun _ => 0, fun _ => 0, ⟨by decide, rfl, fun i hi => absurd hi (Nat.not_lt_zero i)⟩, ⟨rfl, fun i hi => absurd hi (Nat.not_lt_zero i)⟩, fun i hi => absurd hi (Nat.not_lt_zero i), fun i hi => absurd hi (Nat.not_lt_zero _)⟩
  · refine ⟨fun _ _ => 0, fun p hp i hi => ⟨?_, Nat.zero_le _⟩, fun p hp i _ _ => rfl, fun _ _ _ _ _ => rfl, fun j _ _ => rfl⟩
    rcases (by omega : p = 0 ∨ p = 1 ∨ p = 2 ∨ p = 3) with rfl | rfl | rfl | rfl <;> rfl
  · exact ⟨fun p hp => ⟨rfl, Or.inl rfl⟩, fun i hi => rfl⟩
  · exact ⟨0, by decide, rfl, rfl, fun j hj => absurd hj (Nat.not_lt_zero j)⟩
  · exact ⟨rfl, rfl, rfl, ⟨2, by decide, by decide, rfl⟩, ⟨by decide, by decide⟩, by decide, by decide⟩
  · exact ⟨rfl, rfl, ⟨100, by decide, rfl, rfl⟩, rfl, Or.inl rfl, rfl⟩
  · exact ⟨0, by decide, rfl, rfl, fun j hj => absurd hj (Nat.not_lt_zero j)⟩
