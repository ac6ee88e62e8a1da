theorem q_multi {D : va_G} {cA : Nat → ClassId} {X : XT} {A : Nat → Prop} {ws : va_W} {ce sl pc : Nat} {ls : List (Nat × Value)} {st : List Value} {own : String} {cc : ByteArray} {mL fr lo mc ms : Nat} (hX : CxC D cA own cc mL fr lo mc ms A X) {idx : Nat} (hw : Cond.classLink own idx "[[I" ∈ gT) (hc : ce + 5 ≤ mc) (hs : sl + 48 ≤ ms) (hd : decode cc pc = .ok (.multianewarray idx 2, 4))
    (k : ∀ q : Nat → Nat, GC D X A (ws ++ [(q 0, .inl (cA 3, 4, .inr (.inr (.inr (.inr (fun i => if i < 4 then some (q (i + 1)) else none)))))), (q 1, .inl (cA 0, 11, .inl (fun _ => 0))), (q 2, .inl (cA 0, 11, .inl (fun _ => 0))), (q 3, .inl (cA 0, 11, .inl (fun _ => 0))), (q 4, .inl (cA 0, 11, .inl (fun _ => 0)))]) (ce + 5) (sl + 48) (pc + 4) ls (.ref (q 0) :: st)) : GC D X A ws ce sl pc ls (.int 11 :: .int 4 :: st) := by
  obtain ⟨p, l, e, R, s, m, args, below, meth, c, cells, slots, Q⟩ := X
  obtain ⟨hx, hb, hml, hown, hts, hr, hlk, hR, hin, hK, hA⟩ := hX
  intro H locs la hP hD hS hl
  obtain ⟨k2, g1, g2⟩ := hK.2.2.2
  have e3 : s.vm.findClass "[[I" = some (cA 3) := (hK.1.2 3 _ rfl).2
  obtain ⟨-, k1, a1, co, a2⟩ := (hK.1.2 0 _ rfl).1 0 (fun _ => .null)
  refine w_multi hx hb hown (hts _ hw) e3 g1 g2 a1 a2 hd (Nat.le_trans hc hR.2.2.1) (Nat.le_trans hs hR.2.2.2) (fun H1 y i z w => ?_)
  have hi : ∀ j, 1 ≤ j → j ≤ 4 → H1[H.size + j]? = some (vp_cell (cA 0) (11, .inl (fun _ => 0))) := fun j h1 h2 => by rw [i j h1 h2, vp_cell_i, ← arrV_new]; rfl
  have hk : ∀ (k : Nat) (x : Nat × va_E), ws[k]? = some x → H1[x.1]? = H[x.1]? := fun k x hx => w x.1 ((hP k x hx).lt)
  have hy : H1[H.size]? = some (vp_cell (cA 3) (4, .inr (.inr (.inr (.inr (fun i => if i < 4 then some (H.size + (i + 1)) else none)))))) := by
    rw [y, vp_cell_q, show mO (cA 3) = arrV (cA 3) 4 (fun _ => .null) from arrV_new .., arrV_store, arrV_store, arrV_store, arrV_store]
    congr 2
    funext j
    by_cases q0 : j = 0
    · subst q0; rfl
    by_cases q1 : j = 1
    · subst q1; rfl
    by_cases q2 : j = 2
    · subst q2; rfl
    by_cases q3 : j = 3
    · subst q3; rfl
    · rw [if_neg (by omega)]
      simp [updV, q0, q1, q2, q3, va_rf]
  have key : ∀ (j : Nat) (x : Nat × va_E), ([(H.size + 0, .inl (cA 3, 4, .inr (.inr (.inr (.inr (fun i => if i < 4 then some (H.size + (i + 1)) else none)))))), (H.size + 1, .inl (cA 0, 11, .inl (fun _ => 0))), (H.size + 2, .inl (cA 0, 11, .inl (fun _ => 0))), (H.size + 3, .inl (cA 0, 11, .inl (fun _ => 0))), (H.size + 4, .inl (cA 0, 11, .inl (fun _ => 0)))] : va_W)[j]? = some x → x.1 = H.size + j ∧ j < 5 ∧ va_at D classes x H1 := by
    intro j x hx
    match j, hx with
    | 0, hx => cases hx; exact ⟨rfl, by decide, hy⟩
    | 1, hx => cases hx; exact ⟨rfl, by decide, hi 1 (by decide) (by decide)⟩
    | 2, hx => cases hx; exact ⟨rfl, by decide, hi 2 (by decide) (by decide)⟩
    | 3, hx => cases hx; exact ⟨rfl, by decide, hi 3 (by decide) (by decide)⟩
    | 4, hx => cases hx; exact ⟨rfl, by decide, hi 4 (by decide) (by decide)⟩
    | n + 5, hx => cases hx
  refine k (fun j => H.size + j) H1 _ la ((hP.kept hk).app (fun j x hx => (key j x hx).2.2)) (hD.app ⟨fun i j x y hx hy e => ?_, fun j x hx => ?_⟩ (fun i j x y hx hy e => ?_)) ⟨Nat.le_trans hS.1 (by omega), fun x h1 h2 => (w x (Nat.lt_of_lt_of_le h1 hS.1)).trans (hS.2.1 x h1 h2), fun x hx => ?_⟩ hl
  · have q1 := (key i x hx).1
    have q2 := (key j y hy).1
    omega
  · rw [(key j x hx).1]; exact hA _ (Nat.le_trans hS.1 (by omega))
  · have q1 := (hP i x hx).lt
    have q2 := (key j y hy).1
    omega
  · simp only [List.append_assoc, List.mem_append, List.mem_singleton] at hx
    rcases hx with hx | rfl | rfl | rfl | rfl
    · exact hS.2.2 x hx
    all_goals exact hA _ hS.1
