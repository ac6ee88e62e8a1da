/-! the class's tell -/
theorem taa : ∀ p, p < 4 → ([40, 41, 42, 43] : List Nat)[p]? = some (40 + p) := by decide
theorem iaR : ∀ p, p < 4 → IsArr (40 + p) 11 := by unfold IsArr; decide
theorem c_tell {Γ : GG} {S : St} {p s : Nat} {v : Int32} (hp : p < 4) (hs : s < 11) : kX8_tell Γ [.ref (Γ.1 50), .int (nI p), .int (nI s), .int v] S (rV (pI S (40 + p) s v)) := by
  refine oX8_tell (fun X hX hE => ?_)
  have hia := iaR p hp
  refine g_iload_n (i := 1) hX dX8_tell_0 rfl rfl ?_
  refine g_iconst hX dX8_tell_1 ic4 ?_
  refine sX8_36 hX ⟨Nat.le_of_ble_eq_true rfl, Nat.le_of_ble_eq_true rfl⟩ (Nat.le_of_ble_eq_true rfl) dX8_tell_2 (isB_t (n := 4) hp (by decide)) ?_
  refine g_if_eq (tgt := 26) hX dX8_tell_5 (by decide) (fun h9 => absurd h9 ((by decide))) (fun _ => ?_)
  refine g_iload_n (i := 2) hX dX8_tell_8 rfl rfl ?_
  refine g_bipush hX dX8_tell_9 bp11 ?_
  refine sX8_36 hX ⟨Nat.le_of_ble_eq_true rfl, Nat.le_of_ble_eq_true rfl⟩ (Nat.le_of_ble_eq_true rfl) dX8_tell_11 (isB_t (n := 11) hs (by decide)) ?_
  refine g_if_eq (tgt := 26) hX dX8_tell_14 (by decide) (fun h9 => absurd h9 ((by decide))) (fun _ => ?_)
  refine g_aload_n (i := 0) hX dX8_tell_17 rfl rfl ?_
  refine fX8_17 hX dX8_tell_18 ?_
  refine g_iload_n (i := 1) hX dX8_tell_21 rfl rfl ?_
  refine g_aaloadN hX (show 52 < NC by decide) (Or.inr rfl) (show lay 52 = (3, 4, [40, 41, 42, 43]) by decide) rfl (hp) (by decide) (taa p hp) dX8_tell_22 ?_
  refine g_iload_n (i := 2) hX dX8_tell_23 rfl rfl ?_
  refine g_iload_n (i := 3) hX dX8_tell_24 rfl rfl ?_
  refine g_iastoreN hX (hia) rfl (hs) (by first | decide | assumption | omega) dX8_tell_25 ?_
  refine g_vret (st := []) hX hE rfl dX8_tell_26 (⟨rfl, rfl⟩)
