theorem lcX9 : Cond.classLink R_law 7 RX9 ∈ gT := tw 78 (by decide +kernel) rfl
theorem lnX9 : Cond.instantiable RX9 17 ∈ gT := tw 79 (by decide +kernel) rfl
theorem liX9 : Cond.initialized RX9 ∈ gT := tw 59 (by decide +kernel) rfl
theorem llX9 : Cond.methodLink R_law 9 yX9_init ∈ gT := tw 80 (by decide +kernel) rfl
theorem lmX9 : Cond.instanceMethod yX9_init ∈ gT := tw 81 (by decide +kernel) rfl
theorem lkX9 : Cond.code yX9_init cX9_init 2 none ∈ gT := tw 82 (by decide +kernel) rfl
theorem lcX10 : Cond.classLink R_law 10 RX10 ∈ gT := tw 866 (by decide +kernel) rfl
theorem lnX10 : Cond.instantiable RX10 39 ∈ gT := tw 867 (by decide +kernel) rfl
theorem liX10 : Cond.initialized RX10 ∈ gT := tw 69 (by decide +kernel) rfl
theorem llX10 : Cond.methodLink R_law 12 yX10_init ∈ gT := tw 868 (by decide +kernel) rfl
theorem lmX10 : Cond.instanceMethod yX10_init ∈ gT := tw 869 (by decide +kernel) rfl
theorem lkX10 : Cond.code yX10_init cX10_init 1 none ∈ gT := tw 870 (by decide +kernel) rfl
set_option maxHeartbeats 4000000 in
set_option maxRecDepth 20000 in
theorem whole_start {p : Program} {e : Env} {s : State} {m : MethodId} {below : List Frame} {meth : Method} {c : Code} (l : Launch) {b L : Nat} {xs : Nat → Int32} (hL : L ≤ 3072) (C0 : lw_At p s m meth c b L xs) : W p l e room_1 s m #[Value.ref b] below meth c s.heap [] 0 0 (lw_Z below #[Value.ref b] s) (entryFrame m ([Value.ref b] : List Value).toArray 4) := by
  obtain ⟨hx, hb, hr, hml, hown, hts, hX, hbl, hlocks, hgv⟩ := C0
  have hg : ∀ w ∈ gT, w.before #[Value.ref b] s = true := fun w hw => hts w (gT_in hw)
  obtain ⟨D, cA, sA, kA, kV, hK, hN, hSS⟩ := known_all hts hgv
  have hA : ∀ q : Nat, s.heap.size ≤ q → (fun q : Nat => s.heap.size ≤ q) q := fun _ h => h
  have hS : va_S (fun q : Nat => s.heap.size ≤ q) s.heap s.heap [] := va_S.rf
  have hP : va_P D classes [] s.heap := fun k q h => by simp at h
  have hD : va_D (fun q : Nat => s.heap.size ≤ q) [] := ⟨fun i j p q h => by simp at h, fun k q h => by simp at h⟩
  have hl := lv_entry ([.ref b]) (n := 4) (Nat.le_of_ble_eq_true rfl)
  rw [lg_entry_eq]
  generalize (lg_sl ([.ref b]) ++ List.replicate (4 - (lg_sl ([.ref b])).length) Slot.unset).toArray = la at hl ⊢
  have hl : lv_has la 4 [(0, .ref b)] := hl
  refine va_new (D := D) (ci := 9) (fs := [.null, .null, .null, .null, .null, .null, .null, .null, .null, .null, .null, .null, .int 0, .long 0, .int 0, .int 0, .int 0]) (C := RX9) (T := TX9) (N := 17) hx hb hg i_X9 tyX9 tyX9_ok hown (hg _ lcX9) (hg _ lnX9) (hg _ liX9) hK.1 hP hD hS hA rfl (by decide) (Nat.le_of_ble_eq_true rfl) (Nat.le_of_ble_eq_true rfl) dL_law_0 (fun b9 H hP1 hD1 hS1 => ?_)
  refine lv_dup hx hb dL_law_3 rfl ?_
  have hPc9 := hP1.sub (ws' := [(b9, .inr (9, [.null, .null, .null, .null, .null, .null, .null, .null, .null, .null, .null, .null, .int 0, .long 0, .int 0, .int 0, .int 0]))]) [([] : va_W).length] (by rw [List.filterMap_cons, last_get]; rfl)
  have hFc9 := va_free (wc := [(b9, .inr (9, [.null, .null, .null, .null, .null, .null, .null, .null, .null, .null, .null, .null, .int 0, .long 0, .int 0, .int 0, .int 0]))]) hD1 hS1 hA [([] : va_W).length] (by rw [List.map_cons, last_get]; rfl)
  refine va_callv (va_runI (As := []) (rest := [.ref b9]) ⟨hx, hb, hml, hown, hg⟩ (c_X9init (D := D) (cA := cA) l b9 H.size) (cwI 0 hg (good_cons lkX9) rfl rfl rfl (hg _ liX9) (hg _ llX9) (hg _ lmX9) rfl (by decide +kernel) ⟨(Nat.le_of_ble_eq_true rfl), (Nat.le_of_ble_eq_true rfl)⟩) ⟨fun a U g mk q => by obtain ⟨q0, q1, qP, qK⟩ := q; exact ⟨q0, q1, qP, qK.calling g mk a⟩, fun U hU hW => ⟨rfl, by rw [hU], by rw [hU]; exact hPc9, hK.warm hW⟩⟩ rfl rfl hl.1 rfl (lv_room (Nat.le_of_ble_eq_true rfl)) dL_law_4 ⟨(Nat.le_of_ble_eq_true rfl), (Nat.le_of_ble_eq_true rfl)⟩) hS1 (fun q _ h => hFc9 q h) hFc9 (fun a9 t H2 locs2 ht hvm _ hB hz hk2 hS2 => ?_)
  obtain ⟨hP2, hD2⟩ := hB
  rw [ht] at hP2
  obtain ⟨hP3, hD3⟩ := mk_join hP1 hD1 hk2 hFc9 hP2 hD2
  clear hP1 hD1 hS1 hP2 hD2 hk2 hz hP hD hS
  generalize H2 = H at hP3 hS2 ⊢
  have hP : va_P D classes (pwX9 cA b9 a9) H := hP3
  have hD : va_D (fun q : Nat => s.heap.size ≤ q) (pwX9 cA b9 a9) := hD3
  have hS := hS2
  clear hP3 hD3 hS2
  refine lv_astore_n (lv' := [(1, .ref b9), (0, .ref b)]) hx hb dL_law_7 rfl hl (by decide) rfl (fun la hl => ?_)
  refine va_new (D := D) (ci := 10) (fs := [.int 0, .int 0, .null, .null, .null, .null, .null, .null, .null, .null, .null, .null, .null, .int 0, .int 0, .int 0, .int 0, .int 0, .int 0, .int 0, .int 0, .int 0, .long 0, .int 0, .null, .int 0, .int 0, .long 0, .int 0, .int 0, .int 0, .null, .null, .null, .null, .null, .int 0, .null, .int 0]) (C := RX10) (T := TX10) (N := 39) hx hb hg i_X10 tyX10 tyX10_ok hown (hg _ lcX10) (hg _ lnX10) (hg _ liX10) hK.1 hP hD hS hA rfl (by decide) (Nat.le_of_ble_eq_true rfl) (Nat.le_of_ble_eq_true rfl) dL_law_8 (fun b10 H hP1 hD1 hS1 => ?_)
  refine lv_dup hx hb dL_law_11 rfl ?_
  have hPc10 := hP1.sub (ws' := [(b10, .inr (10, [.int 0, .int 0, .null, .null, .null, .null, .null, .null, .null, .null, .null, .null, .null, .int 0, .int 0, .int 0, .int 0, .int 0, .int 0, .int 0, .int 0, .int 0, .long 0, .int 0, .null, .int 0, .int 0, .long 0, .int 0, .int 0, .int 0, .null, .null, .null, .null, .null, .int 0, .null, .int 0]))]) [(pwX9 cA b9 a9).length] (by rw [List.filterMap_cons, last_get]; rfl)
  have hFc10 := va_free (wc := [(b10, .inr (10, [.int 0, .int 0, .null, .null, .null, .null, .null, .null, .null, .null, .null, .null, .null, .int 0, .int 0, .int 0, .int 0, .int 0, .int 0, .int 0, .int 0, .int 0, .long 0, .int 0, .null, .int 0, .int 0, .long 0, .int 0, .int 0, .int 0, .null, .null, .null, .null, .null, .int 0, .null, .int 0]))]) hD1 hS1 hA [(pwX9 cA b9 a9).length] (by rw [List.map_cons, last_get]; rfl)
  refine va_callv (va_runI (As := []) (rest := [.ref b10]) ⟨hx, hb, hml, hown, hg⟩ (c_X10init (D := D) (cA := cA) l b10 H.size) (cwI 0 hg (good_cons lkX10) rfl rfl rfl (hg _ liX10) (hg _ llX10) (hg _ lmX10) rfl (by decide +kernel) ⟨(Nat.le_of_ble_eq_true rfl), (Nat.le_of_ble_eq_true rfl)⟩) ⟨fun a U g mk q => by obtain ⟨q0, q1, qP, qK⟩ := q; exact ⟨q0, q1, qP, qK.calling g mk a⟩, fun U hU hW => ⟨rfl, by rw [hU], by rw [hU]; exact hPc10, hK.warm hW⟩⟩ rfl rfl hl.1 rfl (lv_room (Nat.le_of_ble_eq_true rfl)) dL_law_12 ⟨(Nat.le_of_ble_eq_true rfl), (Nat.le_of_ble_eq_true rfl)⟩) hS1 (fun q _ h => hFc10 q h) hFc10 (fun a10 t H2 locs2 ht hvm _ hB hz hk2 hS2 => ?_)
  obtain ⟨hP2, hD2⟩ := hB
  rw [ht] at hP2
  obtain ⟨hP3, hD3⟩ := mk_join hP1 hD1 hk2 hFc10 hP2 hD2
  clear hP1 hD1 hS1 hP2 hD2 hk2 hz hP hD hS
  generalize H2 = H at hP3 hS2 ⊢
  have hPa : va_P D classes (pwX9 cA b9 a9 ++ pwX10 cA b10 a10) H := hP3
  have hDa : va_D (fun q : Nat => s.heap.size ≤ q) (pwX9 cA b9 a9 ++ pwX10 cA b10 a10) := hD3
  have hS := hS2
  clear hP3 hD3 hS2
  refine lv_astore_n (lv' := [(2, .ref b10), (1, .ref b9), (0, .ref b)]) hx hb dL_law_15 rfl hl (by decide) rfl (fun la hl => ?_)
  refine lv_iconst (v := 0) hx hb dL_law_16 (by decide) ?_
  refine lv_istore_n (lv' := [(3, .int 0), (2, .ref b10), (1, .ref b9), (0, .ref b)]) hx hb dL_law_17 rfl hl (by decide) rfl (fun la hl => ?_)
  have pl := place_beg (D := D) (cA := cA) (b9 := b9) (b10 := b10) (a9 := a9) (a10 := a10) (sA := sA) (kA := kA) (kV := kV)
  have hPw := world_beg (sA := sA) (kA := kA) (kV := kV) hPa
  obtain ⟨Γ, hΓ⟩ : ∃ Γ, Γ = GM D cA b9 b10 a9 a10 sA kA kV := ⟨_, rfl⟩
  rw [← hΓ] at pl hPw
  have hsub : ∀ q, AA Γ q → s.heap.size ≤ q := by
    rintro q ⟨k, hk, rfl⟩
    obtain ⟨e1, he⟩ := pl k hk
    exact hDa.2 k _ he
  have hInj : Inj Γ := by
    intro i j hi hj e1
    obtain ⟨x1, h1⟩ := pl i hi
    obtain ⟨x2, h2⟩ := pl j hj
    exact hDa.1 i j _ _ h1 h2 e1
  have hKn : Kn Γ s := by
    obtain ⟨k1, k2⟩ := hSS (adM b9 b10 a9 a10)
    subst hΓ
    exact ⟨hK.1, hInj, hN, k1, k2.narrow hsub⟩
  have hbA : ¬ AA Γ b := fun z => absurd (hsub b z) (Nat.not_le.mpr hbl)
  refine va_forget (fun q hq => hS.2.2 q hq) ?_
  have e48 : Γ.1 48 = b9 := by subst hΓ; rfl
  have e67 : Γ.1 67 = b10 := by subst hΓ; rfl
  rw [← e48, ← e67] at hl
  refine law_loop (Γ := Γ) (X := (p, l, e, room_1, s, m, #[Value.ref b], below, meth, c, _, _, lw_Z below #[Value.ref b] s)) (b := b) (L := L) (xs := xs) ⟨hx, hb, hml, hown, hg, hr, hlocks, ⟨(Nat.le_of_ble_eq_true rfl), (Nat.le_of_ble_eq_true rfl), (Nat.le_of_ble_eq_true rfl), (Nat.le_of_ble_eq_true rfl)⟩, hKn⟩ ⟨hX, hbl, hbA, hL, fun H locs la pc hS2 hd => ?_⟩ hL (L + 6) 0 Sbeg (by omega) (by omega) rel_beg H [] la hPw ⟨hS.1, fun q h1 _ => hS.2.1 q h1 (Nat.not_le.mpr h1), fun _ h => by cases h⟩ ?_
  · refine va_forget (fun q hq => hsub _ (hS2.2.2 q hq)) ?_
    refine W.widen (k := 600000) (n := 7302250) (Nat.le_of_ble_eq_true rfl) (Nat.le_of_ble_eq_true rfl) ?_
    exact lw_ret hx hb hr hlocks hd
  · rw [hml]
    exact lv_sub hl [3, 2, 1, 0] rfl
