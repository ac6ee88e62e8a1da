/-! texts that the class names: length, charAt -/
theorem wj38 : Cond.fieldLink RJ0 38 "java/lang/String" "COMPACT_STRINGS" "Z" ∈ gT := tw 513 (by decide +kernel) rfl
theorem wj1053 : Cond.fieldLink RJ0 1053 "jdk/internal/util/Preconditions" "SIOOBE_FORMATTER" "Ljava/util/function/BiFunction;" ∈ gT := tw 529 (by decide +kernel) rfl
theorem wj9 : Cond.fieldLink RJ0 9 "java/lang/String" "value" "[B" ∈ gT := tw 1280 (by decide +kernel) rfl
theorem wj15 : Cond.fieldLink RJ0 15 "java/lang/String" "coder" "B" ∈ gT := tw 1281 (by decide +kernel) rfl
def chB (b k : Nat) : Int32 := (kByt.getD b []).getD k 0
theorem g_strval {Γ : GG} {X : XT} {S : St} {pc : Nat} {ls : List (Nat × Value)} {st : List Value} {cc : ByteArray} {mL : Nat} {ret : Option FieldType} {fr lo : Nat} (hX : Cx Γ RJ0 cc mL ret fr lo X) {b : Nat} (hb5 : b < 5) (hd : decode cc pc = .ok (.getfield 9, 3)) (k : G Γ X S (pc + 3) ls (.ref (Γ.2.2.2.2.2.2 b) :: st)) : G Γ X S pc ls (.ref (Γ.2.2.2.2.2.1 b) :: st) := by
  obtain ⟨p, l, e, R, s, m, args, below, meth, c, cells, slots, Q⟩ := X
  obtain ⟨hx, hb, hml, hown, hts, hr, hlk, hR, hK⟩ := hX
  intro H locs la hP hS hl
  exact vk_getf hx hb (hK.2.2.2.2.2.1.1 b hb5).2.2.1 hS hown (hts _ wj9) (fun x h => h) hd (k H locs la hP hS hl)
theorem g_strcod {Γ : GG} {X : XT} {S : St} {pc : Nat} {ls : List (Nat × Value)} {st : List Value} {cc : ByteArray} {mL : Nat} {ret : Option FieldType} {fr lo : Nat} (hX : Cx Γ RJ0 cc mL ret fr lo X) {b : Nat} (hb5 : b < 5) (hd : decode cc pc = .ok (.getfield 15, 3)) (k : G Γ X S (pc + 3) ls (.int 0 :: st)) : G Γ X S pc ls (.ref (Γ.2.2.2.2.2.1 b) :: st) := by
  obtain ⟨p, l, e, R, s, m, args, below, meth, c, cells, slots, Q⟩ := X
  obtain ⟨hx, hb, hml, hown, hts, hr, hlk, hR, hK⟩ := hX
  intro H locs la hP hS hl
  exact vk_getf hx hb (hK.2.2.2.2.2.1.1 b hb5).2.1 hS hown (hts _ wj15) (fun x h => h) hd (k H locs la hP hS hl)
theorem g_compact {Γ : GG} {X : XT} {S : St} {pc : Nat} {ls : List (Nat × Value)} {st : List Value} {cc : ByteArray} {mL : Nat} {ret : Option FieldType} {fr lo : Nat} (hX : Cx Γ RJ0 cc mL ret fr lo X) (hd : decode cc pc = .ok (.getstatic 38, 3)) (k : G Γ X S (pc + 3) ls (.int 1 :: st)) : G Γ X S pc ls st := by
  obtain ⟨p, l, e, R, s, m, args, below, meth, c, cells, slots, Q⟩ := X
  obtain ⟨hx, hb, hml, hown, hts, hr, hlk, hR, hK⟩ := hX
  intro H locs la hP hS hl
  exact va_gets hx hb hK.2.2.2.2.2.2.1 hS hown (hts _ wj38) (fun x h => h) hd (k H locs la hP hS hl)
theorem g_fmt {Γ : GG} {X : XT} {S : St} {pc : Nat} {ls : List (Nat × Value)} {st : List Value} {cc : ByteArray} {mL : Nat} {ret : Option FieldType} {fr lo : Nat} (hX : Cx Γ RJ0 cc mL ret fr lo X) (hd : decode cc pc = .ok (.getstatic 1053, 3)) (k : ∀ v : Value, (v = .null ∨ ∃ t : Nat, v = .ref t) → G Γ X S (pc + 3) ls (v :: st)) : G Γ X S pc ls st := by
  obtain ⟨p, l, e, R, s, m, args, below, meth, c, cells, slots, Q⟩ := X
  obtain ⟨hx, hb, hml, hown, hts, hr, hlk, hR, hK⟩ := hX
  intro H locs la hP hS hl
  rcases hK.2.2.2.2.2.2.2 with hZ | ⟨t, hZ⟩
  · exact va_gets hx hb hZ hS hown (hts _ wj1053) (fun x h => h) hd (k _ (Or.inl rfl) H locs la hP hS hl)
  · exact va_gets hx hb hZ hS hown (hts _ wj1053) (fun x h => h) hd (k _ (Or.inr ⟨t, rfl⟩) H locs la hP hS hl)
theorem g_alenB {Γ : GG} {X : XT} {S : St} {pc : Nat} {ls : List (Nat × Value)} {st : List Value} {own : String} {cc : ByteArray} {mL : Nat} {ret : Option FieldType} {fr lo : Nat} (hX : Cx Γ own cc mL ret fr lo X) {b : Nat} (hb5 : b < 5) (hd : decode cc pc = .ok (.arraylength, 1)) (k : G Γ X S (pc + 1) ls (.int (nI (kLen.getD b 0)) :: st)) : G Γ X S pc ls (.ref (Γ.2.2.2.2.2.2 b) :: st) := by
  obtain ⟨p, l, e, R, s, m, args, below, meth, c, cells, slots, Q⟩ := X
  obtain ⟨hx, hb, hml, hown, hts, hr, hlk, hR, hK⟩ := hX
  intro H locs la hP hS hl
  exact va_tlen hx hb (hK.2.2.2.2.2.1.1 b hb5).2.2.2 hS (v := nI (kLen.getD b 0)) rfl hd (k H locs la hP hS hl)
theorem g_baloadB {Γ : GG} {X : XT} {S : St} {pc : Nat} {ls : List (Nat × Value)} {st : List Value} {own : String} {cc : ByteArray} {mL : Nat} {ret : Option FieldType} {fr lo : Nat} (hX : Cx Γ own cc mL ret fr lo X) {b i : Nat} (hb5 : b < 5) (hi : i < kLen.getD b 0) (hd : decode cc pc = .ok (.baload, 1)) (k : G Γ X S (pc + 1) ls (.int (chB b i) :: st)) : G Γ X S pc ls (.int (nI i) :: .ref (Γ.2.2.2.2.2.2 b) :: st) := by
  obtain ⟨p, l, e, R, s, m, args, below, meth, c, cells, slots, Q⟩ := X
  obtain ⟨hx, hb, hml, hown, hts, hr, hlk, hR, hK⟩ := hX
  intro H locs la hP hS hl
  have h9 : ∀ b, b < 5 → kLen.getD b 0 ≤ 5 := by decide
  have h8 := h9 b hb5
  exact va_tb hx hb (hK.2.2.2.2.2.1.1 b hb5).2.2.2 hS (vp_in_nI hi (by omega)) (v := .int (chB b i)) (by rw [nI_clamp (by omega)]; rfl) hd (k H locs la hP hS hl)
theorem c_coder {Γ : GG} {S : St} {b : Nat} (hb5 : b < 5) : kJ0_coder_7d493 Γ [.ref (Γ.2.2.2.2.2.1 b)] S (rI 0 S) := by
  refine oJ0_coder_7d493 (fun X hX hE => ?_)
  refine g_compact hX dJ0_coder_7d493_0 ?_
  refine g_if_eq (tgt := 13) hX dJ0_coder_7d493_3 (by decide) (fun h9 => absurd h9 ((by decide))) (fun _ => ?_)
  refine g_aload_n (i := 0) hX dJ0_coder_7d493_6 rfl rfl ?_
  refine g_strcod hX hb5 dJ0_coder_7d493_7 ?_
  refine g_goto (tgt := 14) hX dJ0_coder_7d493_10 (by decide) ?_
  refine g_zret (st := []) hX hE rfl (by decide +kernel) dJ0_coder_7d493_14 (⟨rfl, rfl⟩)
theorem c_isLat {Γ : GG} {S : St} {b : Nat} (hb5 : b < 5) : kJ0_isLatin1_aae02 Γ [.ref (Γ.2.2.2.2.2.1 b)] S (rI 1 S) := by
  refine oJ0_isLatin1_aae02 (fun X hX hE => ?_)
  refine g_compact hX dJ0_isLatin1_aae02_0 ?_
  refine g_if_eq (tgt := 17) hX dJ0_isLatin1_aae02_3 (by decide) (fun h9 => absurd h9 ((by decide))) (fun _ => ?_)
  refine g_aload_n (i := 0) hX dJ0_isLatin1_aae02_6 rfl rfl ?_
  refine g_strcod hX hb5 dJ0_isLatin1_aae02_7 ?_
  refine g_if_ne (tgt := 17) hX dJ0_isLatin1_aae02_10 (by decide) (fun h9 => absurd (rfl) h9) (fun _ => ?_)
  refine g_iconst hX dJ0_isLatin1_aae02_13 ic1 ?_
  refine g_goto (tgt := 18) hX dJ0_isLatin1_aae02_14 (by decide) ?_
  refine g_zret (st := []) hX hE rfl (nz_narrow (Or.inr rfl)).1 dJ0_isLatin1_aae02_18 (⟨rfl, rfl⟩)
theorem len_shr : ∀ b, b < 5 → nI (kLen.getD b 0) >>> ((0 : Int32) &&& 31) = nI (kLen.getD b 0) := by decide
theorem c_strlen {Γ : GG} {S : St} {b : Nat} (hb5 : b < 5) : kJ0_length_8abf5 Γ [.ref (Γ.2.2.2.2.2.1 b)] S (rI (nI (kLen.getD b 0)) S) := by
  refine oJ0_length_8abf5 (fun X hX hE => ?_)
  refine g_aload_n (i := 0) hX dJ0_length_8abf5_0 rfl rfl ?_
  refine g_strval hX hb5 dJ0_length_8abf5_1 ?_
  refine g_alenB hX hb5 dJ0_length_8abf5_4 ?_
  refine g_aload_n (i := 0) hX dJ0_length_8abf5_5 rfl rfl ?_
  refine sJ0_335 hX hb5 ⟨Nat.le_of_ble_eq_true rfl, Nat.le_of_ble_eq_true rfl⟩ (Nat.le_of_ble_eq_true rfl) dJ0_length_8abf5_6 (c_coder hb5) ?_
  refine g_ishr hX dJ0_length_8abf5_9 ?_
  refine g_iret (st := []) hX hE rfl dJ0_length_8abf5_10 (⟨by rw [len_shr b hb5], rfl⟩)
theorem c_chk3 {Γ : GG} {S : St} {k n : Nat} {v : Value} (hv : v = .null ∨ ∃ t : Nat, v = .ref t) (hk : k < n) (hn : n < 2 ^ 31) : kJ3_checkIndex_8e157 Γ [.int (nI k), .int (nI n), v] S (rI (nI k) S) := by
  rcases hv with rfl | ⟨t, rfl⟩
  · refine Cn.of (ls := [(0, .int (nI k)), (1, .int (nI n)), (2, .null)]) (by decide) (Nat.le_of_ble_eq_true rfl) rfl (fun X hX hE => ?_)
    refine g_iload_n (i := 0) hX dJ3_checkIndex_8e157_0 rfl rfl ?_
    refine g_if_lt (tgt := 9) hX dJ3_checkIndex_8e157_1 (by decide) (fun h9 => absurd h9 (nI_pos (by omega))) (fun _ => ?_)
    refine g_iload_n (i := 0) hX dJ3_checkIndex_8e157_4 rfl rfl ?_
    refine g_iload_n (i := 1) hX dJ3_checkIndex_8e157_5 rfl rfl ?_
    refine g_icmp_lt (tgt := 16) hX dJ3_checkIndex_8e157_6 (by decide) (fun _ => ?_) (fun h9 => absurd (nI_lt hk hn) h9)
    refine g_iload_n (i := 0) hX dJ3_checkIndex_8e157_16 rfl rfl ?_
    refine g_iret (st := []) hX hE rfl dJ3_checkIndex_8e157_17 (⟨rfl, rfl⟩)
  · refine oJ3_checkIndex_8e157 (fun X hX hE => ?_)
    refine g_iload_n (i := 0) hX dJ3_checkIndex_8e157_0 rfl rfl ?_
    refine g_if_lt (tgt := 9) hX dJ3_checkIndex_8e157_1 (by decide) (fun h9 => absurd h9 (nI_pos (by omega))) (fun _ => ?_)
    refine g_iload_n (i := 0) hX dJ3_checkIndex_8e157_4 rfl rfl ?_
    refine g_iload_n (i := 1) hX dJ3_checkIndex_8e157_5 rfl rfl ?_
    refine g_icmp_lt (tgt := 16) hX dJ3_checkIndex_8e157_6 (by decide) (fun _ => ?_) (fun h9 => absurd (nI_lt hk hn) h9)
    refine g_iload_n (i := 0) hX dJ3_checkIndex_8e157_16 rfl rfl ?_
    refine g_iret (st := []) hX hE rfl dJ3_checkIndex_8e157_17 (⟨rfl, rfl⟩)
theorem c_chk0 {Γ : GG} {S : St} {k n : Nat} (hk : k < n) (hn : n < 2 ^ 31) : kJ0_checkIndex_df160 Γ [.int (nI k), .int (nI n)] S (rV S) := by
  refine oJ0_checkIndex_df160 (fun X hX hE => ?_)
  refine g_iload_n (i := 0) hX dJ0_checkIndex_df160_0 rfl rfl ?_
  refine g_iload_n (i := 1) hX dJ0_checkIndex_df160_1 rfl rfl ?_
  refine g_fmt hX dJ0_checkIndex_df160_2 (fun v hv => ?_)
  refine g_callS (As := [.int (nI k), .int (nI n), v]) (rest := []) hX cwJ3_checkIndex_8e157 csJ3_checkIndex_8e157 wlJ0_1059 ⟨Nat.le_of_ble_eq_true rfl, Nat.le_of_ble_eq_true rfl⟩ rfl rfl (Nat.le_of_ble_eq_true rfl) dJ0_checkIndex_df160_5 (c_chk3 hv hk hn) (fun v S' h => ?_)
  obtain ⟨rfl, rfl⟩ := h
  refine g_pop hX dJ0_checkIndex_df160_8 rfl ?_
  refine g_vret (st := []) hX hE rfl dJ0_checkIndex_df160_9 (⟨rfl, rfl⟩)
theorem ch_ok : ∀ b, b < 5 → ∀ k, k < kLen.getD b 0 → ((chB b k &&& 255).toUInt32 % 65536).toInt32 = chB b k ∧ narrow .char (.int (chB b k)) = .int (chB b k) := by decide +kernel
theorem c_charAt1 {Γ : GG} {S : St} {b k : Nat} (hb5 : b < 5) (hk : k < kLen.getD b 0) : kJ1_charAt_3b067 Γ [.ref (Γ.2.2.2.2.2.2 b), .int (nI k)] S (rI (chB b k) S) := by
  refine oJ1_charAt_3b067 (fun X hX hE => ?_)
  have h9 : ∀ b, b < 5 → kLen.getD b 0 ≤ 5 := by decide
  have h8 := h9 b hb5
  obtain ⟨e1, e2⟩ := ch_ok b hb5 k hk
  refine g_iload_n (i := 1) hX dJ1_charAt_3b067_0 rfl rfl ?_
  refine g_aload_n (i := 0) hX dJ1_charAt_3b067_1 rfl rfl ?_
  refine g_alenB hX hb5 dJ1_charAt_3b067_2 ?_
  refine sJ1_9 hX ⟨Nat.le_of_ble_eq_true rfl, Nat.le_of_ble_eq_true rfl⟩ (Nat.le_of_ble_eq_true rfl) dJ1_charAt_3b067_3 (c_chk0 hk (by omega)) ?_
  refine g_aload_n (i := 0) hX dJ1_charAt_3b067_6 rfl rfl ?_
  refine g_iload_n (i := 1) hX dJ1_charAt_3b067_7 rfl rfl ?_
  refine g_baloadB hX hb5 (hk) dJ1_charAt_3b067_8 ?_
  refine g_sipush hX dJ1_charAt_3b067_9 sp255 ?_
  refine g_iand hX dJ1_charAt_3b067_12 ?_
  refine g_i2c hX dJ1_charAt_3b067_13 ?_
  rw [e1]
  refine g_zret (st := []) hX hE rfl (e2) dJ1_charAt_3b067_14 (⟨rfl, rfl⟩)
theorem c_charAt {Γ : GG} {S : St} {b k : Nat} (hb5 : b < 5) (hk : k < kLen.getD b 0) : kJ0_charAt_5068e Γ [.ref (Γ.2.2.2.2.2.1 b), .int (nI k)] S (rI (chB b k) S) := by
  refine oJ0_charAt_5068e (fun X hX hE => ?_)
  obtain ⟨e1, e2⟩ := ch_ok b hb5 k hk
  refine g_aload_n (i := 0) hX dJ0_charAt_5068e_0 rfl rfl ?_
  refine sJ0_492 hX hb5 ⟨Nat.le_of_ble_eq_true rfl, Nat.le_of_ble_eq_true rfl⟩ (Nat.le_of_ble_eq_true rfl) dJ0_charAt_5068e_1 (c_isLat hb5) ?_
  refine g_if_eq (tgt := 16) hX dJ0_charAt_5068e_4 (by decide) (fun h9 => absurd h9 ((by decide))) (fun _ => ?_)
  refine g_aload_n (i := 0) hX dJ0_charAt_5068e_7 rfl rfl ?_
  refine g_strval hX hb5 dJ0_charAt_5068e_8 ?_
  refine g_iload_n (i := 1) hX dJ0_charAt_5068e_11 rfl rfl ?_
  refine sJ0_495 hX ⟨Nat.le_of_ble_eq_true rfl, Nat.le_of_ble_eq_true rfl⟩ (Nat.le_of_ble_eq_true rfl) dJ0_charAt_5068e_12 (c_charAt1 hb5 hk) ?_
  refine g_zret (st := []) hX hE rfl (e2) dJ0_charAt_5068e_15 (⟨rfl, rfl⟩)
