theorem g_iconst {Γ : GG} {X : XT} {S : St} {pc : Nat} {ls : List (Nat × Value)} {st : List Value} {own : String} {cc : ByteArray} {mL : Nat} {ret : Option FieldType} {fr lo : Nat} (hX : Cx Γ own cc mL ret fr lo X) {n : Int} {v : Int32} (hd : decode cc pc = .ok (.iconst n, 1)) (hv : Int32.ofInt n = v) (k : G Γ X S (pc + 1) ls (.int v :: st)) : G Γ X S pc ls (st) := by
  obtain ⟨p, l, e, R, s, m, args, below, meth, c, cells, slots, Q⟩ := X
  obtain ⟨hx, hb, hml, hown, hts, hr, hlk, hR, hK⟩ := hX
  intro H locs la hP hS hl
  exact lv_iconst hx hb hd hv (k H locs la hP hS hl)
theorem g_bipush {Γ : GG} {X : XT} {S : St} {pc : Nat} {ls : List (Nat × Value)} {st : List Value} {own : String} {cc : ByteArray} {mL : Nat} {ret : Option FieldType} {fr lo : Nat} (hX : Cx Γ own cc mL ret fr lo X) {n : Int} {v : Int32} (hd : decode cc pc = .ok (.bipush n, 2)) (hv : (Int8.ofInt n).toInt32 = v) (k : G Γ X S (pc + 2) ls (.int v :: st)) : G Γ X S pc ls (st) := by
  obtain ⟨p, l, e, R, s, m, args, below, meth, c, cells, slots, Q⟩ := X
  obtain ⟨hx, hb, hml, hown, hts, hr, hlk, hR, hK⟩ := hX
  intro H locs la hP hS hl
  exact lv_bipush hx hb hd hv (k H locs la hP hS hl)
theorem g_sipush {Γ : GG} {X : XT} {S : St} {pc : Nat} {ls : List (Nat × Value)} {st : List Value} {own : String} {cc : ByteArray} {mL : Nat} {ret : Option FieldType} {fr lo : Nat} (hX : Cx Γ own cc mL ret fr lo X) {n : Int} {v : Int32} (hd : decode cc pc = .ok (.sipush n, 3)) (hv : (Int16.ofInt n).toInt32 = v) (k : G Γ X S (pc + 3) ls (.int v :: st)) : G Γ X S pc ls (st) := by
  obtain ⟨p, l, e, R, s, m, args, below, meth, c, cells, slots, Q⟩ := X
  obtain ⟨hx, hb, hml, hown, hts, hr, hlk, hR, hK⟩ := hX
  intro H locs la hP hS hl
  exact lv_sipush hx hb hd hv (k H locs la hP hS hl)
theorem g_lconst {Γ : GG} {X : XT} {S : St} {pc : Nat} {ls : List (Nat × Value)} {st : List Value} {own : String} {cc : ByteArray} {mL : Nat} {ret : Option FieldType} {fr lo : Nat} (hX : Cx Γ own cc mL ret fr lo X) {n : Fin 2} {v : Int64} (hd : decode cc pc = .ok (.lconst n, 1)) (hv : Int64.ofNat (n : Nat) = v) (k : G Γ X S (pc + 1) ls (.long v :: st)) : G Γ X S pc ls (st) := by
  obtain ⟨p, l, e, R, s, m, args, below, meth, c, cells, slots, Q⟩ := X
  obtain ⟨hx, hb, hml, hown, hts, hr, hlk, hR, hK⟩ := hX
  intro H locs la hP hS hl
  exact lv_lconst hx hb hd hv (k H locs la hP hS hl)
theorem g_iload_n {Γ : GG} {X : XT} {S : St} {pc : Nat} {ls : List (Nat × Value)} {st : List Value} {own : String} {cc : ByteArray} {mL : Nat} {ret : Option FieldType} {fr lo : Nat} (hX : Cx Γ own cc mL ret fr lo X) {k : Fin 4} {i : Nat} {x : Int32} (hd : decode cc pc = .ok (.iload_n k, 1)) (hi : (k : Nat) = i) (h : aget ls i = some (.int x)) (k : G Γ X S (pc + 1) ls (.int x :: st)) : G Γ X S pc ls (st) := by
  obtain ⟨p, l, e, R, s, m, args, below, meth, c, cells, slots, Q⟩ := X
  obtain ⟨hx, hb, hml, hown, hts, hr, hlk, hR, hK⟩ := hX
  intro H locs la hP hS hl
  exact lv_iload_n hx hb hd hi (hl.2.2 _ (aget_mem h)) (k H locs la hP hS hl)
theorem g_iload {Γ : GG} {X : XT} {S : St} {pc : Nat} {ls : List (Nat × Value)} {st : List Value} {own : String} {cc : ByteArray} {mL : Nat} {ret : Option FieldType} {fr lo : Nat} (hX : Cx Γ own cc mL ret fr lo X) {i : Nat} {x : Int32} (hd : decode cc pc = .ok (.iload i, 2)) (h : aget ls i = some (.int x)) (k : G Γ X S (pc + 2) ls (.int x :: st)) : G Γ X S pc ls (st) := by
  obtain ⟨p, l, e, R, s, m, args, below, meth, c, cells, slots, Q⟩ := X
  obtain ⟨hx, hb, hml, hown, hts, hr, hlk, hR, hK⟩ := hX
  intro H locs la hP hS hl
  exact lv_iload hx hb hd (hl.2.2 _ (aget_mem h)) (k H locs la hP hS hl)
theorem g_lload_n {Γ : GG} {X : XT} {S : St} {pc : Nat} {ls : List (Nat × Value)} {st : List Value} {own : String} {cc : ByteArray} {mL : Nat} {ret : Option FieldType} {fr lo : Nat} (hX : Cx Γ own cc mL ret fr lo X) {k : Fin 4} {i : Nat} {x : Int64} (hd : decode cc pc = .ok (.lload_n k, 1)) (hi : (k : Nat) = i) (h : aget ls i = some (.long x)) (k : G Γ X S (pc + 1) ls (.long x :: st)) : G Γ X S pc ls (st) := by
  obtain ⟨p, l, e, R, s, m, args, below, meth, c, cells, slots, Q⟩ := X
  obtain ⟨hx, hb, hml, hown, hts, hr, hlk, hR, hK⟩ := hX
  intro H locs la hP hS hl
  exact lv_lload_n hx hb hd hi (hl.2.2 _ (aget_mem h)) (k H locs la hP hS hl)
theorem g_lload {Γ : GG} {X : XT} {S : St} {pc : Nat} {ls : List (Nat × Value)} {st : List Value} {own : String} {cc : ByteArray} {mL : Nat} {ret : Option FieldType} {fr lo : Nat} (hX : Cx Γ own cc mL ret fr lo X) {i : Nat} {x : Int64} (hd : decode cc pc = .ok (.lload i, 2)) (h : aget ls i = some (.long x)) (k : G Γ X S (pc + 2) ls (.long x :: st)) : G Γ X S pc ls (st) := by
  obtain ⟨p, l, e, R, s, m, args, below, meth, c, cells, slots, Q⟩ := X
  obtain ⟨hx, hb, hml, hown, hts, hr, hlk, hR, hK⟩ := hX
  intro H locs la hP hS hl
  exact lv_lload hx hb hd (hl.2.2 _ (aget_mem h)) (k H locs la hP hS hl)
theorem g_aload_n {Γ : GG} {X : XT} {S : St} {pc : Nat} {ls : List (Nat × Value)} {st : List Value} {own : String} {cc : ByteArray} {mL : Nat} {ret : Option FieldType} {fr lo : Nat} (hX : Cx Γ own cc mL ret fr lo X) {k : Fin 4} {i : Nat} {x : Nat} (hd : decode cc pc = .ok (.aload_n k, 1)) (hi : (k : Nat) = i) (h : aget ls i = some (.ref x)) (k : G Γ X S (pc + 1) ls (.ref x :: st)) : G Γ X S pc ls (st) := by
  obtain ⟨p, l, e, R, s, m, args, below, meth, c, cells, slots, Q⟩ := X
  obtain ⟨hx, hb, hml, hown, hts, hr, hlk, hR, hK⟩ := hX
  intro H locs la hP hS hl
  exact lv_aload_n hx hb hd hi (hl.2.2 _ (aget_mem h)) (k H locs la hP hS hl)
theorem g_aload {Γ : GG} {X : XT} {S : St} {pc : Nat} {ls : List (Nat × Value)} {st : List Value} {own : String} {cc : ByteArray} {mL : Nat} {ret : Option FieldType} {fr lo : Nat} (hX : Cx Γ own cc mL ret fr lo X) {i : Nat} {x : Nat} (hd : decode cc pc = .ok (.aload i, 2)) (h : aget ls i = some (.ref x)) (k : G Γ X S (pc + 2) ls (.ref x :: st)) : G Γ X S pc ls (st) := by
  obtain ⟨p, l, e, R, s, m, args, below, meth, c, cells, slots, Q⟩ := X
  obtain ⟨hx, hb, hml, hown, hts, hr, hlk, hR, hK⟩ := hX
  intro H locs la hP hS hl
  exact lv_aload hx hb hd (hl.2.2 _ (aget_mem h)) (k H locs la hP hS hl)
theorem g_istore_n {Γ : GG} {X : XT} {S : St} {pc : Nat} {ls : List (Nat × Value)} {st : List Value} {own : String} {cc : ByteArray} {mL : Nat} {ret : Option FieldType} {fr lo : Nat} (hX : Cx Γ own cc mL ret fr lo X) {k : Fin 4} {i : Nat} {x : Int32} (hd : decode cc pc = .ok (.istore_n k, 1)) (hi : (k : Nat) = i) (hn : i < mL) (hj : noL i ls = true) (k' : G Γ X S (pc + 1) (aset i (.int x) ls) st) : G Γ X S pc ls (.int x :: st) := by
  obtain ⟨p, l, e, R, s, m, args, below, meth, c, cells, slots, Q⟩ := X
  obtain ⟨hx, hb, hml, hown, hts, hr, hlk, hR, hK⟩ := hX
  intro H locs la hP hS hl
  exact lv_istore_n hx hb hd hi hl (by rw [hml]; exact hn) rfl (fun la' hl' => k' H locs la' hP hS (has_aset hj hl'))
theorem g_astore_n {Γ : GG} {X : XT} {S : St} {pc : Nat} {ls : List (Nat × Value)} {st : List Value} {own : String} {cc : ByteArray} {mL : Nat} {ret : Option FieldType} {fr lo : Nat} (hX : Cx Γ own cc mL ret fr lo X) {k : Fin 4} {i : Nat} {x : Nat} (hd : decode cc pc = .ok (.astore_n k, 1)) (hi : (k : Nat) = i) (hn : i < mL) (hj : noL i ls = true) (k' : G Γ X S (pc + 1) (aset i (.ref x) ls) st) : G Γ X S pc ls (.ref x :: st) := by
  obtain ⟨p, l, e, R, s, m, args, below, meth, c, cells, slots, Q⟩ := X
  obtain ⟨hx, hb, hml, hown, hts, hr, hlk, hR, hK⟩ := hX
  intro H locs la hP hS hl
  exact lv_astore_n hx hb hd hi hl (by rw [hml]; exact hn) rfl (fun la' hl' => k' H locs la' hP hS (has_aset hj hl'))
theorem g_lstore_n {Γ : GG} {X : XT} {S : St} {pc : Nat} {ls : List (Nat × Value)} {st : List Value} {own : String} {cc : ByteArray} {mL : Nat} {ret : Option FieldType} {fr lo : Nat} (hX : Cx Γ own cc mL ret fr lo X) {k : Fin 4} {i : Nat} {x : Int64} (hd : decode cc pc = .ok (.lstore_n k, 1)) (hi : (k : Nat) = i) (hn : i + 1 < mL) (hj : noL i ls = true) (k' : G Γ X S (pc + 1) (aset i (.long x) (adel (i + 1) ls)) st) : G Γ X S pc ls (.long x :: st) := by
  obtain ⟨p, l, e, R, s, m, args, below, meth, c, cells, slots, Q⟩ := X
  obtain ⟨hx, hb, hml, hown, hts, hr, hlk, hR, hK⟩ := hX
  intro H locs la hP hS hl
  exact lv_lstore_n hx hb hd hi hl (by rw [hml]; exact hn) rfl (fun la' hl' => k' H locs la' hP hS (has_aset2 hj hl'))
theorem g_istore {Γ : GG} {X : XT} {S : St} {pc : Nat} {ls : List (Nat × Value)} {st : List Value} {own : String} {cc : ByteArray} {mL : Nat} {ret : Option FieldType} {fr lo : Nat} (hX : Cx Γ own cc mL ret fr lo X) {i : Nat} {x : Int32} (hd : decode cc pc = .ok (.istore i, 2)) (hn : i < mL) (hj : noL i ls = true) (k' : G Γ X S (pc + 2) (aset i (.int x) ls) st) : G Γ X S pc ls (.int x :: st) := by
  obtain ⟨p, l, e, R, s, m, args, below, meth, c, cells, slots, Q⟩ := X
  obtain ⟨hx, hb, hml, hown, hts, hr, hlk, hR, hK⟩ := hX
  intro H locs la hP hS hl
  exact lv_istore hx hb hd hl (by rw [hml]; exact hn) rfl (fun la' hl' => k' H locs la' hP hS (has_aset hj hl'))
theorem g_astore {Γ : GG} {X : XT} {S : St} {pc : Nat} {ls : List (Nat × Value)} {st : List Value} {own : String} {cc : ByteArray} {mL : Nat} {ret : Option FieldType} {fr lo : Nat} (hX : Cx Γ own cc mL ret fr lo X) {i : Nat} {x : Nat} (hd : decode cc pc = .ok (.astore i, 2)) (hn : i < mL) (hj : noL i ls = true) (k' : G Γ X S (pc + 2) (aset i (.ref x) ls) st) : G Γ X S pc ls (.ref x :: st) := by
  obtain ⟨p, l, e, R, s, m, args, below, meth, c, cells, slots, Q⟩ := X
  obtain ⟨hx, hb, hml, hown, hts, hr, hlk, hR, hK⟩ := hX
  intro H locs la hP hS hl
  exact lv_astore hx hb hd hl (by rw [hml]; exact hn) rfl (fun la' hl' => k' H locs la' hP hS (has_aset hj hl'))
theorem g_lstore {Γ : GG} {X : XT} {S : St} {pc : Nat} {ls : List (Nat × Value)} {st : List Value} {own : String} {cc : ByteArray} {mL : Nat} {ret : Option FieldType} {fr lo : Nat} (hX : Cx Γ own cc mL ret fr lo X) {i : Nat} {x : Int64} (hd : decode cc pc = .ok (.lstore i, 2)) (hn : i + 1 < mL) (hj : noL i ls = true) (k' : G Γ X S (pc + 2) (aset i (.long x) (adel (i + 1) ls)) st) : G Γ X S pc ls (.long x :: st) := by
  obtain ⟨p, l, e, R, s, m, args, below, meth, c, cells, slots, Q⟩ := X
  obtain ⟨hx, hb, hml, hown, hts, hr, hlk, hR, hK⟩ := hX
  intro H locs la hP hS hl
  exact lv_lstore hx hb hd hl (by rw [hml]; exact hn) rfl (fun la' hl' => k' H locs la' hP hS (has_aset2 hj hl'))
theorem g_iinc {Γ : GG} {X : XT} {S : St} {pc : Nat} {ls : List (Nat × Value)} {st : List Value} {own : String} {cc : ByteArray} {mL : Nat} {ret : Option FieldType} {fr lo : Nat} (hX : Cx Γ own cc mL ret fr lo X) {i : Nat} {n : Int} {x d : Int32} (hd : decode cc pc = .ok (.iinc i n, 3)) (h : aget ls i = some (.int x)) (hv : Int32.ofInt n = d) (hn : i < mL) (hj : noL i ls = true) (k' : G Γ X S (pc + 3) (aset i (.int (x + d)) ls) st) : G Γ X S pc ls st := by
  obtain ⟨p, l, e, R, s, m, args, below, meth, c, cells, slots, Q⟩ := X
  obtain ⟨hx, hb, hml, hown, hts, hr, hlk, hR, hK⟩ := hX
  intro H locs la hP hS hl
  obtain ⟨q, hq⟩ := List.getElem?_of_mem (aget_mem h)
  exact lv_iinc hx hb hd hl hq (by rw [hv]) (by rw [hml]; exact hn) rfl (fun la' hl' => k' H locs la' hP hS (has_aset hj hl'))
theorem g_iadd {Γ : GG} {X : XT} {S : St} {pc : Nat} {ls : List (Nat × Value)} {st : List Value} {own : String} {cc : ByteArray} {mL : Nat} {ret : Option FieldType} {fr lo : Nat} (hX : Cx Γ own cc mL ret fr lo X) {x y : Int32} (hd : decode cc pc = .ok (.iadd, 1)) (k : G Γ X S (pc + 1) ls (.int (x + y) :: st)) : G Γ X S pc ls (.int y :: .int x :: st) := by
  obtain ⟨p, l, e, R, s, m, args, below, meth, c, cells, slots, Q⟩ := X
  obtain ⟨hx, hb, hml, hown, hts, hr, hlk, hR, hK⟩ := hX
  intro H locs la hP hS hl
  exact lv_iadd hx hb hd (k H locs la hP hS hl)
theorem g_isub {Γ : GG} {X : XT} {S : St} {pc : Nat} {ls : List (Nat × Value)} {st : List Value} {own : String} {cc : ByteArray} {mL : Nat} {ret : Option FieldType} {fr lo : Nat} (hX : Cx Γ own cc mL ret fr lo X) {x y : Int32} (hd : decode cc pc = .ok (.isub, 1)) (k : G Γ X S (pc + 1) ls (.int (x - y) :: st)) : G Γ X S pc ls (.int y :: .int x :: st) := by
  obtain ⟨p, l, e, R, s, m, args, below, meth, c, cells, slots, Q⟩ := X
  obtain ⟨hx, hb, hml, hown, hts, hr, hlk, hR, hK⟩ := hX
  intro H locs la hP hS hl
  exact lv_isub hx hb hd (k H locs la hP hS hl)
theorem g_imul {Γ : GG} {X : XT} {S : St} {pc : Nat} {ls : List (Nat × Value)} {st : List Value} {own : String} {cc : ByteArray} {mL : Nat} {ret : Option FieldType} {fr lo : Nat} (hX : Cx Γ own cc mL ret fr lo X) {x y : Int32} (hd : decode cc pc = .ok (.imul, 1)) (k : G Γ X S (pc + 1) ls (.int (x * y) :: st)) : G Γ X S pc ls (.int y :: .int x :: st) := by
  obtain ⟨p, l, e, R, s, m, args, below, meth, c, cells, slots, Q⟩ := X
  obtain ⟨hx, hb, hml, hown, hts, hr, hlk, hR, hK⟩ := hX
  intro H locs la hP hS hl
  exact lv_imul hx hb hd (k H locs la hP hS hl)
theorem g_iand {Γ : GG} {X : XT} {S : St} {pc : Nat} {ls : List (Nat × Value)} {st : List Value} {own : String} {cc : ByteArray} {mL : Nat} {ret : Option FieldType} {fr lo : Nat} (hX : Cx Γ own cc mL ret fr lo X) {x y : Int32} (hd : decode cc pc = .ok (.iand, 1)) (k : G Γ X S (pc + 1) ls (.int (x &&& y) :: st)) : G Γ X S pc ls (.int y :: .int x :: st) := by
  obtain ⟨p, l, e, R, s, m, args, below, meth, c, cells, slots, Q⟩ := X
  obtain ⟨hx, hb, hml, hown, hts, hr, hlk, hR, hK⟩ := hX
  intro H locs la hP hS hl
  exact lv_iand hx hb hd (k H locs la hP hS hl)
theorem g_ior {Γ : GG} {X : XT} {S : St} {pc : Nat} {ls : List (Nat × Value)} {st : List Value} {own : String} {cc : ByteArray} {mL : Nat} {ret : Option FieldType} {fr lo : Nat} (hX : Cx Γ own cc mL ret fr lo X) {x y : Int32} (hd : decode cc pc = .ok (.ior, 1)) (k : G Γ X S (pc + 1) ls (.int (x ||| y) :: st)) : G Γ X S pc ls (.int y :: .int x :: st) := by
  obtain ⟨p, l, e, R, s, m, args, below, meth, c, cells, slots, Q⟩ := X
  obtain ⟨hx, hb, hml, hown, hts, hr, hlk, hR, hK⟩ := hX
  intro H locs la hP hS hl
  exact lv_ior hx hb hd (k H locs la hP hS hl)
theorem g_ixor {Γ : GG} {X : XT} {S : St} {pc : Nat} {ls : List (Nat × Value)} {st : List Value} {own : String} {cc : ByteArray} {mL : Nat} {ret : Option FieldType} {fr lo : Nat} (hX : Cx Γ own cc mL ret fr lo X) {x y : Int32} (hd : decode cc pc = .ok (.ixor, 1)) (k : G Γ X S (pc + 1) ls (.int (x ^^^ y) :: st)) : G Γ X S pc ls (.int y :: .int x :: st) := by
  obtain ⟨p, l, e, R, s, m, args, below, meth, c, cells, slots, Q⟩ := X
  obtain ⟨hx, hb, hml, hown, hts, hr, hlk, hR, hK⟩ := hX
  intro H locs la hP hS hl
  exact lv_ixor hx hb hd (k H locs la hP hS hl)
theorem g_ladd {Γ : GG} {X : XT} {S : St} {pc : Nat} {ls : List (Nat × Value)} {st : List Value} {own : String} {cc : ByteArray} {mL : Nat} {ret : Option FieldType} {fr lo : Nat} (hX : Cx Γ own cc mL ret fr lo X) {x y : Int64} (hd : decode cc pc = .ok (.ladd, 1)) (k : G Γ X S (pc + 1) ls (.long (x + y) :: st)) : G Γ X S pc ls (.long y :: .long x :: st) := by
  obtain ⟨p, l, e, R, s, m, args, below, meth, c, cells, slots, Q⟩ := X
  obtain ⟨hx, hb, hml, hown, hts, hr, hlk, hR, hK⟩ := hX
  intro H locs la hP hS hl
  exact lv_ladd hx hb hd (k H locs la hP hS hl)
theorem g_lsub {Γ : GG} {X : XT} {S : St} {pc : Nat} {ls : List (Nat × Value)} {st : List Value} {own : String} {cc : ByteArray} {mL : Nat} {ret : Option FieldType} {fr lo : Nat} (hX : Cx Γ own cc mL ret fr lo X) {x y : Int64} (hd : decode cc pc = .ok (.lsub, 1)) (k : G Γ X S (pc + 1) ls (.long (x - y) :: st)) : G Γ X S pc ls (.long y :: .long x :: st) := by
  obtain ⟨p, l, e, R, s, m, args, below, meth, c, cells, slots, Q⟩ := X
  obtain ⟨hx, hb, hml, hown, hts, hr, hlk, hR, hK⟩ := hX
  intro H locs la hP hS hl
  exact lv_lsub hx hb hd (k H locs la hP hS hl)
theorem g_lmul {Γ : GG} {X : XT} {S : St} {pc : Nat} {ls : List (Nat × Value)} {st : List Value} {own : String} {cc : ByteArray} {mL : Nat} {ret : Option FieldType} {fr lo : Nat} (hX : Cx Γ own cc mL ret fr lo X) {x y : Int64} (hd : decode cc pc = .ok (.lmul, 1)) (k : G Γ X S (pc + 1) ls (.long (x * y) :: st)) : G Γ X S pc ls (.long y :: .long x :: st) := by
  obtain ⟨p, l, e, R, s, m, args, below, meth, c, cells, slots, Q⟩ := X
  obtain ⟨hx, hb, hml, hown, hts, hr, hlk, hR, hK⟩ := hX
  intro H locs la hP hS hl
  exact lv_lmul hx hb hd (k H locs la hP hS hl)
theorem g_land {Γ : GG} {X : XT} {S : St} {pc : Nat} {ls : List (Nat × Value)} {st : List Value} {own : String} {cc : ByteArray} {mL : Nat} {ret : Option FieldType} {fr lo : Nat} (hX : Cx Γ own cc mL ret fr lo X) {x y : Int64} (hd : decode cc pc = .ok (.land, 1)) (k : G Γ X S (pc + 1) ls (.long (x &&& y) :: st)) : G Γ X S pc ls (.long y :: .long x :: st) := by
  obtain ⟨p, l, e, R, s, m, args, below, meth, c, cells, slots, Q⟩ := X
  obtain ⟨hx, hb, hml, hown, hts, hr, hlk, hR, hK⟩ := hX
  intro H locs la hP hS hl
  exact lv_land hx hb hd (k H locs la hP hS hl)
theorem g_lor {Γ : GG} {X : XT} {S : St} {pc : Nat} {ls : List (Nat × Value)} {st : List Value} {own : String} {cc : ByteArray} {mL : Nat} {ret : Option FieldType} {fr lo : Nat} (hX : Cx Γ own cc mL ret fr lo X) {x y : Int64} (hd : decode cc pc = .ok (.lor, 1)) (k : G Γ X S (pc + 1) ls (.long (x ||| y) :: st)) : G Γ X S pc ls (.long y :: .long x :: st) := by
  obtain ⟨p, l, e, R, s, m, args, below, meth, c, cells, slots, Q⟩ := X
  obtain ⟨hx, hb, hml, hown, hts, hr, hlk, hR, hK⟩ := hX
  intro H locs la hP hS hl
  exact lv_lor hx hb hd (k H locs la hP hS hl)
theorem g_lxor {Γ : GG} {X : XT} {S : St} {pc : Nat} {ls : List (Nat × Value)} {st : List Value} {own : String} {cc : ByteArray} {mL : Nat} {ret : Option FieldType} {fr lo : Nat} (hX : Cx Γ own cc mL ret fr lo X) {x y : Int64} (hd : decode cc pc = .ok (.lxor, 1)) (k : G Γ X S (pc + 1) ls (.long (x ^^^ y) :: st)) : G Γ X S pc ls (.long y :: .long x :: st) := by
  obtain ⟨p, l, e, R, s, m, args, below, meth, c, cells, slots, Q⟩ := X
  obtain ⟨hx, hb, hml, hown, hts, hr, hlk, hR, hK⟩ := hX
  intro H locs la hP hS hl
  exact lv_lxor hx hb hd (k H locs la hP hS hl)
/-- Java's rest -/
def jrem (x y : Int32) : Int32 := x - x / y * y
def ushr (x y : Int32) : Int32 := (x.toUInt32 >>> (y.toUInt32 &&& Int32.toUInt32 31)).toInt32
def ushrL (x : Int64) (y : Int32) : Int64 := (x.toUInt64 >>> (y.toInt64.toUInt64 &&& Int64.toUInt64 63)).toInt64
theorem g_irem {Γ : GG} {X : XT} {S : St} {pc : Nat} {ls : List (Nat × Value)} {st : List Value} {own : String} {cc : ByteArray} {mL : Nat} {ret : Option FieldType} {fr lo : Nat} (hX : Cx Γ own cc mL ret fr lo X) {x y : Int32} (hd : decode cc pc = .ok (.irem, 1)) (hne : ¬ y = 0) (k : G Γ X S (pc + 1) ls (.int (jrem x y) :: st)) : G Γ X S pc ls (.int y :: .int x :: st) := by
  obtain ⟨p, l, e, R, s, m, args, below, meth, c, cells, slots, Q⟩ := X
  obtain ⟨hx, hb, hml, hown, hts, hr, hlk, hR, hK⟩ := hX
  intro H locs la hP hS hl
  exact lv_irem hx hb hd hne (k H locs la hP hS hl)
theorem g_idiv {Γ : GG} {X : XT} {S : St} {pc : Nat} {ls : List (Nat × Value)} {st : List Value} {own : String} {cc : ByteArray} {mL : Nat} {ret : Option FieldType} {fr lo : Nat} (hX : Cx Γ own cc mL ret fr lo X) {x y : Int32} (hd : decode cc pc = .ok (.idiv, 1)) (hne : ¬ y = 0) (k : G Γ X S (pc + 1) ls (.int (x / y) :: st)) : G Γ X S pc ls (.int y :: .int x :: st) := by
  obtain ⟨p, l, e, R, s, m, args, below, meth, c, cells, slots, Q⟩ := X
  obtain ⟨hx, hb, hml, hown, hts, hr, hlk, hR, hK⟩ := hX
  intro H locs la hP hS hl
  exact lv_idiv hx hb hd hne (k H locs la hP hS hl)
theorem g_ineg {Γ : GG} {X : XT} {S : St} {pc : Nat} {ls : List (Nat × Value)} {st : List Value} {own : String} {cc : ByteArray} {mL : Nat} {ret : Option FieldType} {fr lo : Nat} (hX : Cx Γ own cc mL ret fr lo X) {x : Int32} (hd : decode cc pc = .ok (.ineg, 1)) (k : G Γ X S (pc + 1) ls (.int (-x) :: st)) : G Γ X S pc ls (.int x :: st) := by
  obtain ⟨p, l, e, R, s, m, args, below, meth, c, cells, slots, Q⟩ := X
  obtain ⟨hx, hb, hml, hown, hts, hr, hlk, hR, hK⟩ := hX
  intro H locs la hP hS hl
  exact lv_ineg hx hb hd (k H locs la hP hS hl)
theorem g_ishl {Γ : GG} {X : XT} {S : St} {pc : Nat} {ls : List (Nat × Value)} {st : List Value} {own : String} {cc : ByteArray} {mL : Nat} {ret : Option FieldType} {fr lo : Nat} (hX : Cx Γ own cc mL ret fr lo X) {x y : Int32} (hd : decode cc pc = .ok (.ishl, 1)) (k : G Γ X S (pc + 1) ls (.int (x <<< (y &&& 31)) :: st)) : G Γ X S pc ls (.int y :: .int x :: st) := by
  obtain ⟨p, l, e, R, s, m, args, below, meth, c, cells, slots, Q⟩ := X
  obtain ⟨hx, hb, hml, hown, hts, hr, hlk, hR, hK⟩ := hX
  intro H locs la hP hS hl
  exact lv_ishl hx hb hd (k H locs la hP hS hl)
theorem g_ishr {Γ : GG} {X : XT} {S : St} {pc : Nat} {ls : List (Nat × Value)} {st : List Value} {own : String} {cc : ByteArray} {mL : Nat} {ret : Option FieldType} {fr lo : Nat} (hX : Cx Γ own cc mL ret fr lo X) {x y : Int32} (hd : decode cc pc = .ok (.ishr, 1)) (k : G Γ X S (pc + 1) ls (.int (x >>> (y &&& 31)) :: st)) : G Γ X S pc ls (.int y :: .int x :: st) := by
  obtain ⟨p, l, e, R, s, m, args, below, meth, c, cells, slots, Q⟩ := X
  obtain ⟨hx, hb, hml, hown, hts, hr, hlk, hR, hK⟩ := hX
  intro H locs la hP hS hl
  exact lv_ishr hx hb hd (k H locs la hP hS hl)
theorem g_iushr {Γ : GG} {X : XT} {S : St} {pc : Nat} {ls : List (Nat × Value)} {st : List Value} {own : String} {cc : ByteArray} {mL : Nat} {ret : Option FieldType} {fr lo : Nat} (hX : Cx Γ own cc mL ret fr lo X) {x y : Int32} (hd : decode cc pc = .ok (.iushr, 1)) (k : G Γ X S (pc + 1) ls (.int (ushr x y) :: st)) : G Γ X S pc ls (.int y :: .int x :: st) := by
  obtain ⟨p, l, e, R, s, m, args, below, meth, c, cells, slots, Q⟩ := X
  obtain ⟨hx, hb, hml, hown, hts, hr, hlk, hR, hK⟩ := hX
  intro H locs la hP hS hl
  exact lv_iushr hx hb hd rfl (k H locs la hP hS hl)
theorem g_lushr {Γ : GG} {X : XT} {S : St} {pc : Nat} {ls : List (Nat × Value)} {st : List Value} {own : String} {cc : ByteArray} {mL : Nat} {ret : Option FieldType} {fr lo : Nat} (hX : Cx Γ own cc mL ret fr lo X) {x : Int64} {y : Int32} (hd : decode cc pc = .ok (.lushr, 1)) (k : G Γ X S (pc + 1) ls (.long (ushrL x y) :: st)) : G Γ X S pc ls (.int y :: .long x :: st) := by
  obtain ⟨p, l, e, R, s, m, args, below, meth, c, cells, slots, Q⟩ := X
  obtain ⟨hx, hb, hml, hown, hts, hr, hlk, hR, hK⟩ := hX
  intro H locs la hP hS hl
  exact lv_lushr hx hb hd rfl (k H locs la hP hS hl)
theorem g_lshl {Γ : GG} {X : XT} {S : St} {pc : Nat} {ls : List (Nat × Value)} {st : List Value} {own : String} {cc : ByteArray} {mL : Nat} {ret : Option FieldType} {fr lo : Nat} (hX : Cx Γ own cc mL ret fr lo X) {x : Int64} {y : Int32} (hd : decode cc pc = .ok (.lshl, 1)) (k : G Γ X S (pc + 1) ls (.long (x <<< (y.toInt64 &&& 63)) :: st)) : G Γ X S pc ls (.int y :: .long x :: st) := by
  obtain ⟨p, l, e, R, s, m, args, below, meth, c, cells, slots, Q⟩ := X
  obtain ⟨hx, hb, hml, hown, hts, hr, hlk, hR, hK⟩ := hX
  intro H locs la hP hS hl
  exact lv_lshl hx hb hd rfl (k H locs la hP hS hl)
theorem g_lshr {Γ : GG} {X : XT} {S : St} {pc : Nat} {ls : List (Nat × Value)} {st : List Value} {own : String} {cc : ByteArray} {mL : Nat} {ret : Option FieldType} {fr lo : Nat} (hX : Cx Γ own cc mL ret fr lo X) {x : Int64} {y : Int32} (hd : decode cc pc = .ok (.lshr, 1)) (k : G Γ X S (pc + 1) ls (.long (x >>> (y.toInt64 &&& 63)) :: st)) : G Γ X S pc ls (.int y :: .long x :: st) := by
  obtain ⟨p, l, e, R, s, m, args, below, meth, c, cells, slots, Q⟩ := X
  obtain ⟨hx, hb, hml, hown, hts, hr, hlk, hR, hK⟩ := hX
  intro H locs la hP hS hl
  exact lv_lshr hx hb hd rfl (k H locs la hP hS hl)
theorem g_i2l {Γ : GG} {X : XT} {S : St} {pc : Nat} {ls : List (Nat × Value)} {st : List Value} {own : String} {cc : ByteArray} {mL : Nat} {ret : Option FieldType} {fr lo : Nat} (hX : Cx Γ own cc mL ret fr lo X) {x : Int32} (hd : decode cc pc = .ok (.i2l, 1)) (k : G Γ X S (pc + 1) ls (.long x.toInt64 :: st)) : G Γ X S pc ls (.int x :: st) := by
  obtain ⟨p, l, e, R, s, m, args, below, meth, c, cells, slots, Q⟩ := X
  obtain ⟨hx, hb, hml, hown, hts, hr, hlk, hR, hK⟩ := hX
  intro H locs la hP hS hl
  exact lv_i2l hx hb hd rfl (k H locs la hP hS hl)
theorem g_l2i {Γ : GG} {X : XT} {S : St} {pc : Nat} {ls : List (Nat × Value)} {st : List Value} {own : String} {cc : ByteArray} {mL : Nat} {ret : Option FieldType} {fr lo : Nat} (hX : Cx Γ own cc mL ret fr lo X) {x : Int64} (hd : decode cc pc = .ok (.l2i, 1)) (k : G Γ X S (pc + 1) ls (.int x.toInt32 :: st)) : G Γ X S pc ls (.long x :: st) := by
  obtain ⟨p, l, e, R, s, m, args, below, meth, c, cells, slots, Q⟩ := X
  obtain ⟨hx, hb, hml, hown, hts, hr, hlk, hR, hK⟩ := hX
  intro H locs la hP hS hl
  exact lv_l2i hx hb hd rfl (k H locs la hP hS hl)
theorem g_i2b {Γ : GG} {X : XT} {S : St} {pc : Nat} {ls : List (Nat × Value)} {st : List Value} {own : String} {cc : ByteArray} {mL : Nat} {ret : Option FieldType} {fr lo : Nat} (hX : Cx Γ own cc mL ret fr lo X) {x : Int32} (hd : decode cc pc = .ok (.i2b, 1)) (k : G Γ X S (pc + 1) ls (.int x.toInt8.toInt32 :: st)) : G Γ X S pc ls (.int x :: st) := by
  obtain ⟨p, l, e, R, s, m, args, below, meth, c, cells, slots, Q⟩ := X
  obtain ⟨hx, hb, hml, hown, hts, hr, hlk, hR, hK⟩ := hX
  intro H locs la hP hS hl
  exact lv_i2b hx hb hd rfl (k H locs la hP hS hl)
theorem g_i2s {Γ : GG} {X : XT} {S : St} {pc : Nat} {ls : List (Nat × Value)} {st : List Value} {own : String} {cc : ByteArray} {mL : Nat} {ret : Option FieldType} {fr lo : Nat} (hX : Cx Γ own cc mL ret fr lo X) {x : Int32} (hd : decode cc pc = .ok (.i2s, 1)) (k : G Γ X S (pc + 1) ls (.int x.toInt16.toInt32 :: st)) : G Γ X S pc ls (.int x :: st) := by
  obtain ⟨p, l, e, R, s, m, args, below, meth, c, cells, slots, Q⟩ := X
  obtain ⟨hx, hb, hml, hown, hts, hr, hlk, hR, hK⟩ := hX
  intro H locs la hP hS hl
  exact lv_i2s hx hb hd rfl (k H locs la hP hS hl)
theorem g_i2c {Γ : GG} {X : XT} {S : St} {pc : Nat} {ls : List (Nat × Value)} {st : List Value} {own : String} {cc : ByteArray} {mL : Nat} {ret : Option FieldType} {fr lo : Nat} (hX : Cx Γ own cc mL ret fr lo X) {x : Int32} (hd : decode cc pc = .ok (.i2c, 1)) (k : G Γ X S (pc + 1) ls (.int (x.toUInt32 % 65536).toInt32 :: st)) : G Γ X S pc ls (.int x :: st) := by
  obtain ⟨p, l, e, R, s, m, args, below, meth, c, cells, slots, Q⟩ := X
  obtain ⟨hx, hb, hml, hown, hts, hr, hlk, hR, hK⟩ := hX
  intro H locs la hP hS hl
  exact lv_i2c hx hb hd rfl (k H locs la hP hS hl)
theorem g_lcmp {Γ : GG} {X : XT} {S : St} {pc : Nat} {ls : List (Nat × Value)} {st : List Value} {own : String} {cc : ByteArray} {mL : Nat} {ret : Option FieldType} {fr lo : Nat} (hX : Cx Γ own cc mL ret fr lo X) {x y : Int64} (hd : decode cc pc = .ok (.lcmp, 1)) (k : G Γ X S (pc + 1) ls (.int (lg_cmp x y) :: st)) : G Γ X S pc ls (.long y :: .long x :: st) := by
  obtain ⟨p, l, e, R, s, m, args, below, meth, c, cells, slots, Q⟩ := X
  obtain ⟨hx, hb, hml, hown, hts, hr, hlk, hR, hK⟩ := hX
  intro H locs la hP hS hl
  exact W.lcmp hx hb hd (k H locs la hP hS hl)
theorem g_dup {Γ : GG} {X : XT} {S : St} {pc : Nat} {ls : List (Nat × Value)} {st : List Value} {own : String} {cc : ByteArray} {mL : Nat} {ret : Option FieldType} {fr lo : Nat} (hX : Cx Γ own cc mL ret fr lo X) {va : Value} (hd : decode cc pc = .ok (.dup, 1)) (hva : va.category = 1) (k : G Γ X S (pc + 1) ls (va :: va :: st)) : G Γ X S pc ls (va :: st) := by
  obtain ⟨p, l, e, R, s, m, args, below, meth, c, cells, slots, Q⟩ := X
  obtain ⟨hx, hb, hml, hown, hts, hr, hlk, hR, hK⟩ := hX
  intro H locs la hP hS hl
  exact lv_dup hx hb hd hva (k H locs la hP hS hl)
theorem g_pop {Γ : GG} {X : XT} {S : St} {pc : Nat} {ls : List (Nat × Value)} {st : List Value} {own : String} {cc : ByteArray} {mL : Nat} {ret : Option FieldType} {fr lo : Nat} (hX : Cx Γ own cc mL ret fr lo X) {va : Value} (hd : decode cc pc = .ok (.pop, 1)) (hva : va.category = 1) (k : G Γ X S (pc + 1) ls (st)) : G Γ X S pc ls (va :: st) := by
  obtain ⟨p, l, e, R, s, m, args, below, meth, c, cells, slots, Q⟩ := X
  obtain ⟨hx, hb, hml, hown, hts, hr, hlk, hR, hK⟩ := hX
  intro H locs la hP hS hl
  exact lv_pop hx hb hd hva (k H locs la hP hS hl)
theorem g_dup2 {Γ : GG} {X : XT} {S : St} {pc : Nat} {ls : List (Nat × Value)} {st : List Value} {own : String} {cc : ByteArray} {mL : Nat} {ret : Option FieldType} {fr lo : Nat} (hX : Cx Γ own cc mL ret fr lo X) {va vb : Value} (hd : decode cc pc = .ok (.dup2, 1)) (hva : va.category = 1) (hvb : vb.category = 1) (k : G Γ X S (pc + 1) ls (va :: vb :: va :: vb :: st)) : G Γ X S pc ls (va :: vb :: st) := by
  obtain ⟨p, l, e, R, s, m, args, below, meth, c, cells, slots, Q⟩ := X
  obtain ⟨hx, hb, hml, hown, hts, hr, hlk, hR, hK⟩ := hX
  intro H locs la hP hS hl
  exact lv_dup2_11 hx hb hd hva hvb (k H locs la hP hS hl)
theorem g_ldc {Γ : GG} {X : XT} {S : St} {pc : Nat} {ls : List (Nat × Value)} {st : List Value} {own : String} {cc : ByteArray} {mL : Nat} {ret : Option FieldType} {fr lo : Nat} (hX : Cx Γ own cc mL ret fr lo X) {idx : Nat} {v : Int32} (hw : Cond.constant own idx v ∈ gT) (hd : decode cc pc = .ok (.ldc idx, 2)) (k : G Γ X S (pc + 2) ls (.int v :: st)) : G Γ X S pc ls (st) := by
  obtain ⟨p, l, e, R, s, m, args, below, meth, c, cells, slots, Q⟩ := X
  obtain ⟨hx, hb, hml, hown, hts, hr, hlk, hR, hK⟩ := hX
  intro H locs la hP hS hl
  exact lv_ldc hx hb hown (hts _ hw) hd (k H locs la hP hS hl)
theorem g_ldc_w {Γ : GG} {X : XT} {S : St} {pc : Nat} {ls : List (Nat × Value)} {st : List Value} {own : String} {cc : ByteArray} {mL : Nat} {ret : Option FieldType} {fr lo : Nat} (hX : Cx Γ own cc mL ret fr lo X) {idx : Nat} {v : Int32} (hw : Cond.constant own idx v ∈ gT) (hd : decode cc pc = .ok (.ldc_w idx, 3)) (k : G Γ X S (pc + 3) ls (.int v :: st)) : G Γ X S pc ls (st) := by
  obtain ⟨p, l, e, R, s, m, args, below, meth, c, cells, slots, Q⟩ := X
  obtain ⟨hx, hb, hml, hown, hts, hr, hlk, hR, hK⟩ := hX
  intro H locs la hP hS hl
  exact lv_ldcw hx hb hown (hts _ hw) hd (k H locs la hP hS hl)
theorem g_ldc2_w {Γ : GG} {X : XT} {S : St} {pc : Nat} {ls : List (Nat × Value)} {st : List Value} {own : String} {cc : ByteArray} {mL : Nat} {ret : Option FieldType} {fr lo : Nat} (hX : Cx Γ own cc mL ret fr lo X) {idx : Nat} {v : Int64} (hw : Cond.constantLong own idx v ∈ gT) (hd : decode cc pc = .ok (.ldc2_w idx, 3)) (k : G Γ X S (pc + 3) ls (.long v :: st)) : G Γ X S pc ls (st) := by
  obtain ⟨p, l, e, R, s, m, args, below, meth, c, cells, slots, Q⟩ := X
  obtain ⟨hx, hb, hml, hown, hts, hr, hlk, hR, hK⟩ := hX
  intro H locs la hP hS hl
  exact lv_ldc2 hx hb hown (hts _ hw) hd (k H locs la hP hS hl)
theorem g_ldcS {Γ : GG} {X : XT} {S : St} {pc : Nat} {ls : List (Nat × Value)} {st : List Value} {own : String} {cc : ByteArray} {mL : Nat} {ret : Option FieldType} {fr lo : Nat} (hX : Cx Γ own cc mL ret fr lo X) {i idx : Nat} {tx : String} (hi : i < 5) (ht : kTx.getD i (0, "") = (idx, tx)) (ho : own = RX8) (hd : decode cc pc = .ok (.ldc idx, 2)) (k : G Γ X S (pc + 2) ls (.ref (Γ.2.2.2.2.2.1 i) :: st)) : G Γ X S pc ls (st) := by
  obtain ⟨p, l, e, R, s, m, args, below, meth, c, cells, slots, Q⟩ := X
  obtain ⟨hx, hb, hml, hown, hts, hr, hlk, hR, hK⟩ := hX
  intro H locs la hP hS hl
  exact va_ldcS (own := RX8) (tx := tx) hx hb (by rw [← ho]; exact hown) (by have h9 := hK.2.2.2.1 i hi; rw [ht] at h9; exact h9) hd (k H locs la hP hS hl)
theorem g_if_eq {Γ : GG} {X : XT} {S : St} {pc : Nat} {ls : List (Nat × Value)} {st : List Value} {own : String} {cc : ByteArray} {mL : Nat} {ret : Option FieldType} {fr lo : Nat} (hX : Cx Γ own cc mL ret fr lo X) {x : Int32} {off : Int} {tgt : Nat} (hd : decode cc pc = .ok (.ifCond .eq off, 3)) (ht : (pc : Int) + off = (tgt : Int)) (kt : x = 0 → G Γ X S tgt ls st) (kf : ¬ x = 0 → G Γ X S (pc + 3) ls st) : G Γ X S pc ls (.int x :: st) := by
  obtain ⟨p, l, e, R, s, m, args, below, meth, c, cells, slots, Q⟩ := X
  obtain ⟨hx, hb, hml, hown, hts, hr, hlk, hR, hK⟩ := hX
  intro H locs la hP hS hl
  exact lv_if_eq hx hb hd ht (fun h => kt h H locs la hP hS hl) (fun h => kf h H locs la hP hS hl)
theorem g_icmp_eq {Γ : GG} {X : XT} {S : St} {pc : Nat} {ls : List (Nat × Value)} {st : List Value} {own : String} {cc : ByteArray} {mL : Nat} {ret : Option FieldType} {fr lo : Nat} (hX : Cx Γ own cc mL ret fr lo X) {x y : Int32} {off : Int} {tgt : Nat} (hd : decode cc pc = .ok (.if_icmp .eq off, 3)) (ht : (pc : Int) + off = (tgt : Int)) (kt : x = y → G Γ X S tgt ls st) (kf : ¬ x = y → G Γ X S (pc + 3) ls st) : G Γ X S pc ls (.int y :: .int x :: st) := by
  obtain ⟨p, l, e, R, s, m, args, below, meth, c, cells, slots, Q⟩ := X
  obtain ⟨hx, hb, hml, hown, hts, hr, hlk, hR, hK⟩ := hX
  intro H locs la hP hS hl
  exact lv_icmp_eq hx hb hd ht (fun h => kt h H locs la hP hS hl) (fun h => kf h H locs la hP hS hl)
theorem g_if_ne {Γ : GG} {X : XT} {S : St} {pc : Nat} {ls : List (Nat × Value)} {st : List Value} {own : String} {cc : ByteArray} {mL : Nat} {ret : Option FieldType} {fr lo : Nat} (hX : Cx Γ own cc mL ret fr lo X) {x : Int32} {off : Int} {tgt : Nat} (hd : decode cc pc = .ok (.ifCond .ne off, 3)) (ht : (pc : Int) + off = (tgt : Int)) (kt : ¬ x = 0 → G Γ X S tgt ls st) (kf : x = 0 → G Γ X S (pc + 3) ls st) : G Γ X S pc ls (.int x :: st) := by
  obtain ⟨p, l, e, R, s, m, args, below, meth, c, cells, slots, Q⟩ := X
  obtain ⟨hx, hb, hml, hown, hts, hr, hlk, hR, hK⟩ := hX
  intro H locs la hP hS hl
  exact lv_if_ne hx hb hd ht (fun h => kt h H locs la hP hS hl) (fun h => kf h H locs la hP hS hl)
theorem g_icmp_ne {Γ : GG} {X : XT} {S : St} {pc : Nat} {ls : List (Nat × Value)} {st : List Value} {own : String} {cc : ByteArray} {mL : Nat} {ret : Option FieldType} {fr lo : Nat} (hX : Cx Γ own cc mL ret fr lo X) {x y : Int32} {off : Int} {tgt : Nat} (hd : decode cc pc = .ok (.if_icmp .ne off, 3)) (ht : (pc : Int) + off = (tgt : Int)) (kt : ¬ x = y → G Γ X S tgt ls st) (kf : x = y → G Γ X S (pc + 3) ls st) : G Γ X S pc ls (.int y :: .int x :: st) := by
  obtain ⟨p, l, e, R, s, m, args, below, meth, c, cells, slots, Q⟩ := X
  obtain ⟨hx, hb, hml, hown, hts, hr, hlk, hR, hK⟩ := hX
  intro H locs la hP hS hl
  exact lv_icmp_ne hx hb hd ht (fun h => kt h H locs la hP hS hl) (fun h => kf h H locs la hP hS hl)
theorem g_if_lt {Γ : GG} {X : XT} {S : St} {pc : Nat} {ls : List (Nat × Value)} {st : List Value} {own : String} {cc : ByteArray} {mL : Nat} {ret : Option FieldType} {fr lo : Nat} (hX : Cx Γ own cc mL ret fr lo X) {x : Int32} {off : Int} {tgt : Nat} (hd : decode cc pc = .ok (.ifCond .lt off, 3)) (ht : (pc : Int) + off = (tgt : Int)) (kt : x < 0 → G Γ X S tgt ls st) (kf : ¬ x < 0 → G Γ X S (pc + 3) ls st) : G Γ X S pc ls (.int x :: st) := by
  obtain ⟨p, l, e, R, s, m, args, below, meth, c, cells, slots, Q⟩ := X
  obtain ⟨hx, hb, hml, hown, hts, hr, hlk, hR, hK⟩ := hX
  intro H locs la hP hS hl
  exact lv_if_lt hx hb hd ht (fun h => kt h H locs la hP hS hl) (fun h => kf h H locs la hP hS hl)
theorem g_icmp_lt {Γ : GG} {X : XT} {S : St} {pc : Nat} {ls : List (Nat × Value)} {st : List Value} {own : String} {cc : ByteArray} {mL : Nat} {ret : Option FieldType} {fr lo : Nat} (hX : Cx Γ own cc mL ret fr lo X) {x y : Int32} {off : Int} {tgt : Nat} (hd : decode cc pc = .ok (.if_icmp .lt off, 3)) (ht : (pc : Int) + off = (tgt : Int)) (kt : x < y → G Γ X S tgt ls st) (kf : ¬ x < y → G Γ X S (pc + 3) ls st) : G Γ X S pc ls (.int y :: .int x :: st) := by
  obtain ⟨p, l, e, R, s, m, args, below, meth, c, cells, slots, Q⟩ := X
  obtain ⟨hx, hb, hml, hown, hts, hr, hlk, hR, hK⟩ := hX
  intro H locs la hP hS hl
  exact lv_icmp_lt hx hb hd ht (fun h => kt h H locs la hP hS hl) (fun h => kf h H locs la hP hS hl)
theorem g_if_ge {Γ : GG} {X : XT} {S : St} {pc : Nat} {ls : List (Nat × Value)} {st : List Value} {own : String} {cc : ByteArray} {mL : Nat} {ret : Option FieldType} {fr lo : Nat} (hX : Cx Γ own cc mL ret fr lo X) {x : Int32} {off : Int} {tgt : Nat} (hd : decode cc pc = .ok (.ifCond .ge off, 3)) (ht : (pc : Int) + off = (tgt : Int)) (kt : 0 ≤ x → G Γ X S tgt ls st) (kf : ¬ 0 ≤ x → G Γ X S (pc + 3) ls st) : G Γ X S pc ls (.int x :: st) := by
  obtain ⟨p, l, e, R, s, m, args, below, meth, c, cells, slots, Q⟩ := X
  obtain ⟨hx, hb, hml, hown, hts, hr, hlk, hR, hK⟩ := hX
  intro H locs la hP hS hl
  exact lv_if_ge hx hb hd ht (fun h => kt h H locs la hP hS hl) (fun h => kf h H locs la hP hS hl)
theorem g_icmp_ge {Γ : GG} {X : XT} {S : St} {pc : Nat} {ls : List (Nat × Value)} {st : List Value} {own : String} {cc : ByteArray} {mL : Nat} {ret : Option FieldType} {fr lo : Nat} (hX : Cx Γ own cc mL ret fr lo X) {x y : Int32} {off : Int} {tgt : Nat} (hd : decode cc pc = .ok (.if_icmp .ge off, 3)) (ht : (pc : Int) + off = (tgt : Int)) (kt : y ≤ x → G Γ X S tgt ls st) (kf : ¬ y ≤ x → G Γ X S (pc + 3) ls st) : G Γ X S pc ls (.int y :: .int x :: st) := by
  obtain ⟨p, l, e, R, s, m, args, below, meth, c, cells, slots, Q⟩ := X
  obtain ⟨hx, hb, hml, hown, hts, hr, hlk, hR, hK⟩ := hX
  intro H locs la hP hS hl
  exact lv_icmp_ge hx hb hd ht (fun h => kt h H locs la hP hS hl) (fun h => kf h H locs la hP hS hl)
theorem g_if_gt {Γ : GG} {X : XT} {S : St} {pc : Nat} {ls : List (Nat × Value)} {st : List Value} {own : String} {cc : ByteArray} {mL : Nat} {ret : Option FieldType} {fr lo : Nat} (hX : Cx Γ own cc mL ret fr lo X) {x : Int32} {off : Int} {tgt : Nat} (hd : decode cc pc = .ok (.ifCond .gt off, 3)) (ht : (pc : Int) + off = (tgt : Int)) (kt : 0 < x → G Γ X S tgt ls st) (kf : ¬ 0 < x → G Γ X S (pc + 3) ls st) : G Γ X S pc ls (.int x :: st) := by
  obtain ⟨p, l, e, R, s, m, args, below, meth, c, cells, slots, Q⟩ := X
  obtain ⟨hx, hb, hml, hown, hts, hr, hlk, hR, hK⟩ := hX
  intro H locs la hP hS hl
  exact lv_if_gt hx hb hd ht (fun h => kt h H locs la hP hS hl) (fun h => kf h H locs la hP hS hl)
theorem g_icmp_gt {Γ : GG} {X : XT} {S : St} {pc : Nat} {ls : List (Nat × Value)} {st : List Value} {own : String} {cc : ByteArray} {mL : Nat} {ret : Option FieldType} {fr lo : Nat} (hX : Cx Γ own cc mL ret fr lo X) {x y : Int32} {off : Int} {tgt : Nat} (hd : decode cc pc = .ok (.if_icmp .gt off, 3)) (ht : (pc : Int) + off = (tgt : Int)) (kt : y < x → G Γ X S tgt ls st) (kf : ¬ y < x → G Γ X S (pc + 3) ls st) : G Γ X S pc ls (.int y :: .int x :: st) := by
  obtain ⟨p, l, e, R, s, m, args, below, meth, c, cells, slots, Q⟩ := X
  obtain ⟨hx, hb, hml, hown, hts, hr, hlk, hR, hK⟩ := hX
  intro H locs la hP hS hl
  exact lv_icmp_gt hx hb hd ht (fun h => kt h H locs la hP hS hl) (fun h => kf h H locs la hP hS hl)
theorem g_if_le {Γ : GG} {X : XT} {S : St} {pc : Nat} {ls : List (Nat × Value)} {st : List Value} {own : String} {cc : ByteArray} {mL : Nat} {ret : Option FieldType} {fr lo : Nat} (hX : Cx Γ own cc mL ret fr lo X) {x : Int32} {off : Int} {tgt : Nat} (hd : decode cc pc = .ok (.ifCond .le off, 3)) (ht : (pc : Int) + off = (tgt : Int)) (kt : x ≤ 0 → G Γ X S tgt ls st) (kf : ¬ x ≤ 0 → G Γ X S (pc + 3) ls st) : G Γ X S pc ls (.int x :: st) := by
  obtain ⟨p, l, e, R, s, m, args, below, meth, c, cells, slots, Q⟩ := X
  obtain ⟨hx, hb, hml, hown, hts, hr, hlk, hR, hK⟩ := hX
  intro H locs la hP hS hl
  exact lv_if_le hx hb hd ht (fun h => kt h H locs la hP hS hl) (fun h => kf h H locs la hP hS hl)
theorem g_icmp_le {Γ : GG} {X : XT} {S : St} {pc : Nat} {ls : List (Nat × Value)} {st : List Value} {own : String} {cc : ByteArray} {mL : Nat} {ret : Option FieldType} {fr lo : Nat} (hX : Cx Γ own cc mL ret fr lo X) {x y : Int32} {off : Int} {tgt : Nat} (hd : decode cc pc = .ok (.if_icmp .le off, 3)) (ht : (pc : Int) + off = (tgt : Int)) (kt : x ≤ y → G Γ X S tgt ls st) (kf : ¬ x ≤ y → G Γ X S (pc + 3) ls st) : G Γ X S pc ls (.int y :: .int x :: st) := by
  obtain ⟨p, l, e, R, s, m, args, below, meth, c, cells, slots, Q⟩ := X
  obtain ⟨hx, hb, hml, hown, hts, hr, hlk, hR, hK⟩ := hX
  intro H locs la hP hS hl
  exact lv_icmp_le hx hb hd ht (fun h => kt h H locs la hP hS hl) (fun h => kf h H locs la hP hS hl)
theorem g_goto {Γ : GG} {X : XT} {S : St} {pc : Nat} {ls : List (Nat × Value)} {st : List Value} {own : String} {cc : ByteArray} {mL : Nat} {ret : Option FieldType} {fr lo : Nat} (hX : Cx Γ own cc mL ret fr lo X) {off : Int} {tgt : Nat} (hd : decode cc pc = .ok (.goto off, 3)) (ht : (pc : Int) + off = (tgt : Int)) (k : G Γ X S tgt ls st) : G Γ X S pc ls st := by
  obtain ⟨p, l, e, R, s, m, args, below, meth, c, cells, slots, Q⟩ := X
  obtain ⟨hx, hb, hml, hown, hts, hr, hlk, hR, hK⟩ := hX
  intro H locs la hP hS hl
  exact lv_goto hx hb hd ht (k H locs la hP hS hl)
theorem g_tableIn {Γ : GG} {X : XT} {S : St} {pc : Nat} {ls : List (Nat × Value)} {st : List Value} {own : String} {cc : ByteArray} {mL : Nat} {ret : Option FieldType} {fr lo : Nat} (hX : Cx Γ own cc mL ret fr lo X) {dflt lw hi : Int} {offs : Array Int} {len : Nat} {x : Int32} {off : Int} {tgt : Nat} (hd : decode cc pc = .ok (.tableswitch dflt lw hi offs, len)) (h1 : ¬ x.toInt < lw) (h2 : ¬ hi < x.toInt) (ho : offs[(x.toInt - lw).toNat]? = some off) (ht : (pc : Int) + off = (tgt : Int)) (k : G Γ X S tgt ls st) : G Γ X S pc ls (.int x :: st) := by
  obtain ⟨p, l, e, R, s, m, args, below, meth, c, cells, slots, Q⟩ := X
  obtain ⟨hx, hb, hml, hown, hts, hr, hlk, hR, hK⟩ := hX
  intro H locs la hP hS hl
  exact lv_tableIn hx hb hd h1 h2 ho ht (k H locs la hP hS hl)
theorem g_tableOut {Γ : GG} {X : XT} {S : St} {pc : Nat} {ls : List (Nat × Value)} {st : List Value} {own : String} {cc : ByteArray} {mL : Nat} {ret : Option FieldType} {fr lo : Nat} (hX : Cx Γ own cc mL ret fr lo X) {dflt lw hi : Int} {offs : Array Int} {len : Nat} {x : Int32} {tgt : Nat} (hd : decode cc pc = .ok (.tableswitch dflt lw hi offs, len)) (h : x.toInt < lw ∨ hi < x.toInt) (ht : (pc : Int) + dflt = (tgt : Int)) (k : G Γ X S tgt ls st) : G Γ X S pc ls (.int x :: st) := by
  obtain ⟨p, l, e, R, s, m, args, below, meth, c, cells, slots, Q⟩ := X
  obtain ⟨hx, hb, hml, hown, hts, hr, hlk, hR, hK⟩ := hX
  intro H locs la hP hS hl
  exact lv_tableOut hx hb hd h ht (k H locs la hP hS hl)
theorem g_lookup {Γ : GG} {X : XT} {S : St} {pc : Nat} {ls : List (Nat × Value)} {st : List Value} {own : String} {cc : ByteArray} {mL : Nat} {ret : Option FieldType} {fr lo : Nat} (hX : Cx Γ own cc mL ret fr lo X) {dflt : Int} {ps : Array (Int × Int)} {len : Nat} {x : Int32} {off : Int} {tgt : Nat} (hd : decode cc pc = .ok (.lookupswitch dflt ps, len)) (hp : (ps.toList.zip (ps.toList.drop 1)).all (fun (a, next) => a.1 < next.1) = true) (ho : Op.lookupswitch.offset ps.toList dflt x.toInt = off) (ht : (pc : Int) + off = (tgt : Int)) (k : G Γ X S tgt ls st) : G Γ X S pc ls (.int x :: st) := by
  obtain ⟨p, l, e, R, s, m, args, below, meth, c, cells, slots, Q⟩ := X
  obtain ⟨hx, hb, hml, hown, hts, hr, hlk, hR, hK⟩ := hX
  intro H locs la hP hS hl
  exact lv_lookup hx hb hd hp ho ht (k H locs la hP hS hl)
theorem g_iret {Γ : GG} {X : XT} {S : St} {pc : Nat} {ls : List (Nat × Value)} {st : List Value} {own : String} {cc : ByteArray} {mL : Nat} {ret : Option FieldType} {fr lo : Nat} (hX : Cx Γ own cc mL ret fr lo X) {P : Option Value → St → Prop} (hE : En Γ P X) (he : ret = some .int) {v : Int32} (hd : decode cc pc = .ok (.ireturn, 1)) (hp : P (some (.int v)) S) : G Γ X S pc ls [.int v] := by
  obtain ⟨p, l, e, R, s, m, args, below, meth, c, cells, slots, Q⟩ := X
  obtain ⟨hx, hb, hml, hown, hts, hr, hlk, hR, hK⟩ := hX
  intro H locs la hP hS hl
  subst he
  cases hE
  exact W.iret hx hb hr (fun t ht hW => ⟨some (.int v), S, rfl, hp, by rw [ht]; exact hP, hS.F ht⟩) hS.2.2 hd hlk
theorem g_zret {Γ : GG} {X : XT} {S : St} {pc : Nat} {ls : List (Nat × Value)} {st : List Value} {own : String} {cc : ByteArray} {mL : Nat} {ret : Option FieldType} {fr lo : Nat} (hX : Cx Γ own cc mL ret fr lo X) {P : Option Value → St → Prop} (hE : En Γ P X) {ty : FieldType} (he : ret = some ty) {v : Int32} (hn : narrow ty (.int v) = .int v) (hd : decode cc pc = .ok (.ireturn, 1)) (hp : P (some (.int v)) S) : G Γ X S pc ls [.int v] := by
  obtain ⟨p, l, e, R, s, m, args, below, meth, c, cells, slots, Q⟩ := X
  obtain ⟨hx, hb, hml, hown, hts, hr, hlk, hR, hK⟩ := hX
  intro H locs la hP hS hl
  subst he
  cases hE
  exact W.zret hx hb hr hn (fun t ht hW => ⟨some (.int v), S, rfl, hp, by rw [ht]; exact hP, hS.F ht⟩) hS.2.2 hd hlk
theorem g_lret {Γ : GG} {X : XT} {S : St} {pc : Nat} {ls : List (Nat × Value)} {st : List Value} {own : String} {cc : ByteArray} {mL : Nat} {ret : Option FieldType} {fr lo : Nat} (hX : Cx Γ own cc mL ret fr lo X) {P : Option Value → St → Prop} (hE : En Γ P X) (he : ret = some .long) {v : Int64} (hd : decode cc pc = .ok (.lreturn, 1)) (hp : P (some (.long v)) S) : G Γ X S pc ls [.long v] := by
  obtain ⟨p, l, e, R, s, m, args, below, meth, c, cells, slots, Q⟩ := X
  obtain ⟨hx, hb, hml, hown, hts, hr, hlk, hR, hK⟩ := hX
  intro H locs la hP hS hl
  subst he
  cases hE
  exact W.lret hx hb hr (fun t ht hW => ⟨some (.long v), S, rfl, hp, by rw [ht]; exact hP, hS.F ht⟩) hS.2.2 hd hlk
theorem g_vret {Γ : GG} {X : XT} {S : St} {pc : Nat} {ls : List (Nat × Value)} {st : List Value} {own : String} {cc : ByteArray} {mL : Nat} {ret : Option FieldType} {fr lo : Nat} (hX : Cx Γ own cc mL ret fr lo X) {P : Option Value → St → Prop} (hE : En Γ P X) (he : ret = none) (hd : decode cc pc = .ok (.return_, 1)) (hp : P none S) : G Γ X S pc ls [] := by
  obtain ⟨p, l, e, R, s, m, args, below, meth, c, cells, slots, Q⟩ := X
  obtain ⟨hx, hb, hml, hown, hts, hr, hlk, hR, hK⟩ := hX
  intro H locs la hP hS hl
  subst he
  cases hE
  exact W.vret hx hb hr (fun t ht hW => ⟨none, S, rfl, hp, by rw [ht]; exact hP, hS.F ht⟩) hS.2.2 hd hlk
theorem g_aret {Γ : GG} {X : XT} {S : St} {pc : Nat} {ls : List (Nat × Value)} {st : List Value} {own : String} {cc : ByteArray} {mL : Nat} {ret : Option FieldType} {fr lo : Nat} (hX : Cx Γ own cc mL ret fr lo X) {P : Option Value → St → Prop} (hE : En Γ P X) {rt : FieldType} (he : ret = some rt) (hrt : (∃ n, rt = .object n) ∨ ∃ t, rt = .array t) {b : Nat} (hd : decode cc pc = .ok (.areturn, 1)) (hp : P (some (.ref b)) S) : G Γ X S pc ls [.ref b] := by
  obtain ⟨p, l, e, R, s, m, args, below, meth, c, cells, slots, Q⟩ := X
  obtain ⟨hx, hb, hml, hown, hts, hr, hlk, hR, hK⟩ := hX
  intro H locs la hP hS hl
  subst he
  cases hE
  exact W.aret hx hb hr hrt (Or.inr ⟨_, rfl⟩) (fun t ht hW => ⟨some (.ref b), S, rfl, hp, by rw [ht]; exact hP, hS.F ht⟩) hS.2.2 hd hlk
theorem g_get {Γ : GG} {X : XT} {S : St} {pc : Nat} {ls : List (Nat × Value)} {st : List Value} {own : String} {cc : ByteArray} {mL : Nat} {ret : Option FieldType} {fr lo : Nat} (hX : Cx Γ own cc mL ret fr lo X) {k j ci x idx cd : Nat} {C : String} {T : u_T} {N : Nat} {cs : List Nat} (hk : k < NC) (hy : lay k = (ci + 4, x, cs)) (hc : classes[ci]? = some (C, T, N)) (hj : j < N) (hcs : cs[j]? = some cd) (hin : ∀ w ∈ u_ws C T N, w ∈ gT) (hT : (T j).1 = C) (hw : Cond.fieldLink own idx C (T j).2.1 (T j).2.2.1 ∈ gT) (hd : decode cc pc = .ok (.getfield idx, 3)) (k' : G Γ X S (pc + 3) ls (fv Γ S k j cd :: st)) : G Γ X S pc ls (.ref (Γ.1 k) :: st) := by
  obtain ⟨p, l, e, R, s, m, args, below, meth, c, cells, slots, Q⟩ := X
  obtain ⟨hx, hb, hml, hown, hts, hr, hlk, hR, hK⟩ := hX
  intro H locs la hP hS hl
  have he : (world Γ S)[k]? = some (Γ.1 k, .inr (ci, mapF Γ S k 0 cs)) := by rw [world_get Γ S hk]; unfold ent; rw [hy]; rfl
  exact va_get (D := dG Γ) (T := T) (N := N) (C := C) hx hb hts hin hown hK.1 hP k he hc j hj (hts _ hw) (fun z h9 => by rw [hT] at h9; exact h9) (v := fv Γ S k j cd) (by rw [mapF_get, hcs, Nat.zero_add]; rfl) hd (k' H locs la hP hS hl)
theorem g_put {Γ : GG} {X : XT} {S : St} {pc : Nat} {ls : List (Nat × Value)} {st : List Value} {own : String} {cc : ByteArray} {mL : Nat} {ret : Option FieldType} {fr lo : Nat} (hX : Cx Γ own cc mL ret fr lo X) {k j ci n0 idx : Nat} {C : String} {T : u_T} {N : Nat} {cs : List Nat} {ty0 : Nat → FieldType} {x : Int32} {ty : FieldType} (hk : k < NC) (hy : lay k = (ci + 4, n0, cs)) (hc : classes[ci]? = some (C, T, N)) (hj : j < N) (hcs : cs[j]? = some 0) (hin : ∀ w ∈ u_ws C T N, w ∈ gT) (hT : (T j).1 = C) (hty : ∀ k, k < N → parseFieldDescriptor (T k).2.2.1 = some (ty0 k)) (hnm : ∀ a, a < N → ∀ b, b < N → a ≠ b → (T a).2.1 ≠ (T b).2.1) (hfin : (T j).2.2.2 = false) (hd0 : parseFieldDescriptor (T j).2.2.1 = some ty) (hw : Cond.fieldLink own idx C (T j).2.1 (T j).2.2.1 ∈ gT) (hn : narrow ty (.int x) = .int x) (hfit : fits ty (.int x) = true) (hd : decode cc pc = .ok (.putfield idx, 3)) (k' : G Γ X (pI S k j x) (pc + 3) ls st) : G Γ X S pc ls (.int x :: .ref (Γ.1 k) :: st) := by
  obtain ⟨p, l, e, R, s, m, args, below, meth, c, cells, slots, Q⟩ := X
  obtain ⟨hx, hb, hml, hown, hts, hr, hlk, hR, hK⟩ := hX
  intro H locs la hP hS hl
  have he : (world Γ S)[k]? = some (Γ.1 k, .inr (ci, mapF Γ S k 0 cs)) := by rw [world_get Γ S hk]; unfold ent; rw [hy]; rfl
  have hl0 : j < cs.length := (List.getElem?_eq_some_iff.mp hcs).1
  refine va_put (D := dG Γ) (T := T) (N := N) (C := C) hx hb hts hin ty0 hty hnm hown hK.1 hP (world_D Γ S hK.2.1) hS k he hc j hj (hts _ hw) (fun z h9 => by rw [hT] at h9; exact h9) hfin hd0 hn hfit (by rw [mapF_len]; exact hl0) hd (fun H1 locs1 hP1 _ hS1 => k' H1 locs1 la ?_ hS1 hl)
  rw [mapF_setI Γ S k x cs 0 j hcs, Nat.zero_add] at hP1
  rw [world_set Γ S (pI S k j x) hk (by unfold ent; rw [hy]; rfl) (fun q hq => ent_pR Γ S k _ hq)] at hP1
  exact hP1
theorem g_putJ {Γ : GG} {X : XT} {S : St} {pc : Nat} {ls : List (Nat × Value)} {st : List Value} {own : String} {cc : ByteArray} {mL : Nat} {ret : Option FieldType} {fr lo : Nat} (hX : Cx Γ own cc mL ret fr lo X) {k j ci n0 idx : Nat} {C : String} {T : u_T} {N : Nat} {cs : List Nat} {ty0 : Nat → FieldType} {x : Int64} (hk : k < NC) (hy : lay k = (ci + 4, n0, cs)) (hc : classes[ci]? = some (C, T, N)) (hj : j < N) (hcs : cs[j]? = some 1) (hin : ∀ w ∈ u_ws C T N, w ∈ gT) (hT : (T j).1 = C) (hty : ∀ k, k < N → parseFieldDescriptor (T k).2.2.1 = some (ty0 k)) (hnm : ∀ a, a < N → ∀ b, b < N → a ≠ b → (T a).2.1 ≠ (T b).2.1) (hfin : (T j).2.2.2 = false) (hd0 : parseFieldDescriptor (T j).2.2.1 = some .long) (hw : Cond.fieldLink own idx C (T j).2.1 (T j).2.2.1 ∈ gT) (hd : decode cc pc = .ok (.putfield idx, 3)) (k' : G Γ X (pJ S k j x) (pc + 3) ls st) : G Γ X S pc ls (.long x :: .ref (Γ.1 k) :: st) := by
  obtain ⟨p, l, e, R, s, m, args, below, meth, c, cells, slots, Q⟩ := X
  obtain ⟨hx, hb, hml, hown, hts, hr, hlk, hR, hK⟩ := hX
  intro H locs la hP hS hl
  have he : (world Γ S)[k]? = some (Γ.1 k, .inr (ci, mapF Γ S k 0 cs)) := by rw [world_get Γ S hk]; unfold ent; rw [hy]; rfl
  have hl0 : j < cs.length := (List.getElem?_eq_some_iff.mp hcs).1
  refine va_put (D := dG Γ) (T := T) (N := N) (C := C) hx hb hts hin ty0 hty hnm hown hK.1 hP (world_D Γ S hK.2.1) hS k he hc j hj (hts _ hw) (fun z h9 => by rw [hT] at h9; exact h9) hfin hd0 rfl rfl (by rw [mapF_len]; exact hl0) hd (fun H1 locs1 hP1 _ hS1 => k' H1 locs1 la ?_ hS1 hl)
  rw [mapF_setJ Γ S k x cs 0 j hcs, Nat.zero_add] at hP1
  rw [world_set Γ S (pJ S k j x) hk (by unfold ent; rw [hy]; rfl) (fun q hq => ent_pJ Γ S k j x hq)] at hP1
  exact hP1
theorem g_iaload {Γ : GG} {X : XT} {S : St} {pc : Nat} {ls : List (Nat × Value)} {st : List Value} {own : String} {cc : ByteArray} {mL : Nat} {ret : Option FieldType} {fr lo : Nat} (hX : Cx Γ own cc mL ret fr lo X) {k n : Nat} {hs : List Nat} {i : Int32} (hk : k < NC) (hy : lay k = (0, n, hs)) (hin : vp_in i n) (hd : decode cc pc = .ok (.iaload, 1)) (k' : G Γ X S (pc + 1) ls (.int (S.1 k i.toNatClampNeg) :: st)) : G Γ X S pc ls (.int i :: .ref (Γ.1 k) :: st) := by
  obtain ⟨p, l, e, R, s, m, args, below, meth, c, cells, slots, Q⟩ := X
  obtain ⟨hx, hb, hml, hown, hts, hr, hlk, hR, hK⟩ := hX
  intro H locs la hP hS hl
  have he : (world Γ S)[k]? = some (Γ.1 k, .inl (Γ.2.2.2.1 0, n, .inl (S.1 k))) := by rw [world_get Γ S hk]; unfold ent; rw [hy]; rfl
  exact va_iald (D := dG Γ) hx hb hK.1 hP k 0 he rfl hin hd (k' H locs la hP hS hl)
theorem g_baload {Γ : GG} {X : XT} {S : St} {pc : Nat} {ls : List (Nat × Value)} {st : List Value} {own : String} {cc : ByteArray} {mL : Nat} {ret : Option FieldType} {fr lo : Nat} (hX : Cx Γ own cc mL ret fr lo X) {k n : Nat} {hs : List Nat} {i : Int32} (hk : k < NC) (hy : lay k = (1, n, hs)) (hin : vp_in i n) (hd : decode cc pc = .ok (.baload, 1)) (k' : G Γ X S (pc + 1) ls (.int (S.1 k i.toNatClampNeg) :: st)) : G Γ X S pc ls (.int i :: .ref (Γ.1 k) :: st) := by
  obtain ⟨p, l, e, R, s, m, args, below, meth, c, cells, slots, Q⟩ := X
  obtain ⟨hx, hb, hml, hown, hts, hr, hlk, hR, hK⟩ := hX
  intro H locs la hP hS hl
  have he : (world Γ S)[k]? = some (Γ.1 k, .inl (Γ.2.2.2.1 1, n, .inl (S.1 k))) := by rw [world_get Γ S hk]; unfold ent; rw [hy]; rfl
  exact va_zald (D := dG Γ) hx hb hK.1 hP k 1 he rfl hin hd (k' H locs la hP hS hl)
theorem g_iastore {Γ : GG} {X : XT} {S : St} {pc : Nat} {ls : List (Nat × Value)} {st : List Value} {own : String} {cc : ByteArray} {mL : Nat} {ret : Option FieldType} {fr lo : Nat} (hX : Cx Γ own cc mL ret fr lo X) {k n : Nat} {hs : List Nat} {i x : Int32} (hk : k < NC) (hy : lay k = (0, n, hs)) (hin : vp_in i n) (hd : decode cc pc = .ok (.iastore, 1)) (k' : G Γ X (pI S k i.toNatClampNeg x) (pc + 1) ls st) : G Γ X S pc ls (.int x :: .int i :: .ref (Γ.1 k) :: st) := by
  obtain ⟨p, l, e, R, s, m, args, below, meth, c, cells, slots, Q⟩ := X
  obtain ⟨hx, hb, hml, hown, hts, hr, hlk, hR, hK⟩ := hX
  intro H locs la hP hS hl
  have he : (world Γ S)[k]? = some (Γ.1 k, .inl (Γ.2.2.2.1 0, n, .inl (S.1 k))) := by rw [world_get Γ S hk]; unfold ent; rw [hy]; rfl
  refine va_iast (D := dG Γ) hx hb hK.1 hP (world_D Γ S hK.2.1) hS k 0 he rfl hin hd (fun H1 locs1 hP1 _ hS1 => k' H1 locs1 la ?_ hS1 hl)
  rw [world_set Γ S (pI S k i.toNatClampNeg x) hk (by unfold ent; rw [hy]; simp only [entK]; rw [pR_self]) (fun q hq => ent_pR Γ S k _ hq)] at hP1
  exact hP1
theorem g_bastore {Γ : GG} {X : XT} {S : St} {pc : Nat} {ls : List (Nat × Value)} {st : List Value} {own : String} {cc : ByteArray} {mL : Nat} {ret : Option FieldType} {fr lo : Nat} (hX : Cx Γ own cc mL ret fr lo X) {k n : Nat} {hs : List Nat} {i x : Int32} (hk : k < NC) (hy : lay k = (1, n, hs)) (hin : vp_in i n) (hd : decode cc pc = .ok (.bastore, 1)) (k' : G Γ X (pI S k i.toNatClampNeg (vp_nar .boolean x)) (pc + 1) ls st) : G Γ X S pc ls (.int x :: .int i :: .ref (Γ.1 k) :: st) := by
  obtain ⟨p, l, e, R, s, m, args, below, meth, c, cells, slots, Q⟩ := X
  obtain ⟨hx, hb, hml, hown, hts, hr, hlk, hR, hK⟩ := hX
  intro H locs la hP hS hl
  have he : (world Γ S)[k]? = some (Γ.1 k, .inl (Γ.2.2.2.1 1, n, .inl (S.1 k))) := by rw [world_get Γ S hk]; unfold ent; rw [hy]; rfl
  refine va_zast (D := dG Γ) hx hb hK.1 hP (world_D Γ S hK.2.1) hS k 1 he rfl hin hd (fun H1 locs1 hP1 _ hS1 => k' H1 locs1 la ?_ hS1 hl)
  rw [world_set Γ S (pI S k i.toNatClampNeg (vp_nar .boolean x)) hk (by unfold ent; rw [hy]; simp only [entK]; rw [pR_self]) (fun q hq => ent_pR Γ S k _ hq)] at hP1
  exact hP1
theorem g_alen {Γ : GG} {X : XT} {S : St} {pc : Nat} {ls : List (Nat × Value)} {st : List Value} {own : String} {cc : ByteArray} {mL : Nat} {ret : Option FieldType} {fr lo : Nat} (hX : Cx Γ own cc mL ret fr lo X) {k n : Nat} {hs : List Nat} (hk : k < NC) (hy : lay k = (0, n, hs)) (hd : decode cc pc = .ok (.arraylength, 1)) (k' : G Γ X S (pc + 1) ls (.int (nI n) :: st)) : G Γ X S pc ls (.ref (Γ.1 k) :: st) := by
  obtain ⟨p, l, e, R, s, m, args, below, meth, c, cells, slots, Q⟩ := X
  obtain ⟨hx, hb, hml, hown, hts, hr, hlk, hR, hK⟩ := hX
  intro H locs la hP hS hl
  have he : (world Γ S)[k]? = some (Γ.1 k, .inl (Γ.2.2.2.1 0, n, .inl (S.1 k))) := by rw [world_get Γ S hk]; unfold ent; rw [hy]; rfl
  exact va_alen (D := dG Γ) hx hb hK.1 hP k 0 he rfl rfl hd (k' H locs la hP hS hl)
theorem g_aaload {Γ : GG} {X : XT} {S : St} {pc : Nat} {ls : List (Nat × Value)} {st : List Value} {own : String} {cc : ByteArray} {mL : Nat} {ret : Option FieldType} {fr lo : Nat} (hX : Cx Γ own cc mL ret fr lo X) {k n tg h0 : Nat} {hs : List Nat} {i : Int32} (hk : k < NC) (ht : tg = 2 ∨ tg = 3) (hy : lay k = (tg, n, hs)) (hin : vp_in i n) (hh : hs[i.toNatClampNeg]? = some h0) (hd : decode cc pc = .ok (.aaload, 1)) (k' : G Γ X S (pc + 1) ls (.ref (Γ.1 h0) :: st)) : G Γ X S pc ls (.int i :: .ref (Γ.1 k) :: st) := by
  obtain ⟨p, l, e, R, s, m, args, below, meth, c, cells, slots, Q⟩ := X
  obtain ⟨hx, hb, hml, hown, hts, hr, hlk, hR, hK⟩ := hX
  intro H locs la hP hS hl
  have hlt : i.toNatClampNeg < n := Nat.not_le.mp fun q => hin (Or.inr q)
  have hv : va_rf ((hs[i.toNatClampNeg]?).map Γ.1) = .ref (Γ.1 h0) := by rw [hh]; rfl
  rcases ht with rfl | rfl
  · have he : (world Γ S)[k]? = some (Γ.1 k, .inl (Γ.2.2.2.1 2, n, .inr (.inr (.inr (.inr (fun i => (hs[i]?).map Γ.1)))))) := by rw [world_get Γ S hk]; unfold ent; rw [hy]; rfl
    exact W.aald (v := .ref (Γ.1 h0)) (ty := .object RX7) hx hb (hP k _ he) ((hK.1.2 2 _ rfl).1 n (fun j => va_rf ((hs[j]?).map Γ.1))) rfl (fun q => by cases q) (by show ¬ (i < 0 ∨ (arrV _ _ _).slots.size ≤ _); rw [arrV_size]; exact hin) (by show (arrV _ _ _).slots[_]? = _; rw [arrV_read _ _ hlt, hv]) rfl rfl hd (k' H locs la hP hS hl)
  · have he : (world Γ S)[k]? = some (Γ.1 k, .inl (Γ.2.2.2.1 3, n, .inr (.inr (.inr (.inr (fun i => (hs[i]?).map Γ.1)))))) := by rw [world_get Γ S hk]; unfold ent; rw [hy]; rfl
    exact W.aald (v := .ref (Γ.1 h0)) (ty := .array .int) hx hb (hP k _ he) ((hK.1.2 3 _ rfl).1 n (fun j => va_rf ((hs[j]?).map Γ.1))) rfl (fun q => by cases q) (by show ¬ (i < 0 ∨ (arrV _ _ _).slots.size ≤ _); rw [arrV_size]; exact hin) (by show (arrV _ _ _).slots[_]? = _; rw [arrV_read _ _ hlt, hv]) rfl rfl hd (k' H locs la hP hS hl)
/-- the static arrays of Tape -/
theorem g_getstatic {Γ : GG} {X : XT} {S : St} {pc : Nat} {ls : List (Nat × Value)} {st : List Value} {own : String} {cc : ByteArray} {mL : Nat} {ret : Option FieldType} {fr lo : Nat} (hX : Cx Γ own cc mL ret fr lo X) {i idx : Nat} {nm : String} (hi : i < 4) (hn : sNm.getD i "" = nm) (ho : own = RX8) (hw : Cond.fieldLink own idx RX8 nm "[I" ∈ gT) (hd : decode cc pc = .ok (.getstatic idx, 3)) (k' : G Γ X S (pc + 3) ls (.ref (Γ.2.2.2.2.1 i) :: st)) : G Γ X S pc ls st := by
  obtain ⟨p, l, e, R, s, m, args, below, meth, c, cells, slots, Q⟩ := X
  obtain ⟨hx, hb, hml, hown, hts, hr, hlk, hR, hK⟩ := hX
  intro H locs la hP hS hl
  have hZ := (hK.2.2.2.2.1 i hi).1
  rw [hn] at hZ
  exact va_gets hx hb hZ hS hown (hts _ hw) (fun z h9 => h9) hd (k' H locs la hP hS hl)
theorem g_ialoadS {Γ : GG} {X : XT} {S : St} {pc : Nat} {ls : List (Nat × Value)} {st : List Value} {own : String} {cc : ByteArray} {mL : Nat} {ret : Option FieldType} {fr lo : Nat} (hX : Cx Γ own cc mL ret fr lo X) {q : Nat} {i : Int32} {v : Int32} (hq : q < 4) (hin : vp_in i 5) (hv : (sVl.getD q []).getD i.toNatClampNeg 0 = v) (hd : decode cc pc = .ok (.iaload, 1)) (k' : G Γ X S (pc + 1) ls (.int v :: st)) : G Γ X S pc ls (.int i :: .ref (Γ.2.2.2.2.1 q) :: st) := by
  obtain ⟨p, l, e, R, s, m, args, below, meth, c, cells, slots, Q⟩ := X
  obtain ⟨hx, hb, hml, hown, hts, hr, hlk, hR, hK⟩ := hX
  intro H locs la hP hS hl
  exact va_ti hx hb (hK.2.2.2.2.1 q hq).2 hS hin (v := .int v) (by show Value.int _ = _; rw [hv]) hd (k' H locs la hP hS hl)
theorem g_alenS {Γ : GG} {X : XT} {S : St} {pc : Nat} {ls : List (Nat × Value)} {st : List Value} {own : String} {cc : ByteArray} {mL : Nat} {ret : Option FieldType} {fr lo : Nat} (hX : Cx Γ own cc mL ret fr lo X) {q : Nat} (hq : q < 4) (hd : decode cc pc = .ok (.arraylength, 1)) (k' : G Γ X S (pc + 1) ls (.int 5 :: st)) : G Γ X S pc ls (.ref (Γ.2.2.2.2.1 q) :: st) := by
  obtain ⟨p, l, e, R, s, m, args, below, meth, c, cells, slots, Q⟩ := X
  obtain ⟨hx, hb, hml, hown, hts, hr, hlk, hR, hK⟩ := hX
  intro H locs la hP hS hl
  obtain ⟨cell, h1, h2, h3, h4, h5, h6, h7⟩ := (hK.2.2.2.2.1 q hq).2
  exact W.alen (n := 5) hx hb (by rw [hS.2.1 _ (Array.getElem?_eq_some_iff.mp h1).1 h7]; exact h1) h2 (by rw [h5]; rfl) rfl rfl hd (k' H locs la hP hS hl)
theorem g_run {p : Program} {l : Launch} {e : Env} {R : Room} {s : State} {m : MethodId} {args : Array Value} {below : List Frame} {meth : Method} {c : Code} {H : Heap} {locs : List Loc} {cells slots : Nat} {Q : State → Prop} {pc : Nat} {la : Array Slot} {rest st0 : List Value} {a : Array Value} {Γ : GG} {P' : Option Value → St → Prop}
    (hr : va_Run p l e R s m args below meth c H locs cells slots 0 0 (F0 m pc la st0) rest (QQ Γ P' a) (AA Γ)) (hS : va_S (AA Γ) s.heap H locs)
    (kk : ∀ (v : Option Value) (S' : St) (H1 : Heap) (locs1 : List Loc), P' v S' → va_P (dG Γ) classes (world Γ S') H1 → va_S (AA Γ) s.heap H1 locs1 → W p l e R s m args below meth c H1 locs1 cells slots Q (F0 m (pc + 3) la (v.toList ++ rest))) : W p l e R s m args below meth c H locs cells slots Q (F0 m pc la st0) := by
  intro T hT X
  obtain ⟨v, st₀, t, T', L, h0, X', hL, e1, e2, ⟨v1, S', hv, hp, hPw, hz, hk⟩, st⟩ := hr T hT X
  cases hv
  rw [h0] at hz hk
  obtain ⟨t2, a1, b1⟩ := kk v S' T'.heap (locs ++ L) hp (by rw [e1]; exact hPw)
    ⟨Nat.le_trans hS.1 (by rw [e1]; exact hz), fun q h1 h2 => by rw [e1, hk q (Nat.lt_of_lt_of_le h1 hS.1) h2]; exact hS.2.1 q h1 h2, fun q hq => by
      rcases List.mem_append.mp hq with h | h
      · exact hS.2.2 q h
      · exact hL q h⟩ T' rfl X'
  exact ⟨t2, st t2 a1, b1⟩
theorem pre_blind {Γ : GG} {av : List Value} {S : St} : FrameBlind (va_Pc av (fun U => va_P (dG Γ) classes (world Γ S) U.heap ∧ Kn Γ U)) := by
  intro a U g mk q
  obtain ⟨q0, qP, qK⟩ := q
  exact ⟨q0, qP, qK.calling g mk a⟩
/-- the words of a callee -/
def CalW (y : MethodName) (bytes : ByteArray) (maxL : Nat) (ret : Option FieldType) (n : Nat) : Prop :=
  Cond.code y bytes maxL ret ∈ gT ∧ Cond.initialized y.cls ∈ gT ∧ (y.cls ≠ "java/lang/invoke/MethodHandle" ∧ y.cls ≠ "java/lang/invoke/VarHandle" ∧ (parseMethodDescriptor y.desc).map (fun d => d.parameters.length) = some n)
theorem good_cons {w : Cond} (h : w ∈ gT) : GoodIn gT (w :: gT) := fun w' hw => (List.mem_cons.mp hw).elim (fun e => by rw [e]; exact gT_good w h) (fun h => gT_good w' h)
theorem g_callV {Γ : GG} {X : XT} {S : St} {pc : Nat} {ls : List (Nat × Value)} {st : List Value} {own : String} {cc : ByteArray} {mL : Nat} {ret : Option FieldType} {fr lo : Nat} (hX : Cx Γ own cc mL ret fr lo X) {y : MethodName} {bytes : ByteArray} {maxL n idx k ci fr' lo' : Nat} {ret' : Option FieldType} {T : u_T} {N : Nat} {As rest : List Value} {P' : Option Value → St → Prop}
    (hc : CalW y bytes maxL ret' n) (hm : Cond.instanceMethod y ∈ gT) (hs : Cond.selects y.cls y y ∈ gT) (hw : Cond.methodLink own idx y ∈ gT) (hcl : classes[ci]? = some (y.cls, T, N)) (hR' : fr' + 1 ≤ fr ∧ 8 + (maxL + 11) + lo' ≤ lo)
    (hk : k < NC) (hy : (lay k).1 = ci + 4) (hn : As.length = n) (hst : st = As.reverse ++ .ref (Γ.1 k) :: rest) (hrm : (rest.map fun v => v.category).sum ≤ 8) (hd : decode cc pc = .ok (.invokevirtual idx, 3))
    (hC : Cn Γ y bytes maxL ret' fr' lo' (.ref (Γ.1 k) :: As) S P') (kk : ∀ (v : Option Value) (S' : St), P' v S' → G Γ X S' (pc + 3) ls (v.toList ++ rest)) : G Γ X S pc ls st := by
  obtain ⟨p, l, e, R, s, m, args, below, meth, c, cells, slots, Q⟩ := X
  obtain ⟨hx, hb, hml, hown, hts, hr, hlk, hR, hK⟩ := hX
  intro H locs la hP hS hl
  have he : ∃ fs, (world Γ S)[k]? = some (Γ.1 k, .inr (ci, fs)) := by
    refine ⟨mapF Γ S k 0 (lay k).2.2, ?_⟩
    rw [world_get Γ S hk]
    unfold ent
    generalize lay k = z at hy
    obtain ⟨t, u, w⟩ := z
    cases hy
    rfl
  obtain ⟨fs, he⟩ := he
  have hg : GoodIn gT (wsV own idx y.cls y (Cond.code y bytes maxL ret' :: gT)) := by
    intro w h9
    unfold wsV at h9
    simp only [List.cons_append, List.nil_append, List.mem_cons] at h9
    rcases h9 with rfl | rfl | rfl | rfl | rfl | h9
    · exact gT_good _ hw
    · exact gT_good _ hm
    · exact gT_good _ hs
    · exact gT_good _ hc.2.1
    · exact gT_good _ hc.1
    · exact gT_good _ h9
  refine g_run (va_runV (As := As) (rest := rest) (b := Γ.1 k) (C := y.cls) ⟨hx, hb, rfl, hown, hts⟩ (hC l) (cwV n hts hg rfl rfl rfl ⟨rfl, hc.2.2⟩ ⟨Nat.le_trans hR'.1 hR.1, Nat.le_trans hR'.2 hR.2.1⟩) ⟨pre_blind, va_recv hK.1 hP (ci := ci) (q0 := k) hcl he, fun U hU hW => ⟨rfl, by rw [hU]; exact hP, hK.step hW (locs := locs) (by rw [hU]; exact hS)⟩⟩ rfl hn hl.1 hst (lv_room hrm) hd ⟨hR.2.2.1, hR.2.2.2⟩) hS (fun v S' H1 locs1 hp hP1 hS1 => kk v S' hp H1 locs1 la hP1 hS1 hl)
theorem g_callVK {Γ : GG} {X : XT} {S : St} {pc : Nat} {ls : List (Nat × Value)} {st : List Value} {own : String} {cc : ByteArray} {mL : Nat} {ret : Option FieldType} {fr lo : Nat} (hX : Cx Γ own cc mL ret fr lo X) {y : MethodName} {bytes : ByteArray} {maxL n idx b fr' lo' : Nat} {ret' : Option FieldType} {As rest : List Value} {P' : Option Value → St → Prop}
    (hc : CalW y bytes maxL ret' n) (hm : Cond.instanceMethod y ∈ gT) (hs : Cond.selects y.cls y y ∈ gT) (hw : Cond.methodLink own idx y ∈ gT) (hcl : y.cls = "java/lang/String") (hR' : fr' + 1 ≤ fr ∧ 8 + (maxL + 11) + lo' ≤ lo)
    (hbb : b < 5) (hn : As.length = n) (hst : st = As.reverse ++ .ref (Γ.2.2.2.2.2.1 b) :: rest) (hrm : (rest.map fun v => v.category).sum ≤ 8) (hd : decode cc pc = .ok (.invokevirtual idx, 3))
    (hC : Cn Γ y bytes maxL ret' fr' lo' (.ref (Γ.2.2.2.2.2.1 b) :: As) S P') (kk : ∀ (v : Option Value) (S' : St), P' v S' → G Γ X S' (pc + 3) ls (v.toList ++ rest)) : G Γ X S pc ls st := by
  obtain ⟨p, l, e, R, s, m, args, below, meth, c, cells, slots, Q⟩ := X
  obtain ⟨hx, hb, hml, hown, hts, hr, hlk, hR, hK⟩ := hX
  intro H locs la hP hS hl
  have hg : GoodIn gT (wsV own idx y.cls y (Cond.code y bytes maxL ret' :: gT)) := by
    intro w h9
    unfold wsV at h9
    simp only [List.cons_append, List.nil_append, List.mem_cons] at h9
    rcases h9 with rfl | rfl | rfl | rfl | rfl | h9
    · exact gT_good _ hw
    · exact gT_good _ hm
    · exact gT_good _ hs
    · exact gT_good _ hc.2.1
    · exact gT_good _ hc.1
    · exact gT_good _ h9
  refine g_run (va_runV (As := As) (rest := rest) (b := Γ.2.2.2.2.2.1 b) (C := y.cls) ⟨hx, hb, rfl, hown, hts⟩ (hC l) (cwV n hts hg rfl rfl rfl ⟨rfl, hc.2.2⟩ ⟨Nat.le_trans hR'.1 hR.1, Nat.le_trans hR'.2 hR.2.1⟩) ⟨pre_blind, by rw [hcl]; exact vk_recv hK.2.2.2.2.2.1 hbb hS, fun U hU hW => ⟨rfl, by rw [hU]; exact hP, hK.step hW (locs := locs) (by rw [hU]; exact hS)⟩⟩ rfl hn hl.1 hst (lv_room hrm) hd ⟨hR.2.2.1, hR.2.2.2⟩) hS (fun v S' H1 locs1 hp hP1 hS1 => kk v S' hp H1 locs1 la hP1 hS1 hl)
theorem g_callS {Γ : GG} {X : XT} {S : St} {pc : Nat} {ls : List (Nat × Value)} {st : List Value} {own : String} {cc : ByteArray} {mL : Nat} {ret : Option FieldType} {fr lo : Nat} (hX : Cx Γ own cc mL ret fr lo X) {y : MethodName} {bytes : ByteArray} {maxL n idx fr' lo' : Nat} {ret' : Option FieldType} {As rest : List Value} {P' : Option Value → St → Prop}
    (hc : CalW y bytes maxL ret' n) (hm : Cond.static y ∈ gT) (hw : Cond.methodLink own idx y ∈ gT) (hR' : fr' + 1 ≤ fr ∧ 8 + (maxL + 11) + lo' ≤ lo)
    (hn : As.length = n) (hst : st = As.reverse ++ rest) (hrm : (rest.map fun v => v.category).sum ≤ 8) (hd : decode cc pc = .ok (.invokestatic idx, 3))
    (hC : Cn Γ y bytes maxL ret' fr' lo' As S P') (kk : ∀ (v : Option Value) (S' : St), P' v S' → G Γ X S' (pc + 3) ls (v.toList ++ rest)) : G Γ X S pc ls st := by
  obtain ⟨p, l, e, R, s, m, args, below, meth, c, cells, slots, Q⟩ := X
  obtain ⟨hx, hb, hml, hown, hts, hr, hlk, hR, hK⟩ := hX
  intro H locs la hP hS hl
  have hg : GoodIn gT (va_wsS own idx y (Cond.code y bytes maxL ret' :: gT)) := by
    intro w h9
    unfold va_wsS at h9
    simp only [List.cons_append, List.nil_append, List.mem_cons] at h9
    rcases h9 with rfl | rfl | rfl | rfl | h9
    · exact gT_good _ hw
    · exact gT_good _ hm
    · exact gT_good _ hc.2.1
    · exact gT_good _ hc.1
    · exact gT_good _ h9
  refine g_run (va_runS (As := As) (rest := rest) ⟨hx, hb, rfl, hown, hts⟩ (hC l) (va_cwS n hts hg rfl rfl rfl hc.2.2 ⟨Nat.le_trans hR'.1 hR.1, Nat.le_trans hR'.2 hR.2.1⟩) ⟨pre_blind, fun U hU hW => ⟨rfl, by rw [hU]; exact hP, hK.step hW (locs := locs) (by rw [hU]; exact hS)⟩⟩ rfl hn hl.1 hst (lv_room hrm) hd ⟨hR.2.2.1, hR.2.2.2⟩) hS (fun v S' H1 locs1 hp hP1 hS1 => kk v S' hp H1 locs1 la hP1 hS1 hl)
theorem g_callSN {Γ : GG} {X : XT} {S : St} {pc : Nat} {ls : List (Nat × Value)} {st : List Value} {own : String} {cc : ByteArray} {mL : Nat} {ret : Option FieldType} {fr lo : Nat} (hX : Cx Γ own cc mL ret fr lo X) {y : MethodName} {bytes : ByteArray} {maxL n idx fr' lo' : Nat} {ret' : Option FieldType} {As rest : List Value} {P' : Option Value → St → Prop} {host : String}
    (hc : CalW y bytes maxL ret' n) (hm : Cond.static y ∈ gT) (hw : (own, idx, y, host) ∈ nestL) (hR' : fr' + 1 ≤ fr ∧ 8 + (maxL + 11) + lo' ≤ lo)
    (hn : As.length = n) (hst : st = As.reverse ++ rest) (hrm : (rest.map fun v => v.category).sum ≤ 8) (hd : decode cc pc = .ok (.invokestatic idx, 3))
    (hC : Cn Γ y bytes maxL ret' fr' lo' As S P') (kk : ∀ (v : Option Value) (S' : St), P' v S' → G Γ X S' (pc + 3) ls (v.toList ++ rest)) : G Γ X S pc ls st := by
  obtain ⟨p, l, e, R, s, m, args, below, meth, c, cells, slots, Q⟩ := X
  obtain ⟨hx, hb, hml, hown, hts, hr, hlk, hR, hK⟩ := hX
  intro H locs la hP hS hl
  refine g_run (va_runSN (As := As) (rest := rest) ⟨hx, hb, rfl, hown, hts⟩ (hC l) ⟨va_cnB n hts (good_cons hc.1) rfl rfl rfl (hK.2.2.1 _ hw) (hts _ hc.2.1) hc.2.2 ⟨Nat.le_trans hR'.1 hR.1, Nat.le_trans hR'.2 hR.2.1⟩, hts _ hm, trivial⟩ ⟨pre_blind, fun U hU hW => ⟨rfl, by rw [hU]; exact hP, hK.step hW (locs := locs) (by rw [hU]; exact hS)⟩⟩ rfl hn hl.1 hst (lv_room hrm) hd ⟨hR.2.2.1, hR.2.2.2⟩) hS (fun v S' H1 locs1 hp hP1 hS1 => kk v S' hp H1 locs1 la hP1 hS1 hl)
/-- System.arraycopy of ints -/
theorem g_copy {Γ : GG} {X : XT} {S : St} {pc : Nat} {ls : List (Nat × Value)} {st : List Value} {own : String} {cc : ByteArray} {mL : Nat} {ret : Option FieldType} {fr lo : Nat} (hX : Cx Γ own cc mL ret fr lo X) {idx k0 k1 n0 n1 : Nat} {h0 h1 : List Nat} {sp dp n : Int32} (hw : Cond.methodLink own idx arraycopyName ∈ gT) (hnat : Cond.native arraycopyName ∈ gT) (hst : Cond.static arraycopyName ∈ gT) (hini : Cond.initialized "java/lang/System" ∈ gT)
    (hk0 : k0 < NC) (hk1 : k1 < NC) (hy0 : lay k0 = (0, n0, h0)) (hy1 : lay k1 = (0, n1, h1)) (q1 : ¬ sp < 0) (q2 : ¬ dp < 0) (q3 : ¬ n < 0) (q4 : sp.toNatClampNeg + n.toNatClampNeg ≤ n0) (q5 : dp.toNatClampNeg + n.toNatClampNeg ≤ n1)
    (hfr : 1 ≤ fr) (hlo : (st.map fun v => v.category).sum + (nativeFrameWords "java/lang/System" "arraycopy" 5 + 11) ≤ lo) (hd : decode cc pc = .ok (.invokestatic idx, 3))
    (k' : G Γ X (pR S k1 (va_cpy (S.1 k0) (S.1 k1) sp.toNatClampNeg dp.toNatClampNeg n.toNatClampNeg)) (pc + 3) ls st) : G Γ X S pc ls (.int n :: .int dp :: .ref (Γ.1 k1) :: .int sp :: .ref (Γ.1 k0) :: st) := by
  obtain ⟨p, l, e, R, s, m, args, below, meth, c, cells, slots, Q⟩ := X
  obtain ⟨hx, hb, hml, hown, hts, hr, hlk, hR, hK⟩ := hX
  intro H locs la hP hS hl
  have he0 : (world Γ S)[k0]? = some (Γ.1 k0, .inl (Γ.2.2.2.1 0, n0, .inl (S.1 k0))) := by rw [world_get Γ S hk0]; unfold ent; rw [hy0]; rfl
  have he1 : (world Γ S)[k1]? = some (Γ.1 k1, .inl (Γ.2.2.2.1 0, n1, .inl (S.1 k1))) := by rw [world_get Γ S hk1]; unfold ent; rw [hy1]; rfl
  refine va_copyi (D := dG Γ) hx hb hl.1.symm hown (hts _ hw) (hts _ hnat) (hts _ hst) (hts _ hini) hK.1 hP (world_D Γ S hK.2.1) hS k0 k1 0 0 he0 he1 (ty := .int) rfl rfl rfl q1 q2 q3 q4 q5 (fun i _ => rfl) (Nat.le_trans hfr hR.1) (Nat.le_trans hlo hR.2.1) hd (fun H1 locs1 hP1 _ hS1 => k' H1 locs1 la ?_ hS1 hl)
  rw [world_set Γ S (pR S k1 (va_cpy (S.1 k0) (S.1 k1) sp.toNatClampNeg dp.toNatClampNeg n.toNatClampNeg)) hk1 (by unfold ent; rw [hy1]; simp only [entK]; rw [pR_self]) (fun q hq => ent_pR Γ S k1 _ hq)] at hP1
  exact hP1
