theorem objI : Cond.instanceMethod Lib.objectInit ∈ gT := tw 84 (by decide +kernel) rfl
theorem objC : Cond.code Lib.objectInit ⟨#[0xb1]⟩ 1 none ∈ gT := tw 85 (by decide +kernel) rfl
theorem arrI : Cond.arrayClass (Op.newarray.typeOf .int) ∈ gT := tw 120 (by decide +kernel) rfl
theorem arrZ : Cond.arrayClass (Op.newarray.typeOf .boolean) ∈ gT := tw 174 (by decide +kernel) rfl
/-! the constructors: a world of cells that grows -/
def nestC : List (String × Nat × MethodName × String) := [(RX9, 17, yX6_init, RX9), (RX9, 30, yX8_init, RX9), (RX9, 37, yX5_init, RX9), (RX9, 44, yX4_init, RX9), (RX4, 11, yX3_init, RX9), (RX9, 51, yX1_init, RX9), (RX9, 58, yX2_init, RX9), (RX2, 11, yX6_init, RX9), (RX9, 65, yX0_init, RX9), (RX9, 95, yX7_init, RX9)]
abbrev tysC (cA : Nat → ClassId) : List (ClassId × FieldType) := [(cA 0, .int), (cA 1, .boolean), (cA 2, .object RX7), (cA 3, .array .int)]
/-- the class of rows of rows -/
def TwoD (cA : Nat → ClassId) (U : State) : Prop := ∃ k : Class, U.vm.classes[cA 3]? = some k ∧ k.kind = .array (cA 0) (.array .int)
theorem TwoD.moved {cA : Nat → ClassId} {u U : State} (hvm : u.vm.Alike U.vm) (h : TwoD cA u) : TwoD cA U := by
  obtain ⟨k, h1, h2⟩ := h
  obtain ⟨k', hk', he⟩ := hvm.2.2 _ _ h1
  exact ⟨k', hk', by rw [he]; exact h2⟩
def KnC (D : va_G) (cA : Nat → ClassId) (U : State) : Prop := va_K D classes (tysC cA) U ∧ (∀ q ∈ nestC, va_Nw (.methodLinkNest q.1 q.2.1 q.2.2.1 q.2.2.2) U) ∧ va_AO RX7 U ∧ TwoD cA U
theorem KnC.warm {D : va_G} {cA : Nat → ClassId} {s U : State} (h : KnC D cA s) (hW : s.WarmedH U.vm) : KnC D cA U := ⟨va_K.moved hW.alike h.1, fun q hq => va_Nw.warmM hW (h.2.1 q hq), va_AO.moved hW.alike h.2.2.1, h.2.2.2.moved hW.alike⟩
theorem KnC.calling {D : va_G} {cA : Nat → ClassId} {U : State} (h : KnC D cA U) (g : JFrame) (mk : MethodId) (a : Array Value) : KnC D cA (U.calling g mk a) :=
  ⟨va_K.moved (u := U) (U := U.calling g mk a) (Vm.Alike.refl U.vm) h.1, fun q hq => va_Nw.same rfl rfl (h.2.1 q hq), va_AO.moved (u := U) (U := U.calling g mk a) (Vm.Alike.refl U.vm) h.2.2.1, TwoD.moved (u := U) (U := U.calling g mk a) (Vm.Alike.refl U.vm) h.2.2.2⟩
def GC (D : va_G) (X : XT) (A : Nat → Prop) (ws : va_W) (ce sl pc : Nat) (ls : List (Nat × Value)) (st : List Value) : Prop := match X with
  | (p, l, e, R, s, m, args, below, meth, c, _, _, Q) => ∀ (H : Heap) (locs : List Loc) (la : Array Slot), va_P D classes ws H → va_D A ws → va_S A s.heap H locs → lv_has la c.maxLocals ls →
      W p l e R s m args below meth c H locs ce sl Q (F0 m pc la st)
def CxC (D : va_G) (cA : Nat → ClassId) (own : String) (cc : ByteArray) (mL fr lo mc ms : Nat) (A : Nat → Prop) (X : XT) : Prop := match X with
  | (p, _, _, R, s, m, args, _, meth, c, _, _, _) => p.tables.exec = Jvm.exec ∧ c.code = cc ∧ c.maxLocals = mL ∧ s.vm.findClass own = some m.cls ∧ (∀ w ∈ gT, w.before args s = true) ∧ meth.sig.returnType = none ∧ meth.locks = false ∧ (fr ≤ R.frames ∧ lo ≤ R.locals ∧ mc ≤ R.cells ∧ ms ≤ R.slots) ∧ meth.name = "<init>" ∧ KnC D cA s ∧ ∀ q, s.heap.size ≤ q → A q
def QC (D : va_G) (A : Nat → Prop) (w : (Nat → Nat) → va_W) : Array Value → State → Outcome → State → Prop := va_Qv (S := Nat → Nat) (fun _ => True) (fun ad t => va_P D classes (w ad) t.heap ∧ va_D A (w ad)) A
def EnC (D : va_G) (A : Nat → Prop) (w : (Nat → Nat) → va_W) (mc ms : Nat) (X : XT) : Prop := match X with
  | (_, _, _, _, s, _, args, below, _, _, _, _, Q) => Q = MQ below (QC D A w) args s mc ms A
/-- a constructor's contract: the object at a with fields fs0; behind it the cells post a ad -/
def Ci (D : va_G) (cA : Nat → ClassId) (y : MethodName) (cc : ByteArray) (mL fr lo mc ms ci : Nat) (fs0 : List Value) (post : Nat → (Nat → Nat) → va_W) : Prop :=
  ∀ (l : Launch) (a z : Nat), Met l y (Cond.code y cc mL none :: gT) { frames := fr, cells := mc, slots := ms, locals := lo } (va_Pc [.ref a] (fun U => U.heap.size = z ∧ va_P D classes [(a, .inr (ci, fs0))] U.heap ∧ KnC D cA U)) (QC D (va_A [(a, .inr (ci, fs0))] z) (post a)) mc ms (va_A [(a, .inr (ci, fs0))] z)
theorem one_D {A : Nat → Prop} {x : Nat × va_E} (h : A x.1) : va_D A [x] := by
  refine ⟨fun i j p q hi hj _ => ?_, fun k q hk => ?_⟩
  · have h1 := (List.getElem?_eq_some_iff.mp hi).1
    have h2 := (List.getElem?_eq_some_iff.mp hj).1
    simp only [List.length_singleton] at h1 h2
    omega
  · have h1 := (List.getElem?_eq_some_iff.mp hk).1
    simp only [List.length_singleton] at h1
    obtain rfl : k = 0 := by omega
    cases hk
    exact h
theorem Ci.of {D : va_G} {cA : Nat → ClassId} {y : MethodName} {cc : ByteArray} {mL fr lo mc ms ci : Nat} {fs0 : List Value} {post : Nat → (Nat → Nat) → va_W} (hy : plainName y.cls = true) (hyn : y.name = "<init>") (hm1 : 1 ≤ mL)
    (body : ∀ (X : XT) (A : Nat → Prop) (a : Nat), CxC D cA y.cls cc mL fr lo mc ms A X → EnC D A (post a) mc ms X → GC D X A [(a, .inr (ci, fs0))] 0 0 0 [(0, .ref a)] []) : Ci D cA y cc mL fr lo mc ms ci fs0 post := by
  intro l a z
  refine Met.ofW (cc := cc) (maxL := mL) (ret := none) hy rfl ?_
  intro p e s m args below meth c s₁ B hml hv
  obtain ⟨rfl, hsz, hP, hK⟩ := hv
  have hts := atoms_spec (ws := Cond.code y cc mL none :: gT) B.pre
  have hown : s.vm.findClass y.cls = some m.cls := findClass_of_methodNamed B.named
  have hin : meth.name = "<init>" := (name_of_methodNamed B.named B.method).1.trans hyn
  subst hsz
  have hl := lv_entry [Value.ref a] (n := mL) hm1
  rw [lg_entry_eq]
  generalize (lg_sl [Value.ref a] ++ List.replicate (mL - (lg_sl [Value.ref a]).length) Slot.unset).toArray = la at hl ⊢
  exact body (p, l, e, _, s, m, [Value.ref a].toArray, below, meth, c, 0, 0, _) (va_A [(a, .inr (ci, fs0))] s.heap.size) a ⟨B.exec, B.bytes, hml, hown, fun w hw => hts w (List.mem_cons_of_mem _ hw), B.returns, B.notSynchronized, ⟨Nat.le_refl _, Nat.le_refl _, Nat.le_refl _, Nat.le_refl _⟩, hin, hK, fun q h => Or.inr h⟩ rfl s.heap [] la hP (one_D (Or.inl ⟨0, _, rfl⟩)) va_S.rf (by rw [hml]; exact hl)
theorem q_iconst {D : va_G} {cA : Nat → ClassId} {X : XT} {A : Nat → Prop} {ws : va_W} {ce sl pc : Nat} {ls : List (Nat × Value)} {st : List Value} {own : String} {cc : ByteArray} {mL fr lo mc ms : Nat} (hX : CxC D cA own cc mL fr lo mc ms A X) {n : Int} {v : Int32} (hd : decode cc pc = .ok (.iconst n, 1)) (hv : Int32.ofInt n = v) (k : GC D X A ws ce sl (pc + 1) ls (.int v :: st)) : GC D X A ws ce sl pc ls (st) := by
  obtain ⟨p, l, e, R, s, m, args, below, meth, c, cells, slots, Q⟩ := X
  obtain ⟨hx, hb, hml, hown, hts, hr, hlk, hR, hin, hK, hA⟩ := hX
  intro H locs la hP hD hS hl
  exact lv_iconst hx hb hd hv (k H locs la hP hD hS hl)
theorem q_bipush {D : va_G} {cA : Nat → ClassId} {X : XT} {A : Nat → Prop} {ws : va_W} {ce sl pc : Nat} {ls : List (Nat × Value)} {st : List Value} {own : String} {cc : ByteArray} {mL fr lo mc ms : Nat} (hX : CxC D cA own cc mL fr lo mc ms A X) {n : Int} {v : Int32} (hd : decode cc pc = .ok (.bipush n, 2)) (hv : (Int8.ofInt n).toInt32 = v) (k : GC D X A ws ce sl (pc + 2) ls (.int v :: st)) : GC D X A ws ce sl pc ls (st) := by
  obtain ⟨p, l, e, R, s, m, args, below, meth, c, cells, slots, Q⟩ := X
  obtain ⟨hx, hb, hml, hown, hts, hr, hlk, hR, hin, hK, hA⟩ := hX
  intro H locs la hP hD hS hl
  exact lv_bipush hx hb hd hv (k H locs la hP hD hS hl)
theorem q_sipush {D : va_G} {cA : Nat → ClassId} {X : XT} {A : Nat → Prop} {ws : va_W} {ce sl pc : Nat} {ls : List (Nat × Value)} {st : List Value} {own : String} {cc : ByteArray} {mL fr lo mc ms : Nat} (hX : CxC D cA own cc mL fr lo mc ms A X) {n : Int} {v : Int32} (hd : decode cc pc = .ok (.sipush n, 3)) (hv : (Int16.ofInt n).toInt32 = v) (k : GC D X A ws ce sl (pc + 3) ls (.int v :: st)) : GC D X A ws ce sl pc ls (st) := by
  obtain ⟨p, l, e, R, s, m, args, below, meth, c, cells, slots, Q⟩ := X
  obtain ⟨hx, hb, hml, hown, hts, hr, hlk, hR, hin, hK, hA⟩ := hX
  intro H locs la hP hD hS hl
  exact lv_sipush hx hb hd hv (k H locs la hP hD hS hl)
theorem q_lconst {D : va_G} {cA : Nat → ClassId} {X : XT} {A : Nat → Prop} {ws : va_W} {ce sl pc : Nat} {ls : List (Nat × Value)} {st : List Value} {own : String} {cc : ByteArray} {mL fr lo mc ms : Nat} (hX : CxC D cA own cc mL fr lo mc ms A X) {n : Fin 2} {v : Int64} (hd : decode cc pc = .ok (.lconst n, 1)) (hv : Int64.ofNat (n : Nat) = v) (k : GC D X A ws ce sl (pc + 1) ls (.long v :: st)) : GC D X A ws ce sl pc ls (st) := by
  obtain ⟨p, l, e, R, s, m, args, below, meth, c, cells, slots, Q⟩ := X
  obtain ⟨hx, hb, hml, hown, hts, hr, hlk, hR, hin, hK, hA⟩ := hX
  intro H locs la hP hD hS hl
  exact lv_lconst hx hb hd hv (k H locs la hP hD hS hl)
theorem q_aload_n {D : va_G} {cA : Nat → ClassId} {X : XT} {A : Nat → Prop} {ws : va_W} {ce sl pc : Nat} {ls : List (Nat × Value)} {st : List Value} {own : String} {cc : ByteArray} {mL fr lo mc ms : Nat} (hX : CxC D cA own cc mL fr lo mc ms A X) {k0 : Fin 4} {i x : Nat} (hd : decode cc pc = .ok (.aload_n k0, 1)) (hi : (k0 : Nat) = i) (h : aget ls i = some (.ref x)) (k : GC D X A ws ce sl (pc + 1) ls (.ref x :: st)) : GC D X A ws ce sl pc ls (st) := by
  obtain ⟨p, l, e, R, s, m, args, below, meth, c, cells, slots, Q⟩ := X
  obtain ⟨hx, hb, hml, hown, hts, hr, hlk, hR, hin, hK, hA⟩ := hX
  intro H locs la hP hD hS hl
  exact lv_aload_n hx hb hd hi (hl.2.2 _ (aget_mem h)) (k H locs la hP hD hS hl)
theorem q_iload_n {D : va_G} {cA : Nat → ClassId} {X : XT} {A : Nat → Prop} {ws : va_W} {ce sl pc : Nat} {ls : List (Nat × Value)} {st : List Value} {own : String} {cc : ByteArray} {mL fr lo mc ms : Nat} (hX : CxC D cA own cc mL fr lo mc ms A X) {k0 : Fin 4} {i : Nat} {x : Int32} (hd : decode cc pc = .ok (.iload_n k0, 1)) (hi : (k0 : Nat) = i) (h : aget ls i = some (.int x)) (k : GC D X A ws ce sl (pc + 1) ls (.int x :: st)) : GC D X A ws ce sl pc ls (st) := by
  obtain ⟨p, l, e, R, s, m, args, below, meth, c, cells, slots, Q⟩ := X
  obtain ⟨hx, hb, hml, hown, hts, hr, hlk, hR, hin, hK, hA⟩ := hX
  intro H locs la hP hD hS hl
  exact lv_iload_n hx hb hd hi (hl.2.2 _ (aget_mem h)) (k H locs la hP hD hS hl)
theorem q_dup {D : va_G} {cA : Nat → ClassId} {X : XT} {A : Nat → Prop} {ws : va_W} {ce sl pc : Nat} {ls : List (Nat × Value)} {st : List Value} {own : String} {cc : ByteArray} {mL fr lo mc ms : Nat} (hX : CxC D cA own cc mL fr lo mc ms A X) {va : Value} (hd : decode cc pc = .ok (.dup, 1)) (hva : va.category = 1) (k : GC D X A ws ce sl (pc + 1) ls (va :: va :: st)) : GC D X A ws ce sl pc ls (va :: st) := by
  obtain ⟨p, l, e, R, s, m, args, below, meth, c, cells, slots, Q⟩ := X
  obtain ⟨hx, hb, hml, hown, hts, hr, hlk, hR, hin, hK, hA⟩ := hX
  intro H locs la hP hD hS hl
  exact lv_dup hx hb hd hva (k H locs la hP hD hS hl)
theorem q_istore_n {D : va_G} {cA : Nat → ClassId} {X : XT} {A : Nat → Prop} {ws : va_W} {ce sl pc : Nat} {ls : List (Nat × Value)} {st : List Value} {own : String} {cc : ByteArray} {mL fr lo mc ms : Nat} (hX : CxC D cA own cc mL fr lo mc ms A X) {k0 : Fin 4} {i : Nat} {x : Int32} (hd : decode cc pc = .ok (.istore_n k0, 1)) (hi : (k0 : Nat) = i) (hn : i < mL) (hj : noL i ls = true) (k' : GC D X A ws ce sl (pc + 1) (aset i (.int x) ls) st) : GC D X A ws ce sl pc ls (.int x :: st) := by
  obtain ⟨p, l, e, R, s, m, args, below, meth, c, cells, slots, Q⟩ := X
  obtain ⟨hx, hb, hml, hown, hts, hr, hlk, hR, hin, hK, hA⟩ := hX
  intro H locs la hP hD hS hl
  exact lv_istore_n hx hb hd hi hl (by rw [hml]; exact hn) rfl (fun la' hl' => k' H locs la' hP hD hS (has_aset hj hl'))
theorem q_iinc {D : va_G} {cA : Nat → ClassId} {X : XT} {A : Nat → Prop} {ws : va_W} {ce sl pc : Nat} {ls : List (Nat × Value)} {st : List Value} {own : String} {cc : ByteArray} {mL fr lo mc ms : Nat} (hX : CxC D cA own cc mL fr lo mc ms A X) {i : Nat} {n : Int} {x d : Int32} (hd : decode cc pc = .ok (.iinc i n, 3)) (h : aget ls i = some (.int x)) (hv : Int32.ofInt n = d) (hn : i < mL) (hj : noL i ls = true) (k' : GC D X A ws ce sl (pc + 3) (aset i (.int (x + d)) ls) st) : GC D X A ws ce sl pc ls st := by
  obtain ⟨p, l, e, R, s, m, args, below, meth, c, cells, slots, Q⟩ := X
  obtain ⟨hx, hb, hml, hown, hts, hr, hlk, hR, hin, hK, hA⟩ := hX
  intro H locs la hP hD hS hl
  obtain ⟨q, hq⟩ := List.getElem?_of_mem (aget_mem h)
  exact lv_iinc hx hb hd hl hq (by rw [hv]) (by rw [hml]; exact hn) rfl (fun la' hl' => k' H locs la' hP hD hS (has_aset hj hl'))
theorem q_goto {D : va_G} {cA : Nat → ClassId} {X : XT} {A : Nat → Prop} {ws : va_W} {ce sl pc : Nat} {ls : List (Nat × Value)} {st : List Value} {own : String} {cc : ByteArray} {mL fr lo mc ms : Nat} (hX : CxC D cA own cc mL fr lo mc ms A X) {off : Int} {tgt : Nat} (hd : decode cc pc = .ok (.goto off, 3)) (ht : (pc : Int) + off = (tgt : Int)) (k : GC D X A ws ce sl tgt ls st) : GC D X A ws ce sl pc ls st := by
  obtain ⟨p, l, e, R, s, m, args, below, meth, c, cells, slots, Q⟩ := X
  obtain ⟨hx, hb, hml, hown, hts, hr, hlk, hR, hin, hK, hA⟩ := hX
  intro H locs la hP hD hS hl
  exact lv_goto hx hb hd ht (k H locs la hP hD hS hl)
theorem q_ge_t {D : va_G} {cA : Nat → ClassId} {X : XT} {A : Nat → Prop} {ws : va_W} {ce sl pc : Nat} {ls : List (Nat × Value)} {st : List Value} {own : String} {cc : ByteArray} {mL fr lo mc ms : Nat} (hX : CxC D cA own cc mL fr lo mc ms A X) {x y : Int32} {off : Int} {tgt : Nat} (hd : decode cc pc = .ok (.if_icmp .ge off, 3)) (ht : (pc : Int) + off = (tgt : Int)) (h : y ≤ x) (k : GC D X A ws ce sl tgt ls st) : GC D X A ws ce sl pc ls (.int y :: .int x :: st) := by
  obtain ⟨p, l, e, R, s, m, args, below, meth, c, cells, slots, Q⟩ := X
  obtain ⟨hx, hb, hml, hown, hts, hr, hlk, hR, hin, hK, hA⟩ := hX
  intro H locs la hP hD hS hl
  exact lv_icmp_ge hx hb hd ht (fun _ => (k H locs la hP hD hS hl)) (fun h9 => absurd h h9)
theorem q_ge_f {D : va_G} {cA : Nat → ClassId} {X : XT} {A : Nat → Prop} {ws : va_W} {ce sl pc : Nat} {ls : List (Nat × Value)} {st : List Value} {own : String} {cc : ByteArray} {mL fr lo mc ms : Nat} (hX : CxC D cA own cc mL fr lo mc ms A X) {x y : Int32} {off : Int} {tgt : Nat} (hd : decode cc pc = .ok (.if_icmp .ge off, 3)) (ht : (pc : Int) + off = (tgt : Int)) (h : ¬ y ≤ x) (k : GC D X A ws ce sl (pc + 3) ls st) : GC D X A ws ce sl pc ls (.int y :: .int x :: st) := by
  obtain ⟨p, l, e, R, s, m, args, below, meth, c, cells, slots, Q⟩ := X
  obtain ⟨hx, hb, hml, hown, hts, hr, hlk, hR, hin, hK, hA⟩ := hX
  intro H locs la hP hD hS hl
  exact lv_icmp_ge hx hb hd ht (fun h9 => absurd h9 h) (fun _ => (k H locs la hP hD hS hl))
theorem q_obj {D : va_G} {cA : Nat → ClassId} {X : XT} {A : Nat → Prop} {ws : va_W} {ce sl pc : Nat} {ls : List (Nat × Value)} {st : List Value} {own : String} {cc : ByteArray} {mL fr lo mc ms : Nat} (hX : CxC D cA own cc mL fr lo mc ms A X) {a idx : Nat} (hw : Cond.methodLink own idx Lib.objectInit ∈ gT) (h1 : 1 ≤ fr) (h2 : 20 ≤ lo) (hst : (st.map fun v => v.category).sum ≤ 8) (hd : decode cc pc = .ok (.invokespecial idx, 3)) (k : GC D X A ws ce sl (pc + 3) ls st) : GC D X A ws ce sl pc ls (.ref a :: st) := by
  obtain ⟨p, l, e, R, s, m, args, below, meth, c, cells, slots, Q⟩ := X
  obtain ⟨hx, hb, hml, hown, hts, hr, hlk, hR, hin, hK, hA⟩ := hX
  intro H locs la hP hD hS hl
  exact W.objInit hx hb hown (hts _ hw) (hts _ objI) (hts _ objC) rfl (hl.1.trans rfl) rfl hd (Nat.le_trans h1 hR.1) (by have := hR.2.1; show 2 * 0 + (st.map fun v => v.category).sum + 12 ≤ R.locals; omega) (k H locs la hP hD hS hl)
/-- a new array of ints, of booleans -/
theorem q_newI {D : va_G} {cA : Nat → ClassId} {X : XT} {A : Nat → Prop} {ws : va_W} {ce sl pc : Nat} {ls : List (Nat × Value)} {st : List Value} {own : String} {cc : ByteArray} {mL fr lo mc ms : Nat} (hX : CxC D cA own cc mL fr lo mc ms A X) {n : Int32} {N : Nat} (hn : ¬ n < 0) (hN : n.toNatClampNeg = N) (hb2 : N * 4 ≤ 536870912) (hc : ce + 1 ≤ mc) (hs : sl + N ≤ ms) (hd : decode cc pc = .ok (.newarray .int, 2)) (k : ∀ q : Nat, GC D X A (ws ++ [(q, .inl (cA 0, N, .inl (fun _ => 0)))]) (ce + 1) (sl + N) (pc + 2) ls (.ref q :: st)) : GC D X A ws ce sl pc ls (.int n :: st) := by
  obtain ⟨p, l, e, R, s, m, args, below, meth, c, cells, slots, Q⟩ := X
  obtain ⟨hx, hb, hml, hown, hts, hr, hlk, hR, hin, hK, hA⟩ := hX
  intro H locs la hP hD hS hl
  refine va_newa (ty := .int) (a0 := (N, .inl (fun _ => 0))) hx hb (hts _ arrI) rfl hK.1 hP hD hS hA (fun cB => vp_cell_i cB N (fun _ => 0)) hn hN hb2 (Nat.le_trans hc hR.2.2.1) (Nat.le_trans hs hR.2.2.2) hd (fun q cB H1 hK1 hP1 hD1 hS1 => ?_)
  have e1 : s.vm.findClass ("[" ++ FieldType.int.toString) = some cB := (hK1.2 4 _ rfl).2
  have e2 : s.vm.findClass ("[" ++ FieldType.int.toString) = some (cA 0) := (hK.1.2 0 _ rfl).2
  obtain rfl : cB = cA 0 := Option.some.inj (e1.symm.trans e2)
  exact k q H1 locs la hP1 hD1 hS1 hl
theorem q_newZ {D : va_G} {cA : Nat → ClassId} {X : XT} {A : Nat → Prop} {ws : va_W} {ce sl pc : Nat} {ls : List (Nat × Value)} {st : List Value} {own : String} {cc : ByteArray} {mL fr lo mc ms : Nat} (hX : CxC D cA own cc mL fr lo mc ms A X) {n : Int32} {N : Nat} (hn : ¬ n < 0) (hN : n.toNatClampNeg = N) (hb2 : N * 1 ≤ 536870912) (hc : ce + 1 ≤ mc) (hs : sl + N ≤ ms) (hd : decode cc pc = .ok (.newarray .boolean, 2)) (k : ∀ q : Nat, GC D X A (ws ++ [(q, .inl (cA 1, N, .inl (fun _ => 0)))]) (ce + 1) (sl + N) (pc + 2) ls (.ref q :: st)) : GC D X A ws ce sl pc ls (.int n :: st) := by
  obtain ⟨p, l, e, R, s, m, args, below, meth, c, cells, slots, Q⟩ := X
  obtain ⟨hx, hb, hml, hown, hts, hr, hlk, hR, hin, hK, hA⟩ := hX
  intro H locs la hP hD hS hl
  refine va_newa (ty := .boolean) (a0 := (N, .inl (fun _ => 0))) hx hb (hts _ arrZ) rfl hK.1 hP hD hS hA (fun cB => vp_cell_i cB N (fun _ => 0)) hn hN hb2 (Nat.le_trans hc hR.2.2.1) (Nat.le_trans hs hR.2.2.2) hd (fun q cB H1 hK1 hP1 hD1 hS1 => ?_)
  have e1 : s.vm.findClass ("[" ++ FieldType.boolean.toString) = some cB := (hK1.2 4 _ rfl).2
  have e2 : s.vm.findClass ("[" ++ FieldType.boolean.toString) = some (cA 1) := (hK.1.2 1 _ rfl).2
  obtain rfl : cB = cA 1 := Option.some.inj (e1.symm.trans e2)
  exact k q H1 locs la hP1 hD1 hS1 hl
/-- a new array of sheets -/
theorem q_newQ {D : va_G} {cA : Nat → ClassId} {X : XT} {A : Nat → Prop} {ws : va_W} {ce sl pc : Nat} {ls : List (Nat × Value)} {st : List Value} {own : String} {cc : ByteArray} {mL fr lo mc ms : Nat} (hX : CxC D cA own cc mL fr lo mc ms A X) {n : Int32} {N idx : Nat} (hw : Cond.classLink own idx RX7 ∈ gT) (hn : ¬ n < 0) (hN : n.toNatClampNeg = N) (hb2 : N * 4 ≤ 536870912) (hc : ce + 1 ≤ mc) (hs : sl + N ≤ ms) (hd : decode cc pc = .ok (.anewarray idx, 3)) (k : ∀ q : Nat, GC D X A (ws ++ [(q, .inl (cA 2, N, .inr (.inr (.inr (.inr (fun _ => none))))))]) (ce + 1) (sl + N) (pc + 3) ls (.ref q :: st)) : GC D X A ws ce sl pc ls (.int n :: st) := by
  obtain ⟨p, l, e, R, s, m, args, below, meth, c, cells, slots, Q⟩ := X
  obtain ⟨hx, hb, hml, hown, hts, hr, hlk, hR, hin, hK, hA⟩ := hX
  intro H locs la hP hD hS hl
  refine va_newq hx hb hown (hts _ hw) hK.2.2.1 hK.1 hP hD hS hA hn hN hb2 (Nat.le_trans hc hR.2.2.1) (Nat.le_trans hs hR.2.2.2) hd (fun q cB H1 hK1 hP1 hD1 hS1 => ?_)
  obtain ⟨_, _, _, _, _, e1⟩ := (hK1.2 4 _ rfl).2
  obtain ⟨_, _, _, _, _, e2⟩ := (hK.1.2 2 _ rfl).2
  obtain rfl : cB = cA 2 := Option.some.inj (e1.symm.trans e2)
  exact k q H1 locs la hP1 hD1 hS1 hl
/-- the object's own fields -/
theorem q_put {D : va_G} {cA : Nat → ClassId} {X : XT} {A : Nat → Prop} {ws : va_W} {ce sl pc : Nat} {ls : List (Nat × Value)} {st : List Value} {own : String} {cc : ByteArray} {mL fr lo mc ms : Nat} (hX : CxC D cA own cc mL fr lo mc ms A X) {rs : va_W} {a ci k idx : Nat} {C : String} {T : u_T} {N : Nat} {fs fs' : List Value} {ty0 : Nat → FieldType} {ty : FieldType} {v : Value} (hws : ws = (a, .inr (ci, fs)) :: rs) (hc : classes[ci]? = some (C, T, N)) (hj : k < N) (hi : ∀ w ∈ u_ws C T N, w ∈ gT) (hty : ∀ k, k < N → parseFieldDescriptor (T k).2.2.1 = some (ty0 k)) (hnm : ∀ a, a < N → ∀ b, b < N → a ≠ b → (T a).2.1 ≠ (T b).2.1) (hT : (T k).1 = C) (hfin : (T k).2.2.2 = false) (hw : Cond.fieldLink own idx C (T k).2.1 (T k).2.2.1 ∈ gT) (hty1 : parseFieldDescriptor (T k).2.2.1 = some ty) (hn : narrow ty v = v) (hf : fits ty v = true) (hl2 : k < fs.length) (hfs : fs.set k v = fs') (hd : decode cc pc = .ok (.putfield idx, 3)) (k' : GC D X A ((a, .inr (ci, fs')) :: rs) ce sl (pc + 3) ls st) : GC D X A ws ce sl pc ls (v :: .ref a :: st) := by
  subst hws
  subst hfs
  obtain ⟨p, l, e, R, s, m, args, below, meth, c, cells, slots, Q⟩ := X
  obtain ⟨hx, hb, hml, hown, hts, hr, hlk, hR, hin, hK, hA⟩ := hX
  intro H locs la hP hD hS hl
  exact va_put (D := D) (T := T) (N := N) (C := C) hx hb hts hi ty0 hty hnm hown hK.1 hP hD hS 0 rfl hc k hj (hts _ hw) (fun z h9 => by rw [hT] at h9; exact h9) hfin hty1 hn hf hl2 hd (fun H1 locs1 hP1 hD1 hS1 => k' H1 locs1 la hP1 hD1 hS1 hl)
theorem q_putF {D : va_G} {cA : Nat → ClassId} {X : XT} {A : Nat → Prop} {ws : va_W} {ce sl pc : Nat} {ls : List (Nat × Value)} {st : List Value} {own : String} {cc : ByteArray} {mL fr lo mc ms : Nat} (hX : CxC D cA own cc mL fr lo mc ms A X) {rs : va_W} {a ci k idx : Nat} {C : String} {T : u_T} {N : Nat} {fs fs' : List Value} {ty0 : Nat → FieldType} {ty : FieldType} {v : Value} (hws : ws = (a, .inr (ci, fs)) :: rs) (hc : classes[ci]? = some (C, T, N)) (hj : k < N) (hi : ∀ w ∈ u_ws C T N, w ∈ gT) (hty : ∀ k, k < N → parseFieldDescriptor (T k).2.2.1 = some (ty0 k)) (hnm : ∀ a, a < N → ∀ b, b < N → a ≠ b → (T a).2.1 ≠ (T b).2.1) (hT : (T k).1 = C) (hfin : (T k).2.2.2 = true) (ho : C = own) (hw : Cond.fieldLink own idx C (T k).2.1 (T k).2.2.1 ∈ gT) (hty1 : parseFieldDescriptor (T k).2.2.1 = some ty) (hn : narrow ty v = v) (hf : fits ty v = true) (hl2 : k < fs.length) (hfs : fs.set k v = fs') (hd : decode cc pc = .ok (.putfield idx, 3)) (k' : GC D X A ((a, .inr (ci, fs')) :: rs) ce sl (pc + 3) ls st) : GC D X A ws ce sl pc ls (v :: .ref a :: st) := by
  subst hws
  subst hfs
  obtain ⟨p, l, e, R, s, m, args, below, meth, c, cells, slots, Q⟩ := X
  obtain ⟨hx, hb, hml, hown, hts, hr, hlk, hR, hin, hK, hA⟩ := hX
  intro H locs la hP hD hS hl
  exact va_putF (D := D) (T := T) (N := N) (C := C) hx hb hts hi ty0 hty hnm hown hK.1 hP hD hS 0 rfl hc k hj (hts _ hw) (fun z h9 => by rw [hT] at h9; exact h9) hfin hin (hT.trans ho) hty1 hn hf hl2 hd (fun H1 locs1 hP1 hD1 hS1 => k' H1 locs1 la hP1 hD1 hS1 hl)
theorem q_get {D : va_G} {cA : Nat → ClassId} {X : XT} {A : Nat → Prop} {ws : va_W} {ce sl pc : Nat} {ls : List (Nat × Value)} {st : List Value} {own : String} {cc : ByteArray} {mL fr lo mc ms : Nat} (hX : CxC D cA own cc mL fr lo mc ms A X) {rs : va_W} {a ci k idx : Nat} {C : String} {T : u_T} {N : Nat} {fs : List Value} {v : Value} (hws : ws = (a, .inr (ci, fs)) :: rs) (hc : classes[ci]? = some (C, T, N)) (hj : k < N) (hi : ∀ w ∈ u_ws C T N, w ∈ gT) (hT : (T k).1 = C) (hw : Cond.fieldLink own idx C (T k).2.1 (T k).2.2.1 ∈ gT) (hv : fs[k]? = some v) (hd : decode cc pc = .ok (.getfield idx, 3)) (k' : GC D X A ws ce sl (pc + 3) ls (v :: st)) : GC D X A ws ce sl pc ls (.ref a :: st) := by
  subst hws
  obtain ⟨p, l, e, R, s, m, args, below, meth, c, cells, slots, Q⟩ := X
  obtain ⟨hx, hb, hml, hown, hts, hr, hlk, hR, hin, hK, hA⟩ := hX
  intro H locs la hP hD hS hl
  exact va_get (D := D) (T := T) (N := N) (C := C) hx hb hts hi hown hK.1 hP 0 rfl hc k hj (hts _ hw) (fun z h9 => by rw [hT] at h9; exact h9) (v := v) hv hd (k' H locs la hP hD hS hl)
/-- an int into an array of the world -/
theorem q_iast {D : va_G} {cA : Nat → ClassId} {X : XT} {A : Nat → Prop} {ws : va_W} {ce sl pc : Nat} {ls : List (Nat × Value)} {st : List Value} {own : String} {cc : ByteArray} {mL fr lo mc ms : Nat} (hX : CxC D cA own cc mL fr lo mc ms A X) {a q0 n : Nat} {f : Nat → Int32} {i x : Int32} {ws' : va_W} (he : ws[q0]? = some (a, .inl (cA 0, n, .inl f))) (hi : vp_in i n) (hws : ws.set q0 (a, .inl (cA 0, n, .inl (upd f i.toNatClampNeg x))) = ws') (hd : decode cc pc = .ok (.iastore, 1)) (k' : GC D X A ws' ce sl (pc + 1) ls st) : GC D X A ws ce sl pc ls (.int x :: .int i :: .ref a :: st) := by
  subst hws
  obtain ⟨p, l, e, R, s, m, args, below, meth, c, cells, slots, Q⟩ := X
  obtain ⟨hx, hb, hml, hown, hts, hr, hlk, hR, hin, hK, hA⟩ := hX
  intro H locs la hP hD hS hl
  exact va_iast (D := D) hx hb hK.1 hP hD hS q0 0 he rfl hi hd (fun H1 locs1 hP1 hD1 hS1 => k' H1 locs1 la hP1 hD1 hS1 hl)
/-- a sheet into the row of sheets -/
theorem q_aast {D : va_G} {cA : Nat → ClassId} {X : XT} {A : Nat → Prop} {ws : va_W} {ce sl pc : Nat} {ls : List (Nat × Value)} {st : List Value} {own : String} {cc : ByteArray} {mL fr lo mc ms : Nat} (hX : CxC D cA own cc mL fr lo mc ms A X) {a q0 qk n v : Nat} {vs : List Value} {f : Nat → Option Nat} {i : Int32} {ws' : va_W} (he : ws[q0]? = some (a, .inl (cA 2, n, .inr (.inr (.inr (.inr f)))))) (hv : ws[qk]? = some (v, .inr (7, vs))) (hi : vp_in i n) (hws : ws.set q0 (a, .inl (cA 2, n, .inr (.inr (.inr (.inr (va_up f i.toNatClampNeg (some v))))))) = ws') (hd : decode cc pc = .ok (.aastore, 1)) (k' : GC D X A ws' ce sl (pc + 1) ls st) : GC D X A ws ce sl pc ls (.ref v :: .int i :: .ref a :: st) := by
  subst hws
  obtain ⟨p, l, e, R, s, m, args, below, meth, c, cells, slots, Q⟩ := X
  obtain ⟨hx, hb, hml, hown, hts, hr, hlk, hR, hin, hK, hA⟩ := hX
  intro H locs la hP hD hS hl
  exact va_astq (D := D) (r := (RX7, TX7, 4)) hx hb hK.1 hP hD hS q0 2 qk 7 he rfl hv rfl hi hd (fun H1 locs1 hP1 hD1 hS1 => k' H1 locs1 la hP1 hD1 hS1 hl)
theorem q_eq {D : va_G} {X : XT} {A : Nat → Prop} {ws ws' : va_W} {ce sl ce' sl' pc : Nat} {ls : List (Nat × Value)} {st : List Value} (h : GC D X A ws' ce' sl' pc ls st) (hw : ws = ws' := by rfl) (h1 : ce = ce' := by rfl) (h2 : sl = sl' := by rfl) : GC D X A ws ce sl pc ls st := by
  subst hw; subst h1; subst h2; exact h
/-- the end -/
theorem q_ret {D : va_G} {cA : Nat → ClassId} {X : XT} {A : Nat → Prop} {ws : va_W} {ce sl pc : Nat} {ls : List (Nat × Value)} {st : List Value} {own : String} {cc : ByteArray} {mL fr lo mc ms : Nat} (hX : CxC D cA own cc mL fr lo mc ms A X) {w : (Nat → Nat) → va_W} (hE : EnC D A w mc ms X) (ad : Nat → Nat) (is : List Nat) (hs : is.filterMap (fun i => ws[i]?) = w ad) (hn : va_nd is = true) (hs2 : is.map (fun i => ws[i]?) = (w ad).map some) (hc : ce ≤ mc) (hs3 : sl ≤ ms) (hd : decode cc pc = .ok (.return_, 1)) : GC D X A ws ce sl pc ls [] := by
  obtain ⟨p, l, e, R, s, m, args, below, meth, c, cells, slots, Q⟩ := X
  obtain ⟨hx, hb, hml, hown, hts, hr, hlk, hR, hin, hK, hA⟩ := hX
  intro H locs la hP hD hS hl
  cases hE
  refine W.widen hc hs3 ?_
  exact W.vret hx hb hr (fun t ht hW => ⟨⟨ad, rfl, trivial, by rw [ht]; exact hP.sub is hs, hD.sub is hn hs2⟩, hS.F ht⟩) hS.2.2 hd hlk
theorem rng_map {w : va_W} {x : Nat × va_E} : (List.range w.length).map (fun i => (w ++ [x])[i]?) = w.map some := by
  apply List.ext_getElem?
  intro i
  rw [List.getElem?_map, List.getElem?_map]
  by_cases h : i < w.length
  · rw [List.getElem?_range h, Option.map_some, List.getElem?_append_left h, List.getElem?_eq_getElem h]; rfl
  · rw [List.getElem?_eq_none (by rw [List.length_range]; omega), List.getElem?_eq_none (by omega)]; rfl
theorem last_get {w : va_W} {x : Nat × va_E} : (w ++ [x])[w.length]? = some x := by
  rw [List.getElem?_append_right (Nat.le_refl _), Nat.sub_self]; rfl
theorem nd_range : ∀ n k, va_nd ((List.range' k n)) = true := by
  intro n
  induction n with
  | zero => intro k; rfl
  | succ n ih =>
    intro k
    rw [List.range'_succ]
    simp [va_nd, ih (k + 1), List.mem_range'_1]
theorem mk_join {A0 : Nat → Prop} {D : va_G} {w w1 : va_W} {x : Nat × va_E} {H H1 : Heap} (hP : va_P D classes (w ++ [x]) H) (hD : va_D A0 (w ++ [x])) (hk : ∀ q : Nat, q < H.size → ¬ va_A [x] H.size q → H1[q]? = H[q]?) (hF : ∀ q, va_A [x] H.size q → A0 q) (hP1 : va_P D classes w1 H1) (hD1 : va_D (va_A [x] H.size) w1) : va_P D classes (w ++ w1) H1 ∧ va_D A0 (w ++ w1) :=
  va_join (wc := [x]) (wr := w) hP hD [w.length] (List.range w.length) (by rw [List.map_cons, last_get]; rfl) rng_map (by rw [List.range_eq_range']; exact nd_range _ _) (fun i hi hj => by
    rw [List.mem_singleton] at hj
    have := List.mem_range.mp hi
    omega) hk hF hP1 hD1
/-- a new object of a class with its constructor -/
theorem q_make {D : va_G} {cA : Nat → ClassId} {X : XT} {A : Nat → Prop} {ws : va_W} {ce sl pc : Nat} {ls : List (Nat × Value)} {st : List Value} {own : String} {cc : ByteArray} {mL fr lo mc ms : Nat} (hX : CxC D cA own cc mL fr lo mc ms A X) {y : MethodName} {bytes : ByteArray} {C : String} {T : u_T} {N ci idx idx2 fr' lo' mc' ms' : Nat} {fs0 : List Value} {post : Nat → (Nat → Nat) → va_W} {ty0 : Nat → FieldType}
    (hC : Ci D cA y bytes 1 fr' lo' mc' ms' ci fs0 post) (hyc : y.cls = C) (hyn : y.name = "<init>") (hc : classes[ci]? = some (C, T, N)) (hi : ∀ w ∈ u_ws C T N, w ∈ gT) (hty : ∀ k, k < N → parseFieldDescriptor (T k).2.2.1 = some (ty0 k)) (hfs : ∀ j, j < N → defaultValue (ty0 j) = vp_V fs0 j)
    (hcl : Cond.classLink own idx C ∈ gT) (hinst : Cond.instantiable C N ∈ gT) (hcw : CalW y bytes 1 none 0) (hm : Cond.instanceMethod y ∈ gT) (hw : (own, idx2, y, RX9) ∈ nestC) (hR' : fr' + 1 ≤ fr ∧ 8 + (1 + 11) + lo' ≤ lo) (hrm : (st.map fun v => v.category).sum + 1 ≤ 8) (hc1 : ce + 1 + mc' ≤ mc) (hs1 : sl + N + ms' ≤ ms)
    (hd1 : decode cc pc = .ok (.new idx, 3)) (hd2 : decode cc (pc + 3) = .ok (.dup, 1)) (hd3 : decode cc (pc + 3 + 1) = .ok (.invokespecial idx2, 3)) (k : ∀ (b : Nat) (ad : Nat → Nat), GC D X A (ws ++ post b ad) (ce + 1 + mc') (sl + N + ms') (pc + 7) ls (.ref b :: st)) : GC D X A ws ce sl pc ls st := by
  subst hyc
  obtain ⟨p, l, e, R, s, m, args, below, meth, c, cells, slots, Q⟩ := X
  obtain ⟨hx, hb, hml, hown, hts, hr, hlk, hR, hin, hK, hA⟩ := hX
  intro H locs la hP hD hS hl
  refine va_new (D := D) (ci := ci) (fs := fs0) (C := y.cls) (T := T) (N := N) hx hb hts hi ty0 hty hown (hts _ hcl) (hts _ hinst) (hts _ hcw.2.1) hK.1 hP hD hS hA hc hfs (by have := hR.2.2.1; omega) (by have := hR.2.2.2; omega) hd1 (fun b H1 hP1 hD1 hS1 => ?_)
  refine lv_dup hx hb hd2 rfl ?_
  have hPc := hP1.sub (ws' := [(b, .inr (ci, fs0))]) [ws.length] (by rw [List.filterMap_cons, last_get]; rfl)
  have hFc := va_free (wc := [(b, .inr (ci, fs0))]) hD1 hS1 hA [ws.length] (by rw [List.map_cons, last_get]; rfl)
  refine va_callv (va_runIN (As := []) (rest := .ref b :: st) (host := RX9) ⟨hx, hb, rfl, hown, hts⟩ (hC l b H1.size) ⟨va_cnB 0 hts (good_cons hcw.1) rfl rfl rfl (hK.2.1 _ hw) (hts _ hcw.2.1) hcw.2.2 ⟨Nat.le_trans hR'.1 hR.1, Nat.le_trans hR'.2 hR.2.1⟩, hyn, hts _ hm⟩ ⟨fun a U g mk q => by obtain ⟨q0, q1, qP, qK⟩ := q; exact ⟨q0, q1, qP, qK.calling g mk a⟩, fun U hU hW => ⟨rfl, by rw [hU], by rw [hU]; exact hPc, hK.warm hW⟩⟩ rfl rfl hl.1 rfl (lv_room (by show 1 + (st.map fun v => v.category).sum ≤ 8; omega)) hd3 ⟨by have := hR.2.2.1; omega, by have := hR.2.2.2; omega⟩) hS1 (fun q _ h => hFc q h) hFc (fun ad t H2 locs2 ht hvm _ hB hz hk2 hS2 => ?_)
  obtain ⟨hP2, hD2⟩ := hB
  rw [ht] at hP2
  obtain ⟨hP3, hD3⟩ := mk_join hP1 hD1 hk2 hFc hP2 hD2
  exact k b ad H2 locs2 la hP3 hD3 hS2 hl
