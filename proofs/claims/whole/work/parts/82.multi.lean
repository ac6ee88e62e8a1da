/-! a row of rows made at once -/
theorem m_one {E : CtlPost} {e : Env} {d : Bool} {acts : List Action} {s : State} {k co : ClassId} {kc : Class} (h1 : s.vm.classes[k]? = some kc) (h2 : kc.kind = .array co .int) (hl : ¬ 11 > e.platform.arrayLengthLimit) (hh : ¬ 11 * componentBytes .int > e.platform.maxHeapBytes) {Q : Addr → Pre}
    (g1 : s.heap.size < e.platform.maxCells) (g2 : s.slotsUsed + 11 ≤ e.platform.maxSlots) (hq : ∀ acts', Q s.heap.size d acts' (s.pushCell { cls := k, slots := Array.replicate 11 (.int 0), vm := .none })) : wp (multianewarray.make k [11]) Q E e d acts s := by
  rw [multianewarray.make]
  simp only [wp_bind', W.ite, show ¬ (11 : Int32) < 0 by decide, if_false, wp_pure', W.theClass, h1, h2, Option.some.injEq, exists_eq_left']
  exact W.newArray_of (howMany := 11) h1 h2 hl hh g1 g2 rfl hq
def mI (c1 : ClassId) : Cell := { cls := c1, slots := Array.replicate 11 (.int 0), vm := .none }
/-- one more row made, and its place in the outer one written -/
def mT (c1 : ClassId) (h i : Nat) (o : Cell) (U : State) : State := (U.pushCell (mI c1)).setCell h (o.setSlot i (.ref U.heap.size))
theorem mT_ok {U : State} {o : Cell} {c1 : ClassId} {h i : Nat} (hh : U.heap[h]? = some o) : (mT c1 h i o U).heap.size = U.heap.size + 1 ∧ (mT c1 h i o U).heap[h]? = some (o.setSlot i (.ref U.heap.size)) ∧ (mT c1 h i o U).heap[U.heap.size]? = some (mI c1) ∧ (∀ q, q < U.heap.size → q ≠ h → (mT c1 h i o U).heap[q]? = U.heap[q]?) ∧ (mT c1 h i o U).vm = U.vm ∧ (mT c1 h i o U).slotsUsed = U.slotsUsed + 11 := by
  have hlt : h < U.heap.size := (Array.getElem?_eq_some_iff.mp hh).1
  have h1 : (U.pushCell (mI c1)).heap[h]? = some o := by rw [State.heap_pushCell_of_lt (h := hlt)]; exact hh
  refine ⟨?_, State.heap_setCell_self h1, ?_, fun q hq hne => ?_, ?_, ?_⟩
  · simp [mT, State.setCell, State.pushCell]
  · show ((U.pushCell (mI c1)).setCell h _).heap[U.heap.size]? = _
    rw [State.heap_setCell_other (Nat.ne_of_lt hlt)]
    exact State.heap_pushCell_size _ _
  · show ((U.pushCell (mI c1)).setCell h _).heap[q]? = _
    rw [State.heap_setCell_other (Ne.symm hne), State.heap_pushCell_of_lt (h := hq)]
  · simp [mT]
  · simp [mT, mI]
theorem mT_top {U : State} {o : Cell} {c1 : ClassId} {h i : Nat} {f : JFrame} : mT c1 h i o (U.setTop f) = (mT c1 h i o U).setTop f := by
  simp only [mT, State.heap_setTop, State.pushCell_setTop, State.setCell_setTop]
def mO (c2 : ClassId) : Cell := { cls := c2, slots := Array.replicate 4 .null, vm := .none }
theorem m_step {E : CtlPost} {e : Env} {d : Bool} {acts : List Action} {U : State} {o : Cell} {h i : Nat} {c2 c1 co : ClassId} {k2 k1 : Class} (h2 : U.vm.classes[c2]? = some k2) (hk2 : k2.kind = .array c1 (.array .int)) (h1 : U.vm.classes[c1]? = some k1) (hk1 : k1.kind = .array co .int) (hl : ¬ 11 > e.platform.arrayLengthLimit) (hh : ¬ 11 * componentBytes .int > e.platform.maxHeapBytes)
    (hc : U.heap[h]? = some o) (o1 : o.cls = c2) (o2 : o.vm = .none) (o3 : i < o.slots.size) {Q : ForInStep PUnit → Pre} (g1 : U.heap.size < e.platform.maxCells) (g2 : U.slotsUsed + 11 ≤ e.platform.maxSlots) (hq : ∀ d' acts', Q (ForInStep.yield PUnit.unit) d' acts' (mT c1 h i o U)) : wp (multianewarray.make c1 [11]) (fun a => wp (do
            writeLoc h i (Value.ref a)
            Pure.pure (ForInStep.yield PUnit.unit)) Q E e) E e d acts U := by
  refine m_one h1 hk1 hl hh g1 g2 (fun acts' => ?_)
  have hlt : h < U.heap.size := (Array.getElem?_eq_some_iff.mp hc).1
  simp only [wp_bind', W.writeLoc, wp_pure']
  refine ⟨o, by rw [State.heap_pushCell_of_lt (h := hlt)]; exact hc, by rw [o2]; simp, o3, ?_, hq _ _⟩
  rw [o1, o2]
  simp [State.fitsSlot, State.slotType?, h2, hk2, fits]
theorem m_two {E : CtlPost} {e : Env} {d : Bool} {acts : List Action} {s : State} {c2 c1 co : ClassId} {k2 k1 : Class} (h2 : s.vm.classes[c2]? = some k2) (hk2 : k2.kind = .array c1 (.array .int)) (h1 : s.vm.classes[c1]? = some k1) (hk1 : k1.kind = .array co .int) (hl : ¬ 11 > e.platform.arrayLengthLimit) (hh : ¬ 11 * componentBytes .int > e.platform.maxHeapBytes) (hl4 : ¬ 4 > e.platform.arrayLengthLimit) (hh4 : ¬ 4 * componentBytes (.array .int) > e.platform.maxHeapBytes) {Q : Addr → Pre}
    (g1 : s.heap.size + 5 ≤ e.platform.maxCells) (g2 : s.slotsUsed + 48 ≤ e.platform.maxSlots) {o1 o2 o3 : Cell} {U0 U1 U2 U3 : State} (e0 : U0 = s.pushCell (mO c2)) (e1 : U1 = mT c1 s.heap.size 0 (mO c2) U0) (f1 : o1 = (mO c2).setSlot 0 (.ref (s.heap.size + 1))) (e2 : U2 = mT c1 s.heap.size 1 o1 U1) (f2 : o2 = o1.setSlot 1 (.ref (s.heap.size + 2))) (e3 : U3 = mT c1 s.heap.size 2 o2 U2) (f3 : o3 = o2.setSlot 2 (.ref (s.heap.size + 3)))
    (hq : ∀ d' acts', Q s.heap.size d' acts' (mT c1 s.heap.size 3 o3 U3)) : wp (multianewarray.make c2 [4, 11]) Q E e d acts s := by
  have z0 : U0.heap.size = s.heap.size + 1 := by rw [e0]; simp
  have y0 : U0.heap[s.heap.size]? = some (mO c2) := by rw [e0]; exact State.heap_pushCell_size _ _
  have v0 : U0.vm = s.vm := by rw [e0]; rfl
  have u0 : U0.slotsUsed = s.slotsUsed + 4 := by rw [e0]; simp [mO]
  obtain ⟨z1, y1, -, -, v1, u1⟩ := mT_ok (c1 := c1) (i := 0) y0
  rw [← e1, z0] at z1
  rw [← e1, z0, ← f1] at y1
  rw [← e1, v0] at v1
  rw [← e1, u0] at u1
  obtain ⟨z2, y2, -, -, v2, u2⟩ := mT_ok (c1 := c1) (i := 1) y1
  rw [← e2, z1] at z2
  rw [← e2, z1, ← f2] at y2
  rw [← e2, v1] at v2
  rw [← e2, u1] at u2
  obtain ⟨z3, y3, -, -, v3, u3⟩ := mT_ok (c1 := c1) (i := 2) y2
  rw [← e3, z2] at z3
  rw [← e3, z2, ← f3] at y3
  rw [← e3, v2] at v3
  rw [← e3, u2] at u3
  have s0 : (mO c2).slots.size = 4 := by simp [mO]
  have s1 : o1.slots.size = 4 := by rw [f1]; simp [Cell.setSlot, s0]
  have s2 : o2.slots.size = 4 := by rw [f2]; simp [Cell.setSlot, s1]
  have s3 : o3.slots.size = 4 := by rw [f3]; simp [Cell.setSlot, s2]
  have c1' : o1.cls = c2 ∧ o1.vm = .none := by rw [f1]; exact ⟨rfl, rfl⟩
  have c2' : o2.cls = c2 ∧ o2.vm = .none := by rw [f2]; exact c1'
  have c3' : o3.cls = c2 ∧ o3.vm = .none := by rw [f3]; exact c2'
  rw [multianewarray.make]
  simp only [wp_bind', W.ite, show ¬ (4 : Int32) < 0 by decide, if_false, wp_pure', W.theClass, h2, hk2, Option.some.injEq, exists_eq_left']
  refine W.newArray_of (howMany := 4) h2 hk2 hl4 hh4 (by omega) (by omega) rfl (fun acts' => ?_)
  rw [Std.Legacy.Range.forIn_eq_forIn_range', if_neg (by decide)]
  show wp (do
        forIn [0, 1, 2, 3] PUnit.unit fun i __s => do
            let __do_lift ← multianewarray.make c1 [11]
            writeLoc (Array.size s.heap) i (Value.ref __do_lift)
            Pure.pure (ForInStep.yield PUnit.unit)
        Pure.pure (Array.size s.heap)) Q E e d acts' (s.pushCell (mO c2))
  rw [← e0]
  simp only [List.forIn_cons, List.forIn_nil, wp_bind', wp_pure']
  refine m_step (i := 0) (by rw [v0]; exact h2) hk2 (by rw [v0]; exact h1) hk1 hl hh y0 rfl rfl (by omega) (by omega) (by omega) (fun d1 a1 => ?_)
  rw [← e1]
  simp only [wp_bind']
  refine m_step (i := 1) (by rw [v1]; exact h2) hk2 (by rw [v1]; exact h1) hk1 hl hh y1 c1'.1 c1'.2 (by omega) (by omega) (by omega) (fun d1 a1 => ?_)
  rw [← e2]
  simp only [wp_bind']
  refine m_step (i := 2) (by rw [v2]; exact h2) hk2 (by rw [v2]; exact h1) hk1 hl hh y2 c2'.1 c2'.2 (by omega) (by omega) (by omega) (fun d1 a1 => ?_)
  rw [← e3]
  simp only [wp_bind']
  refine m_step (i := 3) (by rw [v3]; exact h2) hk2 (by rw [v3]; exact h1) hk1 hl hh y3 c3'.1 c3'.2 (by omega) (by omega) (by omega) (fun d1 a1 => ?_)
  simp only [wp_pure']
  exact hq _ _
