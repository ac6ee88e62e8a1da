theorem w_multi {p : Program} {l : Launch} {e : Env} {R : Room} {s : State} {m : MethodId} {args : Array Value} {below : List Frame} {meth : Method} {c : Code} {H : Heap} {locs : List Loc} {cells slots : Nat} {Q : State → Prop} {cc : ByteArray} (hexec : p.tables.exec = Jvm.exec) (hb : c.code = cc) {own : String} {index : Nat} (hown : s.vm.findClass own = some m.cls) (hclink : (Cond.classLink own index "[[I").before args s = true) {c2 c1 co : ClassId} {k2 k1 : Class} (hf2 : s.vm.findClass "[[I" = some c2) (h2 : s.vm.classes[c2]? = some k2) (hk2 : k2.kind = .array c1 (.array .int)) (h1 : s.vm.classes[c1]? = some k1) (hk1 : k1.kind = .array co .int)
    {pc : Nat} {ls : Array Slot} {rest : List Value} (hdg : decode cc pc = .ok (.multianewarray index 2, 4)) (hcells : cells + 5 ≤ R.cells) (hslots : slots + 48 ≤ R.slots)
    (kk : ∀ H1 : Heap, H1[H.size]? = some ((((mO c2).setSlot 0 (.ref (H.size + 1))).setSlot 1 (.ref (H.size + 2))).setSlot 2 (.ref (H.size + 3)) |>.setSlot 3 (.ref (H.size + 4))) → (∀ j, 1 ≤ j → j ≤ 4 → H1[H.size + j]? = some (mI c1)) → H1.size = H.size + 5 → (∀ q, q < H.size → H1[q]? = H[q]?) → W p l e R s m args below meth c H1 (locs ++ [⟨H.size, 0⟩] ++ [⟨H.size, 1⟩] ++ [⟨H.size, 2⟩] ++ [⟨H.size, 3⟩]) (cells + 5) (slots + 48) Q (F0 m (pc + 4) ls (.ref H.size :: rest))) : W p l e R s m args below meth c H locs cells slots Q (F0 m pc ls (.int 11 :: .int 4 :: rest)) := by
  intro T hT X
  subst hT; subst hb
  have hpl : e.platform.magicAccessors = ({} : Platform).magicAccessors := by rw [X.admits.platform]
  obtain ⟨c0, hfc0, hcl⟩ := Cond.classLink_spec hown hclink e.platform hpl
  cases hf2.symm.trans hfc0
  obtain ⟨hg₁, hwarm₁, hready₁⟩ := State.classEntry (e := e) X.warmed hcl
  generalize T.vm.noted m.cls index (.cls c2) = vm₁ at hg₁ hwarm₁ hready₁
  have hal : s.vm.Alike vm₁ := hwarm₁.alike
  obtain ⟨k2', h2', he2⟩ := hal.2.2 _ _ h2
  obtain ⟨k1', h1', he1⟩ := hal.2.2 _ _ h1
  have hk2' : k2'.kind = .array c1 (.array .int) := by rw [he2]; exact hk2
  have hk1' : k1'.kind = .array co .int := by rw [he1]; exact hk1
  have X1 := X.noted hwarm₁
  obtain ⟨hr1, hr2⟩ := X.roomAbove hcells hslots
  obtain ⟨U0, e0⟩ : ∃ U, U = (T.setVm vm₁).pushCell (mO c2) := ⟨_, rfl⟩
  obtain ⟨U1, e1⟩ : ∃ U, U = mT c1 T.heap.size 0 (mO c2) U0 := ⟨_, rfl⟩
  obtain ⟨o1, f1⟩ : ∃ o, o = (mO c2).setSlot 0 (.ref (T.heap.size + 1)) := ⟨_, rfl⟩
  obtain ⟨U2, e2⟩ : ∃ U, U = mT c1 T.heap.size 1 o1 U1 := ⟨_, rfl⟩
  obtain ⟨o2, f2⟩ : ∃ o, o = o1.setSlot 1 (.ref (T.heap.size + 2)) := ⟨_, rfl⟩
  obtain ⟨U3, e3⟩ : ∃ U, U = mT c1 T.heap.size 2 o2 U2 := ⟨_, rfl⟩
  obtain ⟨o3, f3⟩ : ∃ o, o = o2.setSlot 2 (.ref (T.heap.size + 3)) := ⟨_, rfl⟩
  obtain ⟨U4, e4⟩ : ∃ U, U = mT c1 T.heap.size 3 o3 U3 := ⟨_, rfl⟩
  have z0 : U0.heap.size = T.heap.size + 1 := by rw [e0]; simp
  have y0 : U0.heap[T.heap.size]? = some (mO c2) := by rw [e0]; exact State.heap_pushCell_size _ _
  have w0 : ∀ q, q < T.heap.size → U0.heap[q]? = T.heap[q]? := fun q hq => by rw [e0]; exact State.heap_pushCell_of_lt (h := hq) ..
  obtain ⟨z1, y1, i1, w1, -, -⟩ := mT_ok (c1 := c1) (i := 0) y0
  rw [← e1, z0] at z1
  rw [← e1, z0, ← f1] at y1
  rw [← e1, z0] at i1
  rw [← e1] at w1
  obtain ⟨z2, y2, i2, w2, -, -⟩ := mT_ok (c1 := c1) (i := 1) y1
  rw [← e2, z1] at z2
  rw [← e2, z1, ← f2] at y2
  rw [← e2, z1] at i2
  rw [← e2] at w2
  obtain ⟨z3, y3, i3, w3, -, -⟩ := mT_ok (c1 := c1) (i := 2) y2
  rw [← e3, z2] at z3
  rw [← e3, z2, ← f3] at y3
  rw [← e3, z2] at i3
  rw [← e3] at w3
  obtain ⟨z4, y4, i4, w4, -, -⟩ := mT_ok (c1 := c1) (i := 3) y3
  rw [← e4, z3] at z4
  rw [← e4, z3, f3, f2, f1] at y4
  rw [← e4, z3] at i4
  rw [← e4] at w4
  have X2 : Stand p l e R s m args below meth c U0 locs (cells + 1) (slots + 4) := by rw [e0]; simpa [mO] using X1.pushed (mO c2)
  have st : ∀ {U V : State} {o : Cell} {L : List Loc} {ce sl i : Nat} {v : Nat}, Stand p l e R s m args below meth c U L ce sl → U.heap[T.heap.size]? = some o → U.heap.size = v → V = mT c1 T.heap.size i o U → Stand p l e R s m args below meth c V (L ++ [⟨T.heap.size, i⟩]) (ce + 1) (sl + 11) := by
    intro U V o L ce sl i v XU hU hv hV
    have hlt : T.heap.size < U.heap.size := (Array.getElem?_eq_some_iff.mp hU).1
    have hc : (U.pushCell (mI c1)).heap[T.heap.size]? = some o := by rw [State.heap_pushCell_of_lt (h := hlt)]; exact hU
    have h := (XU.pushed (mI c1)).stored hc i (.ref U.heap.size)
    rw [show (mI c1).slots.size = 11 by simp [mI]] at h
    rw [hV]
    exact h
  have X3 := st X2 y0 z0 e1
  have X4 := st X3 y1 z1 e2
  have X5 := st X4 y2 z2 e3
  have X6 := st X5 y3 z3 e4
  obtain ⟨t, a1, b1⟩ := kk U4.heap y4 (fun j g1 g2 => by
      rcases (by omega : j = 1 ∨ j = 2 ∨ j = 3 ∨ j = 4) with rfl | rfl | rfl | rfl
      · rw [w4 _ (by omega) (by omega), w3 _ (by omega) (by omega), w2 _ (by omega) (by omega)]; exact i1
      · rw [w4 _ (by omega) (by omega), w3 _ (by omega) (by omega)]; exact i2
      · rw [w4 _ (by omega) (by omega)]; exact i3
      · exact i4) z4 (fun q hq => by rw [w4 q (by omega) (by omega), w3 q (by omega) (by omega), w2 q (by omega) (by omega), w1 q (by omega) (by omega), w0 q hq]) U4 rfl X6
  refine ⟨t, ?_, b1⟩
  have hl1 : ¬ 4 > e.platform.arrayLengthLimit := by rw [Launch.admits_arrayLengthLimit X.admits]; omega
  have hh1 : ¬ 4 * componentBytes (.array .int) > e.platform.maxHeapBytes := by rw [Launch.admits_maxHeapBytes X.admits]; decide
  have hl2 : ¬ 11 > e.platform.arrayLengthLimit := by rw [Launch.admits_arrayLengthLimit X.admits]; omega
  have hh2 : ¬ 11 * componentBytes .int > e.platform.maxHeapBytes := by rw [Launch.admits_maxHeapBytes X.admits]; decide
  jvm_step X.here [hexec, hdg]
  simp only [multianewarray.sem, wp_bind', W.resolveClassAt_links (State.method?_setTop (F0 m pc ls (.int 11 :: .int 4 :: rest)) X.here.top) hg₁]
  rw [W.popN, if_neg (by decide)]
  refine ⟨F0 m pc ls (.int 11 :: .int 4 :: rest), State.topJava?_setTop' (s := T.setVm vm₁) _ X.here.top, [.int 4, .int 11], rest, rfl, rfl, ?_⟩
  simp only [List.mapM_cons, List.mapM_nil, wp_bind', wp_pure']
  have eS : ((T.setTop (F0 m pc ls (.int 11 :: .int 4 :: rest))).setVm vm₁).setTop { F0 m pc ls (.int 11 :: .int 4 :: rest) with stack := rest } = (T.setVm vm₁).setTop { F0 m pc ls (.int 11 :: .int 4 :: rest) with stack := rest } := by
    show ((T.setVm vm₁).setTop _).setTop _ = _
    rw [State.setTop_setTop]
  rw [eS]
  generalize hF : ({ F0 m pc ls (.int 11 :: .int 4 :: rest) with stack := rest } : JFrame) = f'
  refine m_two (s := (T.setVm vm₁).setTop f') (U0 := U0.setTop f') (U1 := U1.setTop f') (U2 := U2.setTop f') (U3 := U3.setTop f') (o1 := o1) (o2 := o2) (o3 := o3) h2' hk2' h1' hk1' hl2 hh2 hl1 hh1 (by show T.heap.size + 5 ≤ _; omega) (by show T.slotsUsed + 48 ≤ _; omega) (by rw [e0, State.pushCell_setTop]) (by rw [e1]; exact mT_top.symm) f1 (by rw [e2]; exact mT_top.symm) f2 (by rw [e3]; exact mT_top.symm) f3 (fun d' acts' => ?_)
  have e4' : mT c1 ((T.setVm vm₁).setTop f').heap.size 3 o3 (U3.setTop f') = U4.setTop f' := by rw [e4]; exact mT_top
  rw [e4']
  simp only [wp_bind', W.mark, W.pushRef, State.topJava?_setTop' _ X6.here.top, Option.some.injEq, exists_eq_left', State.setTop_setTop, State.heap_setTop]
  intro acts
  rw [← hF]
  simp [jvm, X6.here.top]
  exact a1
