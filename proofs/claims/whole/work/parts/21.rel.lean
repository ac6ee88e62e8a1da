/-! what holds between the class's cells and the reference's -/
/-- the states agree but at the handles K and the slots O -/
def Fq (K : List Nat) (O : List (Nat × Nat)) (S S1 : St) : Prop := ∀ k j, k ∉ K → (k, j) ∉ O → S1.1 k j = S.1 k j ∧ S1.2 k j = S.2 k j
theorem Fq.rf {K : List Nat} {O : List (Nat × Nat)} {S : St} : Fq K O S S := fun _ _ _ _ => ⟨rfl, rfl⟩
theorem Fq.tr {K : List Nat} {O : List (Nat × Nat)} {S S1 S2 : St} (h : Fq K O S S1) (g : Fq K O S1 S2) : Fq K O S S2 := fun k j hk hj => ⟨(g k j hk hj).1.trans (h k j hk hj).1, (g k j hk hj).2.trans (h k j hk hj).2⟩
theorem Fq.mono {K L : List Nat} {O Q : List (Nat × Nat)} {S S1 : St} (h : Fq K O S S1) (hK : ∀ k ∈ K, k ∈ L) (hO : ∀ q ∈ O, q ∈ Q ∨ q.1 ∈ L) : Fq L Q S S1 := fun k j hk hj => h k j (fun q => hk (hK k q)) (fun q => (hO _ q).elim hj hk)
theorem Fq.R {K : List Nat} {O : List (Nat × Nat)} {S S1 : St} {k : Nat} {f : Nat → Int32} (h : Fq K O S S1) (hk : k ∈ K) : Fq K O S (pR S1 k f) := h.tr (fun q j hq _ => ⟨by rw [pR_ne S1 f (show q ≠ k from fun e => hq (by rw [e]; exact hk))], rfl⟩)
theorem Fq.I {K : List Nat} {O : List (Nat × Nat)} {S S1 : St} {k j : Nat} {x : Int32} (h : Fq K O S S1) (hk : (k, j) ∈ O) : Fq K O S (pI S1 k j x) := h.tr (fun q i _ hi => ⟨by
  by_cases e : q = k
  · subst e
    rw [pR_self, upd_ne _ _ (fun e2 => hi (by rw [e2]; exact hk))]
  · rw [pR_ne S1 _ e], rfl⟩)
theorem Fq.J {K : List Nat} {O : List (Nat × Nat)} {S S1 : St} {k j : Nat} {x : Int64} (h : Fq K O S S1) (hk : (k, j) ∈ O) : Fq K O S (pJ S1 k j x) := h.tr (fun q i _ hi => ⟨rfl, pJ_ne S1 x (fun e => hi (by rw [e.1, e.2]; exact hk))⟩)
theorem Fq.row {K : List Nat} {O : List (Nat × Nat)} {S S1 : St} (h : Fq K O S S1) {k : Nat} (hk : k ∉ K) (hO : ∀ q ∈ O, q.1 ≠ k) : S1.1 k = S.1 k := funext fun j => (h k j hk (fun q => hO _ q rfl)).1
def okR (K : List Nat) (O : List (Nat × Nat)) (k : Nat) : Bool := !K.contains k && O.all (fun q => !(q.1 == k))
def okS (K : List Nat) (O : List (Nat × Nat)) (k j : Nat) : Bool := !K.contains k && !O.contains (k, j)
theorem Fq.r {K : List Nat} {O : List (Nat × Nat)} {S S1 : St} (h : Fq K O S S1) {k : Nat} (c : okR K O k = true) : S1.1 k = S.1 k := by
  simp only [okR, Bool.and_eq_true, Bool.not_eq_true', List.contains_eq_mem, decide_eq_false_iff_not, List.all_eq_true, beq_eq_false_iff_ne, ne_eq] at c
  exact h.row c.1 c.2
theorem Fq.s {K : List Nat} {O : List (Nat × Nat)} {S S1 : St} (h : Fq K O S S1) {k j : Nat} (c : okS K O k j = true) : S1.1 k j = S.1 k j ∧ S1.2 k j = S.2 k j := by
  simp only [okS, Bool.and_eq_true, Bool.not_eq_true', List.contains_eq_mem, decide_eq_false_iff_not] at c
  exact h k j c.1 c.2
/-- the sheets -/
def ShAt (S : St) (s : Nat) : Prop := ∃ z, z ≤ 60 ∧ S.1 (2 * s) 3 = nI z ∧ S.1 69 s = nI z ∧ (∀ j, j < 60 → S.1 (2 * s + 1) j = S.1 70 (60 * s + j)) ∧
  ((S.1 (2 * s) 1 = 1 ∧ S.1 68 s = -1) ∨ (S.1 (2 * s) 1 = 0 ∧ ∃ l, l < 3 ∧ S.1 (2 * s) 2 = nI l ∧ S.1 68 s = nI l))
def ShRel (S : St) : Prop := ∀ s, s < 8 → ShAt S s
/-- the depth: names passed until x is met again -/
def scan (nm : Nat → Nat) (x : Nat) : Nat → Nat → Int32
  | 0, _ => -1000000
  | k + 1, m => if nm k = x then nI (popN m) else scan nm x k (m ||| 2 ^ nm k)
def dep (nm : Nat → Nat) (i : Nat) : Int32 := scan nm (nm i) i 0
/-- a row of asks: the class's, the reference's -/
def RwC (S : St) (b n : Nat) (tk : Nat → Int32) (nm : Nat → Nat) (gr : Nat → Int32) : Prop := n ≤ 40 ∧ S.1 b 4 = nI n ∧ ∀ i, i < n → S.1 (b + 1) i = tk i ∧ S.1 (b + 2) i = nI (nm i) ∧ nm i < 10 ∧ S.1 (b + 3) i = gr i ∧ S.1 (b + 4) i = dep nm i
def RwR (S : St) (r n : Nat) (tk : Nat → Int32) (nm : Nat → Nat) (gr : Nat → Int32) : Prop := S.1 71 r = nI n ∧ ∀ i, i < n → S.1 72 (40 * r + i) = tk i ∧ S.1 73 (40 * r + i) = nI (nm i) ∧ S.1 74 (40 * r + i) = gr i
/-- a row's ticks and greatness -/
def TrOk (n : Nat) (tk gr : Nat → Int32) : Prop := (∀ i, i < n → 0 ≤ (tk i).toInt ∧ (tk i).toInt ≤ 9999 ∧ 1 ≤ (gr i).toInt ∧ (gr i).toInt ≤ 9) ∧ ∀ i, i + 1 < n → (tk i).toInt ≤ (tk (i + 1)).toInt
def RwRel (S : St) (b r : Nat) : Prop := ∃ n tk nm gr, RwC S b n tk nm gr ∧ RwR S r n tk nm gr ∧ TrOk n tk gr
def TrRel (S : St) : Prop := ∃ n tk nm gr, RwC S 16 n tk nm gr ∧ RwR S 0 n tk nm gr ∧ TrOk n tk gr
/-- the weights: a part's slots, where the reference keeps them -/
def wOff (p : Nat) : Nat := if p = 0 then 0 else if p = 1 then 10 else if p = 2 then 30 else 40
def wLo (p : Nat) : Nat := if p = 2 then 1 else 0
def wHi (p : Nat) : Nat := if p = 0 then 10 else if p = 1 then 11 else if p = 2 then 10 else 9
def WtRel (S : St) : Prop := ∃ w : Nat → Nat → Nat, (∀ p, p < 4 → ∀ i, i < 11 → S.1 (36 + p) i = nI (w p i) ∧ w p i ≤ 99) ∧ (∀ p, p < 4 → ∀ i, wLo p ≤ i → i < wHi p → S.1 75 (wOff p + i) = nI (w p i)) ∧
  (∀ p, p < 4 → ∀ i, i < 11 → ¬ (wLo p ≤ i ∧ i < wHi p) → w p i = 0) ∧ (∀ j, 21 ≤ j → j ≤ 30 → S.1 75 j = 0)
def OutRel (S : St) : Prop := (∀ p, p < 4 → S.1 55 p = S.1 77 p ∧ (S.1 77 p = 0 ∨ S.1 77 p = 1)) ∧ ∀ i, i < 11 → S.1 56 i = 0
def TpRel (S : St) : Prop := ∃ n, n ≤ 400 ∧ S.1 50 2 = nI n ∧ S.1 67 13 = nI n ∧ ∀ j, j < n → ∃ c, c < 256 ∧ S.1 51 j = nI c ∧ S.1 78 j = nI c
def HsRel (S : St) : Prop := S.1 60 0 = S.1 67 28 ∧ S.1 60 1 = S.1 67 29 ∧ S.1 60 2 = S.1 67 30 ∧ (∃ c, 1 ≤ c ∧ c ≤ 6 ∧ S.1 60 0 = nI c) ∧ (1 ≤ (S.1 60 1).toInt ∧ (S.1 60 1).toInt ≤ 9) ∧ 0 ≤ (S.1 60 2).toInt ∧ (S.1 60 2).toInt ≤ 99
def MsRel (S : St) : Prop := S.1 48 15 = S.1 67 1 ∧ S.1 48 14 = S.1 67 14 ∧ (∃ p, p ≤ 100 ∧ S.1 48 16 = nI p ∧ S.1 67 36 = nI p) ∧ S.1 48 12 = S.1 67 26 ∧ (S.1 67 26 = 0 ∨ S.1 67 26 = 1) ∧ S.2 48 13 = S.2 67 27
def TcRel (S : St) : Prop := ∃ t, t ≤ 16 ∧ S.1 63 1 = nI t ∧ S.1 67 38 = nI t ∧ ∀ j, j < t → S.1 64 j = S.1 85 j
def Rel (S : St) : Prop := ShRel S ∧ TrRel S ∧ RwRel S 21 1 ∧ WtRel S ∧ OutRel S ∧ TpRel S ∧ HsRel S ∧ MsRel S ∧ TcRel S
/-- the law's step: first the class's method, then the reference's -/
def Step (kc kr : St → (Option Value → St → Prop) → Prop) : Prop := ∀ S, Rel S → ∃ (r : Int32) (Mid : St → Prop), kc S (eI (fun r1 S1 => r1 = r ∧ Mid S1)) ∧ ∀ S1, Mid S1 → kr S1 (eI (fun r2 S2 => r2 = r ∧ Rel S2))
/-- each part of the relation looks at its own cells -/
theorem ShRel.keep {S S1 : St} (h : ShRel S) (hk : ∀ k, (k < 16 ∨ k = 68 ∨ k = 69 ∨ k = 70) → S1.1 k = S.1 k) : ShRel S1 := by
  intro s hs
  obtain ⟨z, h1, h2, h3, h4, h5⟩ := h s hs
  refine ⟨z, h1, ?_, ?_, ?_, ?_⟩
  · rw [hk (2 * s) (by omega)]; exact h2
  · rw [hk 69 (by omega)]; exact h3
  · rw [hk (2 * s + 1) (by omega), hk 70 (by omega)]; exact h4
  · rw [hk (2 * s) (by omega), hk 68 (by omega)]; exact h5
theorem RwC.keep {S S1 : St} {b n : Nat} {tk : Nat → Int32} {nm : Nat → Nat} {gr : Nat → Int32} (h : RwC S b n tk nm gr) (hk : ∀ k, (b ≤ k ∧ k < b + 5) → S1.1 k = S.1 k) : RwC S1 b n tk nm gr := by
  obtain ⟨h1, h2, h3⟩ := h
  refine ⟨h1, by rw [hk b (by omega)]; exact h2, ?_⟩
  rw [hk (b + 1) (by omega), hk (b + 2) (by omega), hk (b + 3) (by omega), hk (b + 4) (by omega)]
  exact h3
theorem RwR.keep {S S1 : St} {r n : Nat} {tk : Nat → Int32} {nm : Nat → Nat} {gr : Nat → Int32} (h : RwR S r n tk nm gr) (hk : ∀ k, (k = 71 ∨ k = 72 ∨ k = 73 ∨ k = 74) → S1.1 k = S.1 k) : RwR S1 r n tk nm gr := by
  obtain ⟨h2, h3⟩ := h
  refine ⟨by rw [hk 71 (by omega)]; exact h2, ?_⟩
  rw [hk 72 (by omega), hk 73 (by omega), hk 74 (by omega)]
  exact h3
theorem WtRel.keep {S S1 : St} (h : WtRel S) (hk : ∀ k, (k = 36 ∨ k = 37 ∨ k = 38 ∨ k = 39 ∨ k = 75) → S1.1 k = S.1 k) : WtRel S1 := by
  obtain ⟨w, h1, h2, h3, h4⟩ := h
  refine ⟨w, fun p hp => by rw [hk (36 + p) (by omega)]; exact h1 p hp, ?_, h3, ?_⟩ <;> (rw [hk 75 (by omega)]; assumption)
theorem OutRel.keep {S S1 : St} (h : OutRel S) (hk : ∀ k, (k = 55 ∨ k = 56 ∨ k = 77) → S1.1 k = S.1 k) : OutRel S1 := by
  unfold OutRel
  rw [hk 55 (by omega), hk 56 (by omega), hk 77 (by omega)]
  exact h
/-- the parts over a frame -/
theorem ShRel.q {K : List Nat} {O : List (Nat × Nat)} {S S1 : St} (h : ShRel S) (hF : Fq K O S S1) (c : ((List.range 16).all (okR K O) && okR K O 68 && okR K O 69 && okR K O 70) = true) : ShRel S1 := by
  simp only [Bool.and_eq_true, List.all_eq_true, List.mem_range] at c
  refine h.keep fun k hk => ?_
  rcases hk with hk | rfl | rfl | rfl
  · exact hF.r (c.1.1.1 k hk)
  · exact hF.r c.1.1.2
  · exact hF.r c.1.2
  · exact hF.r c.2
theorem RwC.q {K : List Nat} {O : List (Nat × Nat)} {S S1 : St} {b n : Nat} {tk : Nat → Int32} {nm : Nat → Nat} {gr : Nat → Int32} (h : RwC S b n tk nm gr) (hF : Fq K O S S1) (c : (okR K O b && okR K O (b + 1) && okR K O (b + 2) && okR K O (b + 3) && okR K O (b + 4)) = true) : RwC S1 b n tk nm gr := by
  simp only [Bool.and_eq_true] at c
  refine h.keep fun k hk => ?_
  rcases (by omega : k = b ∨ k = b + 1 ∨ k = b + 2 ∨ k = b + 3 ∨ k = b + 4) with rfl | rfl | rfl | rfl | rfl
  · exact hF.r c.1.1.1.1
  · exact hF.r c.1.1.1.2
  · exact hF.r c.1.1.2
  · exact hF.r c.1.2
  · exact hF.r c.2
theorem RwR.q {K : List Nat} {O : List (Nat × Nat)} {S S1 : St} {r n : Nat} {tk : Nat → Int32} {nm : Nat → Nat} {gr : Nat → Int32} (h : RwR S r n tk nm gr) (hF : Fq K O S S1) (c : (okR K O 71 && okR K O 72 && okR K O 73 && okR K O 74) = true) : RwR S1 r n tk nm gr := by
  simp only [Bool.and_eq_true] at c
  refine h.keep fun k hk => ?_
  rcases hk with rfl | rfl | rfl | rfl
  · exact hF.r c.1.1.1
  · exact hF.r c.1.1.2
  · exact hF.r c.1.2
  · exact hF.r c.2
theorem TrRel.q {K : List Nat} {O : List (Nat × Nat)} {S S1 : St} (h : TrRel S) (hF : Fq K O S S1) (c : ((okR K O 16 && okR K O 17 && okR K O 18 && okR K O 19 && okR K O 20) && (okR K O 71 && okR K O 72 && okR K O 73 && okR K O 74)) = true) : TrRel S1 := by
  have c := (Bool.and_eq_true _ _).mp c
  obtain ⟨n, tk, nm, gr, a, b, d⟩ := h
  exact ⟨n, tk, nm, gr, a.q hF c.1, b.q hF c.2, d⟩
theorem RwRel.q {K : List Nat} {O : List (Nat × Nat)} {S S1 : St} (h : RwRel S 21 1) (hF : Fq K O S S1) (c : ((okR K O 21 && okR K O 22 && okR K O 23 && okR K O 24 && okR K O 25) && (okR K O 71 && okR K O 72 && okR K O 73 && okR K O 74)) = true) : RwRel S1 21 1 := by
  have c := (Bool.and_eq_true _ _).mp c
  obtain ⟨n, tk, nm, gr, a, b, d⟩ := h
  exact ⟨n, tk, nm, gr, a.q hF c.1, b.q hF c.2, d⟩
theorem WtRel.q {K : List Nat} {O : List (Nat × Nat)} {S S1 : St} (h : WtRel S) (hF : Fq K O S S1) (c : (okR K O 36 && okR K O 37 && okR K O 38 && okR K O 39 && okR K O 75) = true) : WtRel S1 := by
  simp only [Bool.and_eq_true] at c
  refine h.keep fun k hk => ?_
  rcases hk with rfl | rfl | rfl | rfl | rfl
  · exact hF.r c.1.1.1.1
  · exact hF.r c.1.1.1.2
  · exact hF.r c.1.1.2
  · exact hF.r c.1.2
  · exact hF.r c.2
theorem OutRel.q {K : List Nat} {O : List (Nat × Nat)} {S S1 : St} (h : OutRel S) (hF : Fq K O S S1) (c : (okR K O 55 && okR K O 56 && okR K O 77) = true) : OutRel S1 := by
  simp only [Bool.and_eq_true] at c
  refine h.keep fun k hk => ?_
  rcases hk with rfl | rfl | rfl
  · exact hF.r c.1.1
  · exact hF.r c.1.2
  · exact hF.r c.2
theorem TpRel.q {K : List Nat} {O : List (Nat × Nat)} {S S1 : St} (h : TpRel S) (hF : Fq K O S S1) (c : (okS K O 50 2 && okR K O 51 && okS K O 67 13 && okR K O 78) = true) : TpRel S1 := by
  simp only [Bool.and_eq_true] at c
  unfold TpRel
  rw [(hF.s c.1.1.1).1, hF.r c.1.1.2, (hF.s c.1.2).1, hF.r c.2]
  exact h
theorem HsRel.q {K : List Nat} {O : List (Nat × Nat)} {S S1 : St} (h : HsRel S) (hF : Fq K O S S1) (c : (okS K O 60 0 && okS K O 60 1 && okS K O 60 2 && okS K O 67 28 && okS K O 67 29 && okS K O 67 30) = true) : HsRel S1 := by
  simp only [Bool.and_eq_true] at c
  unfold HsRel
  rw [(hF.s c.1.1.1.1.1).1, (hF.s c.1.1.1.1.2).1, (hF.s c.1.1.1.2).1, (hF.s c.1.1.2).1, (hF.s c.1.2).1, (hF.s c.2).1]
  exact h
theorem MsRel.q {K : List Nat} {O : List (Nat × Nat)} {S S1 : St} (h : MsRel S) (hF : Fq K O S S1) (c : (okS K O 48 15 && okS K O 48 14 && okS K O 48 16 && okS K O 48 12 && okS K O 48 13 && okS K O 67 1 && okS K O 67 14 && okS K O 67 36 && okS K O 67 26 && okS K O 67 27) = true) : MsRel S1 := by
  simp only [Bool.and_eq_true] at c
  obtain ⟨⟨⟨⟨⟨⟨⟨⟨⟨c1, c2⟩, c3⟩, c4⟩, c5⟩, c6⟩, c7⟩, c8⟩, c9⟩, c10⟩ := c
  unfold MsRel
  rw [(hF.s c1).1, (hF.s c2).1, (hF.s c3).1, (hF.s c4).1, (hF.s c5).2, (hF.s c6).1, (hF.s c7).1, (hF.s c8).1, (hF.s c9).1, (hF.s c10).2]
  exact h
theorem TcRel.q {K : List Nat} {O : List (Nat × Nat)} {S S1 : St} (h : TcRel S) (hF : Fq K O S S1) (c : (okS K O 63 1 && okR K O 64 && okS K O 67 38 && okR K O 85) = true) : TcRel S1 := by
  simp only [Bool.and_eq_true] at c
  unfold TcRel
  rw [(hF.s c.1.1.1).1, hF.r c.1.1.2, (hF.s c.1.2).1, hF.r c.2]
  exact h
