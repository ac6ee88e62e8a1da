/-! a telling: what it comes to, for both sides -/
def kN : List (List Nat) := [[103, 97, 112], [100, 101, 112, 116, 104], [110, 101, 119], [103, 114, 101, 97, 116], [119, 97, 108, 107]]
def ktN (i k : Nat) : Nat := (kN.getD i []).getD k 0
theorem chB_kN : ∀ i, i < 5 → ∀ k, k < kLen.getD i 0 → chB i k = nI (ktN i k) ∧ ktN i k < 256 := by decide
/-- the bytes from g to e are the word i -/
def isW (b : Nat → Nat) (g e i : Nat) : Bool := decide (e - g = kLen.getD i 0 ∧ ∀ j, j < kLen.getD i 0 → b (g + j) = ktN i j)
def wdN (b : Nat → Nat) (n g : Nat) : Nat := if tkK b n g = 1 then (if isW b g (tkE b n g) 0 = true then 0 else if isW b g (tkE b n g) 1 = true then 1 else if isW b g (tkE b n g) 2 = true then 2 else if isW b g (tkE b n g) 3 = true then 3 else if isW b g (tkE b n g) 4 = true then 4 else 5) else 5
def nx (b : Nat → Nat) (n g : Nat) : Nat := tkG b n (tkE b n g)
def vl (b : Nat → Nat) (n g : Nat) : Nat := valN b g (tkE b n g - g)
abbrev TL : Type := Nat × Nat × Nat × Nat × Nat
/-- fault, its place (or the sign's), part, slot, weight -/
def telE (b : Nat → Nat) (n g p s : Nat) : TL := if numF b n g 0 99 = 0 then (if tkK b n (nx b n g) = 3 then (0, nx b n g, p, s, vl b n g) else (1, nx b n g, 0, 0, 0)) else (numF b n g 0 99, g, 0, 0, 0)
def tel1 (b : Nat → Nat) (n g lo hi p : Nat) : TL := if numF b n g lo hi = 0 then telE b n (nx b n g) p (vl b n g) else (numF b n g lo hi, g, 0, 0, 0)
def tel2 (b : Nat → Nat) (n g : Nat) : TL := if numF b n g 0 2 = 0 then (if numF b n (nx b n g) 0 2 = 0 then telE b n (nx b n (nx b n g)) 3 (vl b n g * 3 + vl b n (nx b n g)) else (numF b n (nx b n g) 0 2, nx b n g, 0, 0, 0)) else (numF b n g 0 2, g, 0, 0, 0)
def tel (b : Nat → Nat) (n g : Nat) : TL := if wdN b n g = 0 then tel1 b n (nx b n g) 0 9 0 else if wdN b n g = 1 then tel1 b n (nx b n g) 0 9 1 else if wdN b n g = 2 then telE b n (nx b n g) 1 10 else if wdN b n g = 3 then tel1 b n (nx b n g) 1 9 2 else if wdN b n g = 4 then tel2 b n (nx b n g) else (1, g, 0, 0, 0)
theorem wdN_le (b : Nat → Nat) (n g : Nat) : wdN b n g ≤ 5 := by
  unfold wdN
  repeat' split
  all_goals omega
theorem tkG_ok {b : Nat → Nat} {n i : Nat} (h : i ≤ n) : i ≤ tkG b n i ∧ tkG b n i ≤ n := by
  have := runE_ok (u := spc) (b := b) (n - i) i
  unfold tkG; omega
theorem nx_ok {b : Nat → Nat} {n g : Nat} (h : g ≤ n) : g ≤ nx b n g ∧ nx b n g ≤ n := by
  obtain ⟨h1, h2⟩ := tkE_ok (b := b) h
  obtain ⟨h3, h4⟩ := tkG_ok (b := b) h2
  unfold nx; omega
theorem numF_le (b : Nat → Nat) (n g lo hi : Nat) : numF b n g lo hi ≤ 2 := by
  unfold numF
  repeat' split
  all_goals omega
theorem numF_0 {b : Nat → Nat} {n g lo hi : Nat} (h : numF b n g lo hi = 0) : tkK b n g = 2 ∧ lo ≤ vl b n g ∧ vl b n g ≤ hi := by
  unfold numF at h
  split at h
  · rename_i h1
    split at h
    · rename_i h2; exact ⟨h1, h2⟩
    · omega
  · omega
/-- a telling within bounds -/
def TlOk (n : Nat) (t : TL) : Prop := t.1 ≤ 2 ∧ t.2.1 ≤ n ∧ (t.1 = 0 → t.2.2.1 < 4 ∧ wLo t.2.2.1 ≤ t.2.2.2.1 ∧ t.2.2.2.1 < wHi t.2.2.1 ∧ t.2.2.2.2 ≤ 99)
theorem telE_ok {b : Nat → Nat} {n g p s : Nat} (h : g ≤ n) (hp : p < 4) (h1 : wLo p ≤ s) (h2 : s < wHi p) : TlOk n (telE b n g p s) ∧ g ≤ (telE b n g p s).2.1 := by
  obtain ⟨a1, a2⟩ := nx_ok (b := b) h
  have a3 := numF_le b n g 0 99
  unfold telE TlOk
  by_cases q1 : numF b n g 0 99 = 0
  · obtain ⟨-, -, a4⟩ := numF_0 q1
    rw [if_pos q1]
    by_cases q2 : tkK b n (nx b n g) = 3
    · rw [if_pos q2]; exact ⟨⟨Nat.zero_le _, a2, fun _ => ⟨hp, h1, h2, a4⟩⟩, a1⟩
    · rw [if_neg q2]; exact ⟨⟨show 1 ≤ 2 by decide, a2, fun q => absurd q Nat.one_ne_zero⟩, a1⟩
  · rw [if_neg q1]; exact ⟨⟨a3, h, fun q => absurd q q1⟩, Nat.le_refl _⟩
theorem tel1_ok {b : Nat → Nat} {n g lo hi p : Nat} (h : g ≤ n) (hp : p < 4) (h1 : wLo p ≤ lo) (h2 : hi < wHi p) : TlOk n (tel1 b n g lo hi p) ∧ g ≤ (tel1 b n g lo hi p).2.1 := by
  obtain ⟨a1, a2⟩ := nx_ok (b := b) h
  have a3 := numF_le b n g lo hi
  unfold tel1
  by_cases q1 : numF b n g lo hi = 0
  · obtain ⟨-, b1, b2⟩ := numF_0 q1
    rw [if_pos q1]
    obtain ⟨c1, c2⟩ := telE_ok (b := b) (p := p) (s := vl b n g) a2 hp (by omega) (by omega)
    exact ⟨c1, by omega⟩
  · rw [if_neg q1]; exact ⟨⟨a3, h, fun q => absurd q q1⟩, Nat.le_refl _⟩
theorem tel2_ok {b : Nat → Nat} {n g : Nat} (h : g ≤ n) : TlOk n (tel2 b n g) ∧ g ≤ (tel2 b n g).2.1 := by
  obtain ⟨a1, a2⟩ := nx_ok (b := b) h
  obtain ⟨a5, a6⟩ := nx_ok (b := b) a2
  have a3 := numF_le b n g 0 2
  have a4 := numF_le b n (nx b n g) 0 2
  unfold tel2
  by_cases q1 : numF b n g 0 2 = 0
  · obtain ⟨-, b1, b2⟩ := numF_0 q1
    rw [if_pos q1]
    by_cases q2 : numF b n (nx b n g) 0 2 = 0
    · obtain ⟨-, b3, b4⟩ := numF_0 q2
      rw [if_pos q2]
      obtain ⟨c1, c2⟩ := telE_ok (b := b) (p := 3) (s := vl b n g * 3 + vl b n (nx b n g)) a6 (by decide) (Nat.zero_le _) (show _ < 9 by omega)
      exact ⟨c1, by omega⟩
    · rw [if_neg q2]; exact ⟨⟨a4, a2, fun q => absurd q q2⟩, a1⟩
  · rw [if_neg q1]; exact ⟨⟨a3, h, fun q => absurd q q1⟩, Nat.le_refl _⟩
theorem tel_ok {b : Nat → Nat} {n g : Nat} (h : g ≤ n) : TlOk n (tel b n g) ∧ g ≤ (tel b n g).2.1 := by
  obtain ⟨a1, a2⟩ := nx_ok (b := b) h
  have w : ∀ {t : TL}, TlOk n t ∧ nx b n g ≤ t.2.1 → TlOk n t ∧ g ≤ t.2.1 := fun q => ⟨q.1, by omega⟩
  unfold tel
  split
  · exact w (tel1_ok a2 (by decide) (by decide) (by decide))
  · split
    · exact w (tel1_ok a2 (by decide) (by decide) (by decide))
    · split
      · exact w (telE_ok a2 (by decide) (by decide) (by decide))
      · split
        · exact w (tel1_ok a2 (by decide) (by decide) (by decide))
        · split
          · exact w (tel2_ok a2)
          · exact ⟨⟨show 1 ≤ 2 by decide, h, fun q => absurd q Nat.one_ne_zero⟩, Nat.le_refl _⟩
/-- a good telling ends at a sign -/
theorem tel_sign {b : Nat → Nat} {n g : Nat} (h : (tel b n g).1 = 0) : tkK b n (tel b n g).2.1 = 3 := by
  have hE : ∀ g p s, (telE b n g p s).1 = 0 → tkK b n (telE b n g p s).2.1 = 3 := by
    intro g p s h
    unfold telE at h ⊢
    by_cases q1 : numF b n g 0 99 = 0
    · rw [if_pos q1] at h ⊢
      by_cases q2 : tkK b n (nx b n g) = 3
      · rw [if_pos q2]; exact q2
      · rw [if_neg q2] at h; exact absurd h Nat.one_ne_zero
    · rw [if_neg q1] at h; exact absurd h q1
  have h1 : ∀ g lo hi p, (tel1 b n g lo hi p).1 = 0 → tkK b n (tel1 b n g lo hi p).2.1 = 3 := by
    intro g lo hi p h
    unfold tel1 at h ⊢
    by_cases q1 : numF b n g lo hi = 0
    · rw [if_pos q1] at h ⊢; exact hE _ _ _ h
    · rw [if_neg q1] at h; exact absurd h q1
  have h2 : ∀ g, (tel2 b n g).1 = 0 → tkK b n (tel2 b n g).2.1 = 3 := by
    intro g h
    unfold tel2 at h ⊢
    by_cases q1 : numF b n g 0 2 = 0
    · rw [if_pos q1] at h ⊢
      by_cases q2 : numF b n (nx b n g) 0 2 = 0
      · rw [if_pos q2] at h ⊢; exact hE _ _ _ h
      · rw [if_neg q2] at h; exact absurd h q2
    · rw [if_neg q1] at h; exact absurd h q1
  unfold tel at h ⊢
  split at h
  · rename_i q; rw [if_pos q]; exact h1 _ _ _ _ h
  · rename_i q; rw [if_neg q]
    split at h
    · rename_i q; rw [if_pos q]; exact h1 _ _ _ _ h
    · rename_i q; rw [if_neg q]
      split at h
      · rename_i q; rw [if_pos q]; exact hE _ _ _ h
      · rename_i q; rw [if_neg q]
        split at h
        · rename_i q; rw [if_pos q]; exact h1 _ _ _ _ h
        · rename_i q; rw [if_neg q]
          split at h
          · rename_i q; rw [if_pos q]; exact h2 _ h
          · exact absurd h Nat.one_ne_zero
/-- behind a sign there is a byte less -/
theorem sign_nx {b : Nat → Nat} {n g : Nat} (h : g ≤ n) (hk : tkK b n g = 3) : g < nx b n g := by
  have e : tkE b n g = g + 1 ∧ g < n := by
    unfold tkK at hk
    by_cases q0 : n ≤ g
    · rw [if_pos q0] at hk; omega
    · rw [if_neg q0] at hk
      by_cases q1 : ltr (b g) = true
      · rw [if_pos q1] at hk; omega
      · rw [if_neg q1] at hk
        by_cases q2 : fgr (b g) = true
        · rw [if_pos q2] at hk; split at hk <;> omega
        · exact ⟨by unfold tkE; rw [if_neg q0, if_neg q1, if_neg q2], by omega⟩
  have := (tkG_ok (b := b) (n := n) (i := tkE b n g) (by omega)).1
  unfold nx; omega
