/-! the reference's number in a telling -/
def Tok (S : St) (b : Nat → Nat) (n g : Nat) : Prop := S.1 67 18 = nI g ∧ S.1 67 16 = nI (tkE b n g) ∧ S.1 67 19 = nI (tkE b n g) ∧ S.1 67 17 = nI (kiR (tkK b n g))
theorem tkE_ok {b : Nat → Nat} {n g : Nat} (h : g ≤ n) : g ≤ tkE b n g ∧ tkE b n g ≤ n := by
  have h1 := runE_ok (u := ltr) (b := b) (n - g) g
  have h2 := runE_ok (u := fgr) (b := b) (n - g) g
  unfold tkE
  split
  · omega
  · split
    · omega
    · split <;> omega
theorem tk_fig {b : Nat → Nat} {n g : Nat} (h : tkK b n g = 2) : tkE b n g - g ≤ 4 ∧ ∀ j, j < tkE b n g - g → fgr (b (g + j)) = true := by
  unfold tkK at h
  by_cases q0 : n ≤ g
  · rw [if_pos q0] at h; omega
  · rw [if_neg q0] at h
    by_cases q1 : ltr (b g) = true
    · rw [if_pos q1] at h; omega
    · rw [if_neg q1] at h
      by_cases q2 : fgr (b g) = true
      · rw [if_pos q2] at h
        by_cases q3 : tkE b n g - g ≤ 4
        · have e : tkE b n g = runE fgr b (n - g) g := by unfold tkE; rw [if_neg q0, if_neg q1, if_pos q2]
          refine ⟨q3, fun j hj => ?_⟩
          rw [e] at hj
          exact runE_all (n - g) g (g + j) (by omega) (by omega)
        · rw [if_neg q3] at h; omega
      · rw [if_neg q2] at h
        split at h <;> omega
theorem c_numberIn_f {Γ : GG} {S : St} {x y : Int32} (h : 0 < S.1 67 20) : kX10_numberIn Γ [.ref (Γ.1 67), .int x, .int y] S (rI 0 S) := by
  refine oX10_numberIn (fun X hX hE => ?_)
  refine g_aload_n (i := 0) hX dX10_numberIn_0 rfl rfl ?_
  refine fX10_161 hX dX10_numberIn_1 ?_
  refine g_if_le (tgt := 9) hX dX10_numberIn_4 (by decide) (fun h9 => absurd h9 ((by rw [i_le]; rw [i_lt] at h; omega))) (fun _ => ?_)
  refine g_iconst hX dX10_numberIn_7 ic0 ?_
  refine g_iret (st := []) hX hE rfl dX10_numberIn_8 (⟨rfl, rfl⟩)
