/-! promise 6: asks -/
def askOk (f : Nat → Int32) : Nat → Nat → Int32 → Prop
  | _, 0, _ => True
  | i, n + 1, a => (a ≤ f i ∧ f i ≤ 9999 ∧ inB (f (i + 1)) 10 ∧ 1 ≤ f (i + 2) ∧ f (i + 2) ≤ 9) ∧ askOk f (i + 3) n (f i)
theorem c_hasAsks {Γ : GG} {S : St} {b z i n : Nat} {a0 r : Int32} (hb : IsSheet b) (hz : i + 3 * n ≤ z) (hz6 : z ≤ 60) (hr : (askOk (S.1 (b + 1)) i n a0 ∧ r = 1) ∨ (¬ askOk (S.1 (b + 1)) i n a0 ∧ r = 0)) : kX7_hasAsks Γ [.ref (Γ.1 b), .int (nI i), .int (nI n), .int a0] S (rI r S) := by
  refine oX7_hasAsks (fun X hX hE => ?_)
  have bad : ∀ ls, ¬ askOk (S.1 (b + 1)) i n a0 → G Γ X S 88 ls [] := by
    intro ls hbad
    rcases hr with ⟨q, -⟩ | ⟨-, rfl⟩
    · exact absurd q hbad
    · refine g_iconst hX dX7_hasAsks_88 ic0 ?_
      refine g_zret (st := []) hX hE rfl (nz_narrow (Or.inl rfl)).1 dX7_hasAsks_89 (⟨rfl, rfl⟩)
  have e3 : ∀ k, nI i + 3 * nI k = nI (i + 3 * k) := fun k => by rw [show (3 : Int32) = nI 3 from rfl, nI_mul, nI_add2]
  have e31 : ∀ k, nI i + 3 * nI k + 1 = nI (i + 3 * k + 1) := fun k => by rw [e3, nI_1]
  have e32 : ∀ k, nI i + 3 * nI k + 2 = nI (i + 3 * k + 2) := fun k => by rw [e3, show (2 : Int32) = nI 2 from rfl, nI_add2]
  have loop : ∀ d k a, k + d = n → (askOk (S.1 (b + 1)) (i + 3 * k) d a ↔ askOk (S.1 (b + 1)) i n a0) → G Γ X S 6 [(0, .ref (Γ.1 b)), (1, .int (nI i)), (2, .int (nI n)), (3, .int a0), (4, .int a), (5, .int (nI k))] [] := by
    intro d
    induction d with
    | zero =>
      intro k a hk hi
      obtain rfl : k = n := by omega
      rcases hr with ⟨-, rfl⟩ | ⟨q, -⟩
      · refine g_iload hX dX7_hasAsks_6 rfl ?_
        refine g_iload_n (i := 2) hX dX7_hasAsks_8 rfl rfl ?_
        refine g_icmp_ge (tgt := 100) hX dX7_hasAsks_9 (by decide) (fun _ => ?_) (fun h9 => absurd (nI_le (Nat.le_refl _) (by omega)) h9)
        refine g_iconst hX dX7_hasAsks_100 ic1 ?_
        refine g_zret (st := []) hX hE rfl (nz_narrow (Or.inr rfl)).1 dX7_hasAsks_101 (⟨rfl, rfl⟩)
      · exact absurd (hi.mp trivial) q
    | succ d ih =>
      intro k a hk hi
      have nb : ∀ {q : Prop}, ¬ q → (askOk (S.1 (b + 1)) (i + 3 * k) (d + 1) a → q) → ¬ askOk (S.1 (b + 1)) i n a0 := fun hq h z => hq (h (hi.mpr z))
      refine g_iload hX dX7_hasAsks_6 rfl ?_
      refine g_iload_n (i := 2) hX dX7_hasAsks_8 rfl rfl ?_
      refine g_icmp_ge (tgt := 100) hX dX7_hasAsks_9 (by decide) (fun h9 => absurd h9 (nI_ge (by omega) (by omega))) (fun _ => ?_)
      refine g_iload_n (i := 1) hX dX7_hasAsks_12 rfl rfl ?_
      refine g_iconst hX dX7_hasAsks_13 ic3 ?_
      refine g_iload hX dX7_hasAsks_14 rfl ?_
      refine g_imul hX dX7_hasAsks_16 ?_
      refine g_iadd hX dX7_hasAsks_17 ?_
      refine g_istore hX dX7_hasAsks_18 (by decide) rfl ?_
      refine g_aload_n (i := 0) hX dX7_hasAsks_20 rfl rfl ?_
      refine fX7_9 hX hb dX7_hasAsks_21 ?_
      refine g_iload hX dX7_hasAsks_24 rfl ?_
      refine g_ialoadN hX ((hb).a1) (e3 k) ((show i + 3 * k < 60 by omega)) (by first | decide | assumption | omega) dX7_hasAsks_26 ?_
      refine g_istore hX dX7_hasAsks_27 (by decide) rfl ?_
      refine g_iload hX dX7_hasAsks_29 rfl ?_
      refine g_iload hX dX7_hasAsks_31 rfl ?_
      refine g_icmp_lt (tgt := 88) hX dX7_hasAsks_33 (by decide) (fun q1 => ?_) (fun q1 => ?_)
      · exact bad _ (nb (q := a ≤ S.1 (b + 1) (i + 3 * k)) (by rw [i_le]; rw [i_lt] at q1; omega) (fun h => h.1.1))
      refine g_iload hX dX7_hasAsks_36 rfl ?_
      refine g_sipush hX dX7_hasAsks_38 sp9999 ?_
      refine g_icmp_gt (tgt := 88) hX dX7_hasAsks_41 (by decide) (fun q2 => ?_) (fun q2 => ?_)
      · exact bad _ (nb (q := S.1 (b + 1) (i + 3 * k) ≤ 9999) (by rw [i_le]; rw [i_lt] at q2; omega) (fun h => h.1.2.1))
      by_cases hB : inB (S.1 (b + 1) (i + 3 * k + 1)) 10
      case neg =>
        refine g_aload_n (i := 0) hX dX7_hasAsks_44 rfl rfl ?_
        refine fX7_9 hX hb dX7_hasAsks_45 ?_
        refine g_iload hX dX7_hasAsks_48 rfl ?_
        refine g_iconst hX dX7_hasAsks_50 ic1 ?_
        refine g_iadd hX dX7_hasAsks_51 ?_
        refine g_ialoadN hX ((hb).a1) (e31 k) ((show i + 3 * k + 1 < 60 by omega)) (by first | decide | assumption | omega) dX7_hasAsks_52 ?_
        refine g_bipush hX dX7_hasAsks_53 bp10 ?_
        refine sX7_32 hX ⟨Nat.le_of_ble_eq_true rfl, Nat.le_of_ble_eq_true rfl⟩ (Nat.le_of_ble_eq_true rfl) dX7_hasAsks_55 (isB_f (n := 10) (by decide) hB) ?_
        refine g_if_eq (tgt := 88) hX dX7_hasAsks_58 (by decide) (fun _ => ?_) (fun h9 => absurd (rfl) h9)
        exact bad _ (nb hB (fun h => h.1.2.2.1))
      have hB' := hB
      obtain ⟨x, hx, ex⟩ := hB'
      refine g_aload_n (i := 0) hX dX7_hasAsks_44 rfl rfl ?_
      refine fX7_9 hX hb dX7_hasAsks_45 ?_
      refine g_iload hX dX7_hasAsks_48 rfl ?_
      refine g_iconst hX dX7_hasAsks_50 ic1 ?_
      refine g_iadd hX dX7_hasAsks_51 ?_
      refine g_ialoadN hX ((hb).a1) (e31 k) ((show i + 3 * k + 1 < 60 by omega)) (by first | decide | assumption | omega) dX7_hasAsks_52 ?_
      refine g_bipush hX dX7_hasAsks_53 bp10 ?_
      refine sX7_32 hX ⟨Nat.le_of_ble_eq_true rfl, Nat.le_of_ble_eq_true rfl⟩ (Nat.le_of_ble_eq_true rfl) dX7_hasAsks_55 ((by rw [ex]; exact isB_t (n := 10) hx (by decide))) ?_
      refine g_if_eq (tgt := 88) hX dX7_hasAsks_58 (by decide) (fun h9 => absurd h9 ((by decide))) (fun _ => ?_)
      refine g_aload_n (i := 0) hX dX7_hasAsks_61 rfl rfl ?_
      refine fX7_9 hX hb dX7_hasAsks_62 ?_
      refine g_iload hX dX7_hasAsks_65 rfl ?_
      refine g_iconst hX dX7_hasAsks_67 ic2 ?_
      refine g_iadd hX dX7_hasAsks_68 ?_
      refine g_ialoadN hX ((hb).a1) (e32 k) ((show i + 3 * k + 2 < 60 by omega)) (by first | decide | assumption | omega) dX7_hasAsks_69 ?_
      refine g_iconst hX dX7_hasAsks_70 ic1 ?_
      refine g_icmp_lt (tgt := 88) hX dX7_hasAsks_71 (by decide) (fun q3 => ?_) (fun q3 => ?_)
      · exact bad _ (nb (q := 1 ≤ S.1 (b + 1) (i + 3 * k + 2)) (by rw [i_le]; rw [i_lt] at q3; omega) (fun h => h.1.2.2.2.1))
      refine g_aload_n (i := 0) hX dX7_hasAsks_74 rfl rfl ?_
      refine fX7_9 hX hb dX7_hasAsks_75 ?_
      refine g_iload hX dX7_hasAsks_78 rfl ?_
      refine g_iconst hX dX7_hasAsks_80 ic2 ?_
      refine g_iadd hX dX7_hasAsks_81 ?_
      refine g_ialoadN hX ((hb).a1) (e32 k) ((show i + 3 * k + 2 < 60 by omega)) (by first | decide | assumption | omega) dX7_hasAsks_82 ?_
      refine g_bipush hX dX7_hasAsks_83 bp9 ?_
      refine g_icmp_le (tgt := 90) hX dX7_hasAsks_85 (by decide) (fun q4 => ?_) (fun q4 => ?_)
      · refine g_iload hX dX7_hasAsks_90 rfl ?_
        refine g_istore hX dX7_hasAsks_92 (by decide) rfl ?_
        refine g_iinc hX dX7_hasAsks_94 rfl ic1 (by decide) rfl ?_
        refine g_goto (tgt := 6) hX dX7_hasAsks_97 (by decide) ?_
        rw [nI_1]
        have hh : askOk (S.1 (b + 1)) (i + 3 * (k + 1)) d (S.1 (b + 1) (i + 3 * k)) ↔ askOk (S.1 (b + 1)) i n a0 := by
          rw [← hi]
          constructor
          · intro h
            exact ⟨⟨by rw [i_le]; rw [i_lt] at q1; omega, by rw [i_le]; rw [i_lt] at q2; omega, hB, by rw [i_le]; rw [i_lt] at q3; omega, q4⟩, h⟩
          · intro h
            exact h.2
        exact g_weak (ih (k + 1) _ (by omega) hh) (as_c rfl (as_c rfl (as_c rfl (as_c rfl (as_c rfl (as_c rfl (as_n)))))))
      · exact bad _ (nb q4 (fun h => h.1.2.2.2.2))
  refine g_iload_n (i := 3) hX dX7_hasAsks_0 rfl rfl ?_
  refine g_istore hX dX7_hasAsks_1 (by decide) rfl ?_
  refine g_iconst hX dX7_hasAsks_3 ic0 ?_
  refine g_istore hX dX7_hasAsks_4 (by decide) rfl ?_
  exact loop n 0 a0 (by omega) Iff.rfl
/-- what a good run of asks says of its ask k -/
theorem askOk_at {f : Nat → Int32} : ∀ {n i : Nat} {a : Int32}, askOk f i n a → ∀ k, k < n → (if k = 0 then a else f (i + 3 * (k - 1))) ≤ f (i + 3 * k) ∧ f (i + 3 * k) ≤ 9999 ∧ inB (f (i + 3 * k + 1)) 10 ∧ 1 ≤ f (i + 3 * k + 2) ∧ f (i + 3 * k + 2) ≤ 9 := by
  intro n
  induction n with
  | zero => intro i a _ k hk; omega
  | succ n ih =>
    intro i a h k hk
    cases k with
    | zero => rw [if_pos rfl]; exact h.1
    | succ k =>
      have h2 := ih h.2 k (by omega)
      rw [if_neg (by omega), show i + 3 * (k + 1) = i + 3 + 3 * k by omega, show k + 1 - 1 = k from rfl]
      refine ⟨?_, h2.2⟩
      have h3 := h2.1
      by_cases e : k = 0
      · subst e; rw [if_pos rfl] at h3; exact h3
      · rw [if_neg e, show i + 3 + 3 * (k - 1) = i + 3 * k by omega] at h3; exact h3
/-- the functions of the row with the asks behind -/
def exT (tk : Nat → Int32) (N : Nat) (f : Nat → Int32) (i o : Nat) : Nat → Int32 := fun j => if j < N then tk j else f (i + 3 * (j - N) + o)
def exN (nm : Nat → Nat) (N : Nat) (f : Nat → Int32) (i : Nat) : Nat → Nat := fun j => if j < N then nm j else (f (i + 3 * (j - N) + 1)).toNatClampNeg
theorem exT_lo {tk : Nat → Int32} {N : Nat} {f : Nat → Int32} {i o j : Nat} (h : j < N) : exT tk N f i o j = tk j := if_pos h
theorem exT_hi {tk : Nat → Int32} {N : Nat} {f : Nat → Int32} {i o k : Nat} : exT tk N f i o (N + k) = f (i + 3 * k + o) := by
  unfold exT; rw [if_neg (by omega), Nat.add_sub_cancel_left]
theorem exN_lo {nm : Nat → Nat} {N : Nat} {f : Nat → Int32} {i j : Nat} (h : j < N) : exN nm N f i j = nm j := if_pos h
theorem exN_hi {nm : Nat → Nat} {N : Nat} {f : Nat → Int32} {i k : Nat} : exN nm N f i (N + k) = (f (i + 3 * k + 1)).toNatClampNeg := by
  unfold exN; rw [if_neg (by omega), Nat.add_sub_cancel_left]
theorem exTr {N n i : Nat} {tk gr : Nat → Int32} {f : Nat → Int32} {a : Int32} (h : TrOk N tk gr) (ha : a = if N = 0 then 0 else tk (N - 1)) (hok : askOk f i n a) : TrOk (N + n) (exT tk N f i 0) (exT gr N f i 2) := by
  have low : ∀ k, k < n → 0 ≤ (f (i + 3 * k)).toInt := by
    intro k
    induction k with
    | zero =>
      intro hk
      have h1 := (askOk_at hok 0 hk).1
      rw [if_pos rfl, i_le] at h1
      have : 0 ≤ a.toInt := by
        rw [ha]
        by_cases e : N = 0
        · rw [if_pos e]; decide
        · rw [if_neg e]; exact (h.1 (N - 1) (by omega)).1
      omega
    | succ k ih =>
      intro hk
      have h1 := (askOk_at hok (k + 1) hk).1
      rw [if_neg (by omega), i_le, show k + 1 - 1 = k from rfl] at h1
      have := ih (by omega)
      omega
  refine ⟨fun j hj => ?_, fun j hj => ?_⟩
  · by_cases e : j < N
    · rw [exT_lo e, exT_lo e]; exact h.1 j e
    · obtain ⟨k, rfl⟩ : ∃ k, j = N + k := ⟨j - N, by omega⟩
      obtain ⟨-, h2, -, h4, h5⟩ := askOk_at hok k (by omega)
      rw [exT_hi, exT_hi, Nat.add_zero]
      rw [i_le, show (9999 : Int32).toInt = 9999 by decide] at h2
      rw [i_le, t1] at h4
      rw [i_le, t9] at h5
      exact ⟨low k (by omega), h2, h4, h5⟩
  · by_cases e : j + 1 < N
    · rw [exT_lo (by omega), exT_lo e]; exact h.2 j e
    · by_cases e2 : j < N
      · obtain rfl : N = j + 1 := by omega
        rw [exT_lo e2, show j + 1 = j + 1 + 0 from rfl, exT_hi]
        have h1 := (askOk_at hok 0 (by omega)).1
        rw [if_pos rfl, i_le, ha, if_neg (by omega)] at h1
        exact h1
      · obtain ⟨k, rfl⟩ : ∃ k, j = N + k := ⟨j - N, by omega⟩
        have h1 := (askOk_at hok (k + 1) (by omega)).1
        rw [if_neg (by omega), i_le, show k + 1 - 1 = k from rfl] at h1
        rw [exT_hi, show N + k + 1 = N + (k + 1) by omega, exT_hi, Nat.add_zero, Nat.add_zero]
        exact h1
