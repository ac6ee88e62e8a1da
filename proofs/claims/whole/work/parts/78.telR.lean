/-! a telling, the reference's -/
abbrev Otr : List (Nat × Nat) := [(67, 16), (67, 17), (67, 18), (67, 19), (67, 20), (67, 21)]
theorem g_numIn {Γ : GG} {X : XT} {S : St} {pc : Nat} {ls : List (Nat × Value)} {st : List Value} {cc : ByteArray} {mL : Nat} {ret : Option FieldType} {fr lo : Nat} (hX : Cx Γ RX10 cc mL ret fr lo X) (hR' : 3 + 1 ≤ fr ∧ 8 + (5 + 11) + 63 ≤ lo) (hrm : (st.map fun v => v.category).sum ≤ 8) (hd : decode cc pc = .ok (.invokevirtual 192, 3))
    {n g l h : Nat} {b : Nat → Nat} (hb : BtR S n b) (hg : g ≤ n) (h0 : S.1 67 20 = 0) (ht : Tok S b n g) (hl : l < 100) (hh : h < 100)
    (hbad : ¬ numF b n g l h = 0 → ∀ v S1, S1.1 67 20 = nI (numF b n g l h) → S1.1 67 21 = nI g → Fq [] Otr S S1 → G Γ X S1 (pc + 3) ls (.int v :: st))
    (hgood : numF b n g l h = 0 → ∀ S1, Tok S1 b n (nx b n g) → S1.1 67 20 = 0 → Fq [] Otr S S1 → G Γ X S1 (pc + 3) ls (.int (nI (vl b n g)) :: st)) : G Γ X S pc ls (.int (nI h) :: .int (nI l) :: .ref (Γ.1 67) :: st) := by
  by_cases hk : tkK b n g = 2
  · by_cases q : l ≤ valN b g (tkE b n g - g) ∧ valN b g (tkE b n g - g) ≤ h
    · have e0 : numF b n g l h = 0 := by unfold numF; rw [if_pos hk, if_pos q]
      have cN := c_nextR (Γ := Γ) hb (tkE_ok (b := b) hg).2 ht.2.1
      refine eX10_192 hX hR' hrm hd (c_numberIn_2 hb hg h0 ht hk hl hh (fun _ => cN) (fun z => absurd q z)) (fun r S1 hr => ?_)
      obtain ⟨rfl, a1, a2, a3, a4, hF⟩ := hr
      exact hgood e0 S1 ⟨a1, a2, a3, a4⟩ (by rw [(hF.s (k := 67) (j := 20) (by decide)).1]; exact h0) (hF.mono (fun _ z => z) (by decide))
    · have e0 : numF b n g l h = 2 := by unfold numF; rw [if_pos hk, if_neg q]
      refine eX10_192 hX hR' hrm hd (c_numberIn_2 (Q := fun S1 => S1 = pI (pI S 67 20 2) 67 21 (nI g)) hb hg h0 ht hk hl hh (fun z => absurd z q) (fun _ => rfl)) (fun r S1 hr => ?_)
      obtain ⟨rfl, rfl⟩ := hr
      exact hbad (by rw [e0]; decide) _ _ (by rw [pR_self, upd_ne _ _ (by decide), pR_self, upd_self, e0]; rfl) (by rw [pR_self, upd_self]) ((Fq.rf.I (by decide)).I (by decide))
  · have e0 : numF b n g l h = 1 := by unfold numF; rw [if_neg hk]
    refine sX10_192 hX hR' hrm hd (c_numberIn_1 h0 ht hk) ?_
    exact hbad (by rw [e0]; decide) _ _ (by rw [pR_self, upd_ne _ _ (by decide), pR_self, upd_self, e0]; rfl) (by rw [pR_self, upd_self]) ((Fq.rf.I (by decide)).I (by decide))
def tlR (S : St) (b : Nat → Nat) (n : Nat) (t : TL) (S1 : St) : Prop := (t.1 = 0 → Tok S1 b n (nx b n t.2.1) ∧ S1.1 67 20 = 0 ∧ ∀ q, S1.1 76 q = if q = wOff t.2.2.1 + t.2.2.2.1 then nI t.2.2.2.2 else S.1 76 q) ∧ (¬ t.1 = 0 → S1.1 67 20 = nI t.1 ∧ S1.1 67 21 = nI t.2.1) ∧ Fq [76] Otr S S1
theorem lcmp_ne {x y : Int64} (h : ¬ x = y) : ¬ lg_cmp x y = 0 := by
  unfold lg_cmp
  rw [if_neg h]
  split <;> decide
theorem Tok.kind {S : St} {b : Nat → Nat} {n g : Nat} (h : Tok S b n g) : S.1 67 17 = nI (kiR (tkK b n g)) := h.2.2.2
theorem wOff_lt : ∀ p, p < 4 → ∀ s, s < wHi p → wOff p + s < 49 := by decide
theorem c_readWeight {Γ : GG} {S : St} {n g : Nat} {b : Nat → Nat} (hb : BtR S n b) (hg : g ≤ n) (h0 : S.1 67 20 = 0) (ht : Tok S b n g) : kX10_readWeight Γ [.ref (Γ.1 67)] S (eV (tlR S b n (tel b n g))) := by
  refine oX10_readWeight (fun X hX hE => ?_)
  have cw := c_word (Γ := Γ) hb hg ht
  have h400 := hb.1
  obtain ⟨z1, z2⟩ := nx_ok (b := b) hg
  have bad : ∀ T (w : Int64) (a : Int32), ¬ (tel b n g).1 = 0 → (tel b n g).1 ≤ 2 → T.1 67 20 = nI (tel b n g).1 → T.1 67 21 = nI (tel b n g).2.1 → Fq [] Otr S T → G Γ X T 150 [(0, .ref (Γ.1 67)), (1, .long w), (3, .int a)] [] := by
    intro T w a hne hle t20 t21 hF
    have hn0 : ¬ T.1 67 20 = 0 := by rw [t20]; exact nI_ne0 (by omega) (by omega)
    have hp0 : 0 < T.1 67 20 := by rw [t20]; exact nI_lt (a := 0) (by omega) (by omega)
    refine g_aload_n (i := 0) hX dX10_readWeight_150 rfl rfl ?_
    refine g_iconst hX dX10_readWeight_151 ic0 ?_
    refine g_bipush hX dX10_readWeight_152 bp99 ?_
    refine sX10_192 hX ⟨Nat.le_of_ble_eq_true rfl, Nat.le_of_ble_eq_true rfl⟩ (Nat.le_of_ble_eq_true rfl) dX10_readWeight_154 (c_numberIn_f hp0) ?_
    refine g_istore hX dX10_readWeight_157 (by decide) rfl ?_
    refine g_aload_n (i := 0) hX dX10_readWeight_159 rfl rfl ?_
    refine fX10_161 hX dX10_readWeight_160 ?_
    refine g_if_ne (tgt := 183) hX dX10_readWeight_163 (by decide) (fun _ => ?_) (fun h9 => absurd h9 (hn0))
    refine g_aload_n (i := 0) hX dX10_readWeight_183 rfl rfl ?_
    refine fX10_161 hX dX10_readWeight_184 ?_
    refine g_if_ne (tgt := 198) hX dX10_readWeight_187 (by decide) (fun _ => ?_) (fun h9 => absurd h9 (hn0))
    refine g_vret (st := []) hX hE rfl dX10_readWeight_198 (⟨rfl, fun z => absurd z hne, fun _ => ⟨t20, t21⟩, hF.mono (fun _ z => by cases z) (fun _ z => Or.inl z)⟩)
  have good : ∀ T (w : Int64) gw p s, gw ≤ n → p < 4 → s < wHi p → Tok T b n gw → T.1 67 20 = 0 → Fq [] Otr S T → tel b n g = telE b n gw p s → G Γ X T 150 [(0, .ref (Γ.1 67)), (1, .long w), (3, .int (nI (wOff p + s)))] [] := by
    intro T w gw p s hgw hp hs tT t20 hF et
    have hbT := hb.q hF (by decide)
    have ha := wOff_lt p hp s hs
    obtain ⟨y1, y2⟩ := nx_ok (b := b) hgw
    have hle := numF_le b n gw 0 99
    refine g_aload_n (i := 0) hX dX10_readWeight_150 rfl rfl ?_
    refine g_iconst hX dX10_readWeight_151 ic0 ?_
    refine g_bipush hX dX10_readWeight_152 bp99 ?_
    refine g_numIn (l := 0) (h := 99) hX ⟨Nat.le_of_ble_eq_true rfl, Nat.le_of_ble_eq_true rfl⟩ (Nat.le_of_ble_eq_true rfl) dX10_readWeight_154 hbT hgw t20 tT (by decide) (by decide) (fun q v U u20 u21 hFU => ?_) (fun q U tU u20 hFU => ?_)
    · have e : tel b n g = (numF b n gw 0 99, gw, 0, 0, 0) := by rw [et]; exact if_neg q
      rw [e] at hE
      have hn0 : ¬ U.1 67 20 = 0 := by rw [u20]; exact nI_ne0 (by omega) (by omega)
      refine g_istore hX dX10_readWeight_157 (by decide) rfl ?_
      refine g_aload_n (i := 0) hX dX10_readWeight_159 rfl rfl ?_
      refine fX10_161 hX dX10_readWeight_160 ?_
      refine g_if_ne (tgt := 183) hX dX10_readWeight_163 (by decide) (fun _ => ?_) (fun h9 => absurd h9 (hn0))
      refine g_aload_n (i := 0) hX dX10_readWeight_183 rfl rfl ?_
      refine fX10_161 hX dX10_readWeight_184 ?_
      refine g_if_ne (tgt := 198) hX dX10_readWeight_187 (by decide) (fun _ => ?_) (fun h9 => absurd h9 (hn0))
      refine g_vret (st := []) hX hE rfl dX10_readWeight_198 (⟨rfl, fun z => absurd z q, fun _ => ⟨u20, u21⟩, (hF.tr hFU).mono (fun _ z => by cases z) (fun _ z => Or.inl z)⟩)
    · have hbU := hb.q (hF.tr hFU) (by decide)
      have hk4 := tkK_le b n (nx b n gw)
      by_cases q2 : tkK b n (nx b n gw) = 3
      · have e : tel b n g = (0, nx b n gw, p, s, vl b n gw) := by rw [et]; unfold telE; rw [if_pos q, if_pos q2]
        rw [e] at hE
        have cN := c_nextR (Γ := Γ) hbU (tkE_ok (b := b) y2).2 tU.2.1
        refine g_istore hX dX10_readWeight_157 (by decide) rfl ?_
        refine g_aload_n (i := 0) hX dX10_readWeight_159 rfl rfl ?_
        refine fX10_161 hX dX10_readWeight_160 ?_
        refine g_if_ne (tgt := 183) hX dX10_readWeight_163 (by decide) (fun h9 => absurd (u20) h9) (fun _ => ?_)
        refine g_aload_n (i := 0) hX dX10_readWeight_166 rfl rfl ?_
        refine g_aload_n (i := 0) hX dX10_readWeight_167 rfl rfl ?_
        refine fX10_149 hX dX10_readWeight_168 ?_
        refine g_iconst hX dX10_readWeight_171 ic4 ?_
        refine g_icmp_ne (tgt := 179) hX dX10_readWeight_172 (by decide) (fun h9 => absurd ((by rw [tU.kind, q2]; rfl)) h9) (fun _ => ?_)
        refine g_iconst hX dX10_readWeight_175 ic1 ?_
        refine g_goto (tgt := 180) hX dX10_readWeight_176 (by decide) ?_
        refine eX10_174 hX ⟨Nat.le_of_ble_eq_true rfl, Nat.le_of_ble_eq_true rfl⟩ (Nat.le_of_ble_eq_true rfl) dX10_readWeight_180 ((c_must_t u20 cN)) (fun V hV => ?_)
        obtain ⟨a1, a2, a3, a4, hFV⟩ := hV
        have v20 : V.1 67 20 = 0 := by rw [(hFV.s (k := 67) (j := 20) (by decide)).1]; exact u20
        have hF3 : Fq [] Otr S V := (hF.tr hFU).tr (hFV.mono (fun _ z => z) (by decide))
        refine g_aload_n (i := 0) hX dX10_readWeight_183 rfl rfl ?_
        refine fX10_161 hX dX10_readWeight_184 ?_
        refine g_if_ne (tgt := 198) hX dX10_readWeight_187 (by decide) (fun h9 => absurd (v20) h9) (fun _ => ?_)
        refine g_aload_n (i := 0) hX dX10_readWeight_190 rfl rfl ?_
        refine fX10_34 hX dX10_readWeight_191 ?_
        refine g_iload_n (i := 3) hX dX10_readWeight_194 rfl rfl ?_
        refine g_iload hX dX10_readWeight_195 rfl ?_
        refine g_iastoreN hX (ia76) rfl ((show wOff p + s < 49 from ha)) (by first | decide | assumption | omega) dX10_readWeight_197 ?_
        refine g_vret (st := []) hX hE rfl dX10_readWeight_198 (⟨rfl, fun _ => ⟨⟨?_, ?_, ?_, ?_⟩, ?_, fun r => ?_⟩, fun z => absurd rfl z, ?_⟩)
        · rw [pR_ne _ _ (by decide)]; exact a1
        · rw [pR_ne _ _ (by decide)]; exact a2
        · rw [pR_ne _ _ (by decide)]; exact a3
        · rw [pR_ne _ _ (by decide)]; exact a4
        · rw [pR_ne _ _ (by decide)]; exact v20
        · have e76 : V.1 76 = S.1 76 := hF3.r (by decide)
          show _ = if r = wOff p + s then nI (vl b n gw) else S.1 76 r
          rw [pR_self]
          by_cases er : r = wOff p + s
          · rw [er, upd_self, if_pos rfl]
          · rw [upd_ne _ _ er, if_neg er, e76]
        · exact (hF3.mono (fun _ z => by cases z) (fun _ z => Or.inl z)).R (by decide)
      · have e : tel b n g = (1, nx b n gw, 0, 0, 0) := by rw [et]; unfold telE; rw [if_pos q, if_neg q2]
        rw [e] at hE
        have cm := c_must_f (Γ := Γ) u20
        rw [tU.1] at cm
        have m0 : ¬ (pI (pI U 67 20 1) 67 21 (nI (nx b n gw))).1 67 20 = 0 := by rw [pR_self, upd_ne _ _ (by decide), pR_self, upd_self]; decide
        refine g_istore hX dX10_readWeight_157 (by decide) rfl ?_
        refine g_aload_n (i := 0) hX dX10_readWeight_159 rfl rfl ?_
        refine fX10_161 hX dX10_readWeight_160 ?_
        refine g_if_ne (tgt := 183) hX dX10_readWeight_163 (by decide) (fun h9 => absurd (u20) h9) (fun _ => ?_)
        refine g_aload_n (i := 0) hX dX10_readWeight_166 rfl rfl ?_
        refine g_aload_n (i := 0) hX dX10_readWeight_167 rfl rfl ?_
        refine fX10_149 hX dX10_readWeight_168 ?_
        refine g_iconst hX dX10_readWeight_171 ic4 ?_
        refine g_icmp_ne (tgt := 179) hX dX10_readWeight_172 (by decide) (fun _ => ?_) (fun h9 => absurd h9 ((by rw [tU.kind]; exact nI_ne (b := 4) (by unfold kiR; omega) (by decide) (by unfold kiR; omega))))
        refine g_iconst hX dX10_readWeight_179 ic0 ?_
        refine sX10_174 hX ⟨Nat.le_of_ble_eq_true rfl, Nat.le_of_ble_eq_true rfl⟩ (Nat.le_of_ble_eq_true rfl) dX10_readWeight_180 (cm) ?_
        refine g_aload_n (i := 0) hX dX10_readWeight_183 rfl rfl ?_
        refine fX10_161 hX dX10_readWeight_184 ?_
        refine g_if_ne (tgt := 198) hX dX10_readWeight_187 (by decide) (fun _ => ?_) (fun h9 => absurd h9 (m0))
        refine g_vret (st := []) hX hE rfl dX10_readWeight_198 (⟨rfl, fun z => absurd z Nat.one_ne_zero, fun _ => ⟨?_, ?_⟩, ?_⟩)
        · rw [pR_self, upd_ne _ _ (by decide), pR_self, upd_self]; rfl
        · rw [pR_self, upd_self]
        · exact (((hF.tr hFU).I (by decide)).I (by decide)).mono (fun _ z => by cases z) (fun _ z => Or.inl z)
  have cm := c_must_t (Γ := Γ) h0 (c_nextR (Γ := Γ) hb (tkE_ok (b := b) hg).2 ht.2.1)
  have one : ∀ T w lo hi p (x : Int32), Tok T b n (nx b n g) → T.1 67 20 = 0 → Fq [] Otr S T → tel b n g = tel1 b n (nx b n g) lo hi p → p < 4 → hi < wHi p → True → lo < 100 → hi < 100 →
      ∀ pc, (∀ U v, G Γ X U 150 [(0, .ref (Γ.1 67)), (1, .long w), (3, .int (nI (wOff p) + v))] [] → G Γ X U (pc + 3) [(0, .ref (Γ.1 67)), (1, .long w), (3, .int x)] [.int v, .int (nI (wOff p))]) → decode cX10_readWeight pc = .ok (.invokevirtual 192, 3) → G Γ X T pc [(0, .ref (Γ.1 67)), (1, .long w), (3, .int x)] [.int (nI hi), .int (nI lo), .ref (Γ.1 67), .int (nI (wOff p))] := by
    intro T w lo hi p x tT t20 hF et hp hs _ hlo hhi pc go hd
    have hbT := hb.q hF (by decide)
    have hle := numF_le b n (nx b n g) lo hi
    refine g_numIn (l := lo) (h := hi) hX ⟨Nat.le_of_ble_eq_true rfl, Nat.le_of_ble_eq_true rfl⟩ (Nat.le_of_ble_eq_true rfl) hd hbT z2 t20 tT hlo hhi (fun q v U u20 u21 hFU => ?_) (fun q U tU u20 hFU => ?_)
    · have e : tel b n g = (numF b n (nx b n g) lo hi, nx b n g, 0, 0, 0) := by rw [et]; exact if_neg q
      exact go U v (bad U w _ (by rw [e]; exact q) (by rw [e]; exact hle) (by rw [e]; exact u20) (by rw [e]; exact u21) (hF.tr hFU))
    · refine go U _ ?_
      obtain ⟨-, k1, k2⟩ := numF_0 q
      rw [nI_add2]
      exact good U w _ p _ (nx_ok z2).2 hp (by omega) tU u20 (hF.tr hFU) (by rw [et]; exact if_pos q)
  have hw5 := wdN_le b n g
  by_cases hw : wdN b n g = 5
  · have et : tel b n g = (1, g, 0, 0, 0) := by unfold tel; rw [hw]; rfl
    have hno := wd_no (fun j hj => (hb.2.2 j hj).2) hg hw
    have hlt : wdV b n g < 2 ^ 63 := by
      unfold wdV
      split
      · rename_i q
        have h9 := wL_lt (f := fun j => b (g + j)) (tkE b n g - g) (fun j hj => (hb.2.2 (g + j) (by have := (tkE_ok (b := b) hg).2; omega)).2)
        have h7 : 256 ^ (tkE b n g - g) ≤ 256 ^ 7 := Nat.pow_le_pow_right (by decide) (by omega)
        omega
      · decide
    have ne : ∀ i, i < 5 → ¬ Int64.ofNat (wdV b n g) = Int64.ofNat (cdN i) := fun i hi e => hno i hi (l64_inj hlt (cd_ok i hi).1 e)
    have n0 := lcmp_ne (ne 0 (by decide))
    have n1 := lcmp_ne (ne 1 (by decide))
    have n2 := lcmp_ne (ne 2 (by decide))
    have n3 := lcmp_ne (ne 3 (by decide))
    have n4 := lcmp_ne (ne 4 (by decide))
    generalize Int64.ofNat (wdV b n g) = w at *
    have cm0 := c_must_f (Γ := Γ) h0
    rw [ht.1] at cm0
    refine g_aload_n (i := 0) hX dX10_readWeight_0 rfl rfl ?_
    refine sX10_178 hX ⟨Nat.le_of_ble_eq_true rfl, Nat.le_of_ble_eq_true rfl⟩ (Nat.le_of_ble_eq_true rfl) dX10_readWeight_1 (cw) ?_
    refine g_lstore_n (i := 1) hX dX10_readWeight_4 rfl (by decide) rfl ?_
    refine g_aload_n (i := 0) hX dX10_readWeight_5 rfl rfl ?_
    refine g_lload_n (i := 1) hX dX10_readWeight_6 rfl rfl ?_
    refine g_ldc2_w hX ccX10_182 dX10_readWeight_7 ?_
    refine g_lcmp hX dX10_readWeight_10 ?_
    refine g_if_eq (tgt := 46) hX dX10_readWeight_11 (by decide) (fun h9 => absurd h9 (n0)) (fun _ => ?_)
    refine g_lload_n (i := 1) hX dX10_readWeight_14 rfl rfl ?_
    refine g_ldc2_w hX ccX10_184 dX10_readWeight_15 ?_
    refine g_lcmp hX dX10_readWeight_18 ?_
    refine g_if_eq (tgt := 46) hX dX10_readWeight_19 (by decide) (fun h9 => absurd h9 (n1)) (fun _ => ?_)
    refine g_lload_n (i := 1) hX dX10_readWeight_22 rfl rfl ?_
    refine g_ldc2_w hX ccX10_186 dX10_readWeight_23 ?_
    refine g_lcmp hX dX10_readWeight_26 ?_
    refine g_if_eq (tgt := 46) hX dX10_readWeight_27 (by decide) (fun h9 => absurd h9 (n2)) (fun _ => ?_)
    refine g_lload_n (i := 1) hX dX10_readWeight_30 rfl rfl ?_
    refine g_ldc2_w hX ccX10_188 dX10_readWeight_31 ?_
    refine g_lcmp hX dX10_readWeight_34 ?_
    refine g_if_eq (tgt := 46) hX dX10_readWeight_35 (by decide) (fun h9 => absurd h9 (n3)) (fun _ => ?_)
    refine g_lload_n (i := 1) hX dX10_readWeight_38 rfl rfl ?_
    refine g_ldc2_w hX ccX10_190 dX10_readWeight_39 ?_
    refine g_lcmp hX dX10_readWeight_42 ?_
    refine g_if_ne (tgt := 50) hX dX10_readWeight_43 (by decide) (fun _ => ?_) (fun h9 => absurd h9 (n4))
    refine g_iconst hX dX10_readWeight_50 ic0 ?_
    refine sX10_174 hX ⟨Nat.le_of_ble_eq_true rfl, Nat.le_of_ble_eq_true rfl⟩ (Nat.le_of_ble_eq_true rfl) dX10_readWeight_51 (cm0) ?_
    refine g_bipush hX dX10_readWeight_54 bp20 ?_
    refine g_istore_n (i := 3) hX dX10_readWeight_56 rfl (by decide) rfl ?_
    refine g_lload_n (i := 1) hX dX10_readWeight_57 rfl rfl ?_
    refine g_ldc2_w hX ccX10_182 dX10_readWeight_58 ?_
    refine g_lcmp hX dX10_readWeight_61 ?_
    refine g_if_eq (tgt := 73) hX dX10_readWeight_62 (by decide) (fun h9 => absurd h9 (n0)) (fun _ => ?_)
    refine g_lload_n (i := 1) hX dX10_readWeight_65 rfl rfl ?_
    refine g_ldc2_w hX ccX10_184 dX10_readWeight_66 ?_
    refine g_lcmp hX dX10_readWeight_69 ?_
    refine g_if_ne (tgt := 99) hX dX10_readWeight_70 (by decide) (fun _ => ?_) (fun h9 => absurd h9 (n1))
    refine g_lload_n (i := 1) hX dX10_readWeight_99 rfl rfl ?_
    refine g_ldc2_w hX ccX10_188 dX10_readWeight_100 ?_
    refine g_lcmp hX dX10_readWeight_103 ?_
    refine g_if_ne (tgt := 121) hX dX10_readWeight_104 (by decide) (fun _ => ?_) (fun h9 => absurd h9 (n3))
    refine g_lload_n (i := 1) hX dX10_readWeight_121 rfl rfl ?_
    refine g_ldc2_w hX ccX10_190 dX10_readWeight_122 ?_
    refine g_lcmp hX dX10_readWeight_125 ?_
    refine g_if_ne (tgt := 150) hX dX10_readWeight_126 (by decide) (fun _ => ?_) (fun h9 => absurd h9 (n4))
    refine g_weak (bad (pI (pI S 67 20 1) 67 21 (nI g)) w _ (by rw [et]; exact Nat.one_ne_zero) (by rw [et]; show 1 ≤ 2; decide) ?_ ?_ ((Fq.rf.I (by decide)).I (by decide))) (as_c rfl (as_c rfl (as_c rfl (as_n))))
    · rw [et, pR_self, upd_ne _ _ (by decide), pR_self, upd_self]; rfl
    · rw [et, pR_self, upd_self]
  · rcases (by omega : wdN b n g = 0 ∨ wdN b n g = 1 ∨ wdN b n g = 2 ∨ wdN b n g = 3 ∨ wdN b n g = 4) with hw | hw | hw | hw | hw
    · rw [wd_is (by decide) hw, show Int64.ofNat (cdN 0) = (6775152 : Int64) by decide] at cw
      have et : tel b n g = tel1 b n (nx b n g) 0 9 0 := by unfold tel; rw [hw]; rfl
      refine g_aload_n (i := 0) hX dX10_readWeight_0 rfl rfl ?_
      refine sX10_178 hX ⟨Nat.le_of_ble_eq_true rfl, Nat.le_of_ble_eq_true rfl⟩ (Nat.le_of_ble_eq_true rfl) dX10_readWeight_1 (cw) ?_
      refine g_lstore_n (i := 1) hX dX10_readWeight_4 rfl (by decide) rfl ?_
      refine g_aload_n (i := 0) hX dX10_readWeight_5 rfl rfl ?_
      refine g_lload_n (i := 1) hX dX10_readWeight_6 rfl rfl ?_
      refine g_ldc2_w hX ccX10_182 dX10_readWeight_7 ?_
      refine g_lcmp hX dX10_readWeight_10 ?_
      refine g_if_eq (tgt := 46) hX dX10_readWeight_11 (by decide) (fun _ => ?_) (fun h9 => absurd ((by decide)) h9)
      refine g_iconst hX dX10_readWeight_46 ic1 ?_
      refine g_goto (tgt := 51) hX dX10_readWeight_47 (by decide) ?_
      refine eX10_174 hX ⟨Nat.le_of_ble_eq_true rfl, Nat.le_of_ble_eq_true rfl⟩ (Nat.le_of_ble_eq_true rfl) dX10_readWeight_51 (cm) (fun T hT => ?_)
      obtain ⟨a1, a2, a3, a4, hF⟩ := hT
      refine g_bipush hX dX10_readWeight_54 bp20 ?_
      refine g_istore_n (i := 3) hX dX10_readWeight_56 rfl (by decide) rfl ?_
      refine g_lload_n (i := 1) hX dX10_readWeight_57 rfl rfl ?_
      refine g_ldc2_w hX ccX10_182 dX10_readWeight_58 ?_
      refine g_lcmp hX dX10_readWeight_61 ?_
      refine g_if_eq (tgt := 73) hX dX10_readWeight_62 (by decide) (fun _ => ?_) (fun h9 => absurd ((by decide)) h9)
      refine g_lload_n (i := 1) hX dX10_readWeight_73 rfl rfl ?_
      refine g_ldc2_w hX ccX10_182 dX10_readWeight_74 ?_
      refine g_lcmp hX dX10_readWeight_77 ?_
      refine g_if_ne (tgt := 85) hX dX10_readWeight_78 (by decide) (fun h9 => absurd ((by decide)) h9) (fun _ => ?_)
      refine g_iconst hX dX10_readWeight_81 ic0 ?_
      refine g_goto (tgt := 87) hX dX10_readWeight_82 (by decide) ?_
      refine g_aload_n (i := 0) hX dX10_readWeight_87 rfl rfl ?_
      refine g_iconst hX dX10_readWeight_88 ic0 ?_
      refine g_bipush hX dX10_readWeight_89 bp9 ?_
      refine g_weak (one T _ 0 9 0 20 ⟨a1, a2, a3, a4⟩ (by rw [(hF.s (k := 67) (j := 20) (by decide)).1]; exact h0) (hF.mono (fun _ z => z) (by decide)) et (by decide) (by decide) trivial (by decide) (by decide) 91 (fun U v hG => ?_) dX10_readWeight_91) (as_c rfl (as_c rfl (as_c rfl (as_n))))
      refine g_iadd hX dX10_readWeight_94 ?_
      refine g_istore_n (i := 3) hX dX10_readWeight_95 rfl (by decide) rfl ?_
      refine g_goto (tgt := 150) hX dX10_readWeight_96 (by decide) ?_
      exact g_weak hG (as_c rfl (as_c rfl (as_c rfl (as_n))))
    · rw [wd_is (by decide) hw, show Int64.ofNat (cdN 1) = (431198598248 : Int64) by decide] at cw
      have et : tel b n g = tel1 b n (nx b n g) 0 9 1 := by unfold tel; rw [hw]; rfl
      refine g_aload_n (i := 0) hX dX10_readWeight_0 rfl rfl ?_
      refine sX10_178 hX ⟨Nat.le_of_ble_eq_true rfl, Nat.le_of_ble_eq_true rfl⟩ (Nat.le_of_ble_eq_true rfl) dX10_readWeight_1 (cw) ?_
      refine g_lstore_n (i := 1) hX dX10_readWeight_4 rfl (by decide) rfl ?_
      refine g_aload_n (i := 0) hX dX10_readWeight_5 rfl rfl ?_
      refine g_lload_n (i := 1) hX dX10_readWeight_6 rfl rfl ?_
      refine g_ldc2_w hX ccX10_182 dX10_readWeight_7 ?_
      refine g_lcmp hX dX10_readWeight_10 ?_
      refine g_if_eq (tgt := 46) hX dX10_readWeight_11 (by decide) (fun h9 => absurd h9 ((by decide))) (fun _ => ?_)
      refine g_lload_n (i := 1) hX dX10_readWeight_14 rfl rfl ?_
      refine g_ldc2_w hX ccX10_184 dX10_readWeight_15 ?_
      refine g_lcmp hX dX10_readWeight_18 ?_
      refine g_if_eq (tgt := 46) hX dX10_readWeight_19 (by decide) (fun _ => ?_) (fun h9 => absurd ((by decide)) h9)
      refine g_iconst hX dX10_readWeight_46 ic1 ?_
      refine g_goto (tgt := 51) hX dX10_readWeight_47 (by decide) ?_
      refine eX10_174 hX ⟨Nat.le_of_ble_eq_true rfl, Nat.le_of_ble_eq_true rfl⟩ (Nat.le_of_ble_eq_true rfl) dX10_readWeight_51 (cm) (fun T hT => ?_)
      obtain ⟨a1, a2, a3, a4, hF⟩ := hT
      refine g_bipush hX dX10_readWeight_54 bp20 ?_
      refine g_istore_n (i := 3) hX dX10_readWeight_56 rfl (by decide) rfl ?_
      refine g_lload_n (i := 1) hX dX10_readWeight_57 rfl rfl ?_
      refine g_ldc2_w hX ccX10_182 dX10_readWeight_58 ?_
      refine g_lcmp hX dX10_readWeight_61 ?_
      refine g_if_eq (tgt := 73) hX dX10_readWeight_62 (by decide) (fun h9 => absurd h9 ((by decide))) (fun _ => ?_)
      refine g_lload_n (i := 1) hX dX10_readWeight_65 rfl rfl ?_
      refine g_ldc2_w hX ccX10_184 dX10_readWeight_66 ?_
      refine g_lcmp hX dX10_readWeight_69 ?_
      refine g_if_ne (tgt := 99) hX dX10_readWeight_70 (by decide) (fun h9 => absurd ((by decide)) h9) (fun _ => ?_)
      refine g_lload_n (i := 1) hX dX10_readWeight_73 rfl rfl ?_
      refine g_ldc2_w hX ccX10_182 dX10_readWeight_74 ?_
      refine g_lcmp hX dX10_readWeight_77 ?_
      refine g_if_ne (tgt := 85) hX dX10_readWeight_78 (by decide) (fun _ => ?_) (fun h9 => absurd h9 ((by decide)))
      refine g_bipush hX dX10_readWeight_85 bp10 ?_
      refine g_aload_n (i := 0) hX dX10_readWeight_87 rfl rfl ?_
      refine g_iconst hX dX10_readWeight_88 ic0 ?_
      refine g_bipush hX dX10_readWeight_89 bp9 ?_
      refine g_weak (one T _ 0 9 1 20 ⟨a1, a2, a3, a4⟩ (by rw [(hF.s (k := 67) (j := 20) (by decide)).1]; exact h0) (hF.mono (fun _ z => z) (by decide)) et (by decide) (by decide) trivial (by decide) (by decide) 91 (fun U v hG => ?_) dX10_readWeight_91) (as_c rfl (as_c rfl (as_c rfl (as_n))))
      refine g_iadd hX dX10_readWeight_94 ?_
      refine g_istore_n (i := 3) hX dX10_readWeight_95 rfl (by decide) rfl ?_
      refine g_goto (tgt := 150) hX dX10_readWeight_96 (by decide) ?_
      exact g_weak hG (as_c rfl (as_c rfl (as_c rfl (as_n))))
    · rw [wd_is (by decide) hw, show Int64.ofNat (cdN 2) = (7234935 : Int64) by decide] at cw
      have et : tel b n g = telE b n (nx b n g) 1 10 := by unfold tel; rw [hw]; rfl
      refine g_aload_n (i := 0) hX dX10_readWeight_0 rfl rfl ?_
      refine sX10_178 hX ⟨Nat.le_of_ble_eq_true rfl, Nat.le_of_ble_eq_true rfl⟩ (Nat.le_of_ble_eq_true rfl) dX10_readWeight_1 (cw) ?_
      refine g_lstore_n (i := 1) hX dX10_readWeight_4 rfl (by decide) rfl ?_
      refine g_aload_n (i := 0) hX dX10_readWeight_5 rfl rfl ?_
      refine g_lload_n (i := 1) hX dX10_readWeight_6 rfl rfl ?_
      refine g_ldc2_w hX ccX10_182 dX10_readWeight_7 ?_
      refine g_lcmp hX dX10_readWeight_10 ?_
      refine g_if_eq (tgt := 46) hX dX10_readWeight_11 (by decide) (fun h9 => absurd h9 ((by decide))) (fun _ => ?_)
      refine g_lload_n (i := 1) hX dX10_readWeight_14 rfl rfl ?_
      refine g_ldc2_w hX ccX10_184 dX10_readWeight_15 ?_
      refine g_lcmp hX dX10_readWeight_18 ?_
      refine g_if_eq (tgt := 46) hX dX10_readWeight_19 (by decide) (fun h9 => absurd h9 ((by decide))) (fun _ => ?_)
      refine g_lload_n (i := 1) hX dX10_readWeight_22 rfl rfl ?_
      refine g_ldc2_w hX ccX10_186 dX10_readWeight_23 ?_
      refine g_lcmp hX dX10_readWeight_26 ?_
      refine g_if_eq (tgt := 46) hX dX10_readWeight_27 (by decide) (fun _ => ?_) (fun h9 => absurd ((by decide)) h9)
      refine g_iconst hX dX10_readWeight_46 ic1 ?_
      refine g_goto (tgt := 51) hX dX10_readWeight_47 (by decide) ?_
      refine eX10_174 hX ⟨Nat.le_of_ble_eq_true rfl, Nat.le_of_ble_eq_true rfl⟩ (Nat.le_of_ble_eq_true rfl) dX10_readWeight_51 (cm) (fun T hT => ?_)
      obtain ⟨a1, a2, a3, a4, hF⟩ := hT
      refine g_bipush hX dX10_readWeight_54 bp20 ?_
      refine g_istore_n (i := 3) hX dX10_readWeight_56 rfl (by decide) rfl ?_
      refine g_lload_n (i := 1) hX dX10_readWeight_57 rfl rfl ?_
      refine g_ldc2_w hX ccX10_182 dX10_readWeight_58 ?_
      refine g_lcmp hX dX10_readWeight_61 ?_
      refine g_if_eq (tgt := 73) hX dX10_readWeight_62 (by decide) (fun h9 => absurd h9 ((by decide))) (fun _ => ?_)
      refine g_lload_n (i := 1) hX dX10_readWeight_65 rfl rfl ?_
      refine g_ldc2_w hX ccX10_184 dX10_readWeight_66 ?_
      refine g_lcmp hX dX10_readWeight_69 ?_
      refine g_if_ne (tgt := 99) hX dX10_readWeight_70 (by decide) (fun _ => ?_) (fun h9 => absurd h9 ((by decide)))
      refine g_lload_n (i := 1) hX dX10_readWeight_99 rfl rfl ?_
      refine g_ldc2_w hX ccX10_188 dX10_readWeight_100 ?_
      refine g_lcmp hX dX10_readWeight_103 ?_
      refine g_if_ne (tgt := 121) hX dX10_readWeight_104 (by decide) (fun _ => ?_) (fun h9 => absurd h9 ((by decide)))
      refine g_lload_n (i := 1) hX dX10_readWeight_121 rfl rfl ?_
      refine g_ldc2_w hX ccX10_190 dX10_readWeight_122 ?_
      refine g_lcmp hX dX10_readWeight_125 ?_
      refine g_if_ne (tgt := 150) hX dX10_readWeight_126 (by decide) (fun _ => ?_) (fun h9 => absurd h9 ((by decide)))
      exact g_weak (good T _ (nx b n g) 1 10 z2 (by decide) (by decide) ⟨a1, a2, a3, a4⟩ (by rw [(hF.s (k := 67) (j := 20) (by decide)).1]; exact h0) (hF.mono (fun _ z => z) (by decide)) et) (as_c rfl (as_c rfl (as_c rfl (as_n))))
    · rw [wd_is (by decide) hw, show Int64.ofNat (cdN 3) = (444300878196 : Int64) by decide] at cw
      have et : tel b n g = tel1 b n (nx b n g) 1 9 2 := by unfold tel; rw [hw]; rfl
      refine g_aload_n (i := 0) hX dX10_readWeight_0 rfl rfl ?_
      refine sX10_178 hX ⟨Nat.le_of_ble_eq_true rfl, Nat.le_of_ble_eq_true rfl⟩ (Nat.le_of_ble_eq_true rfl) dX10_readWeight_1 (cw) ?_
      refine g_lstore_n (i := 1) hX dX10_readWeight_4 rfl (by decide) rfl ?_
      refine g_aload_n (i := 0) hX dX10_readWeight_5 rfl rfl ?_
      refine g_lload_n (i := 1) hX dX10_readWeight_6 rfl rfl ?_
      refine g_ldc2_w hX ccX10_182 dX10_readWeight_7 ?_
      refine g_lcmp hX dX10_readWeight_10 ?_
      refine g_if_eq (tgt := 46) hX dX10_readWeight_11 (by decide) (fun h9 => absurd h9 ((by decide))) (fun _ => ?_)
      refine g_lload_n (i := 1) hX dX10_readWeight_14 rfl rfl ?_
      refine g_ldc2_w hX ccX10_184 dX10_readWeight_15 ?_
      refine g_lcmp hX dX10_readWeight_18 ?_
      refine g_if_eq (tgt := 46) hX dX10_readWeight_19 (by decide) (fun h9 => absurd h9 ((by decide))) (fun _ => ?_)
      refine g_lload_n (i := 1) hX dX10_readWeight_22 rfl rfl ?_
      refine g_ldc2_w hX ccX10_186 dX10_readWeight_23 ?_
      refine g_lcmp hX dX10_readWeight_26 ?_
      refine g_if_eq (tgt := 46) hX dX10_readWeight_27 (by decide) (fun h9 => absurd h9 ((by decide))) (fun _ => ?_)
      refine g_lload_n (i := 1) hX dX10_readWeight_30 rfl rfl ?_
      refine g_ldc2_w hX ccX10_188 dX10_readWeight_31 ?_
      refine g_lcmp hX dX10_readWeight_34 ?_
      refine g_if_eq (tgt := 46) hX dX10_readWeight_35 (by decide) (fun _ => ?_) (fun h9 => absurd ((by decide)) h9)
      refine g_iconst hX dX10_readWeight_46 ic1 ?_
      refine g_goto (tgt := 51) hX dX10_readWeight_47 (by decide) ?_
      refine eX10_174 hX ⟨Nat.le_of_ble_eq_true rfl, Nat.le_of_ble_eq_true rfl⟩ (Nat.le_of_ble_eq_true rfl) dX10_readWeight_51 (cm) (fun T hT => ?_)
      obtain ⟨a1, a2, a3, a4, hF⟩ := hT
      refine g_bipush hX dX10_readWeight_54 bp20 ?_
      refine g_istore_n (i := 3) hX dX10_readWeight_56 rfl (by decide) rfl ?_
      refine g_lload_n (i := 1) hX dX10_readWeight_57 rfl rfl ?_
      refine g_ldc2_w hX ccX10_182 dX10_readWeight_58 ?_
      refine g_lcmp hX dX10_readWeight_61 ?_
      refine g_if_eq (tgt := 73) hX dX10_readWeight_62 (by decide) (fun h9 => absurd h9 ((by decide))) (fun _ => ?_)
      refine g_lload_n (i := 1) hX dX10_readWeight_65 rfl rfl ?_
      refine g_ldc2_w hX ccX10_184 dX10_readWeight_66 ?_
      refine g_lcmp hX dX10_readWeight_69 ?_
      refine g_if_ne (tgt := 99) hX dX10_readWeight_70 (by decide) (fun _ => ?_) (fun h9 => absurd h9 ((by decide)))
      refine g_lload_n (i := 1) hX dX10_readWeight_99 rfl rfl ?_
      refine g_ldc2_w hX ccX10_188 dX10_readWeight_100 ?_
      refine g_lcmp hX dX10_readWeight_103 ?_
      refine g_if_ne (tgt := 121) hX dX10_readWeight_104 (by decide) (fun h9 => absurd ((by decide)) h9) (fun _ => ?_)
      refine g_bipush hX dX10_readWeight_107 bp30 ?_
      refine g_aload_n (i := 0) hX dX10_readWeight_109 rfl rfl ?_
      refine g_iconst hX dX10_readWeight_110 ic1 ?_
      refine g_bipush hX dX10_readWeight_111 bp9 ?_
      refine g_weak (one T _ 1 9 2 20 ⟨a1, a2, a3, a4⟩ (by rw [(hF.s (k := 67) (j := 20) (by decide)).1]; exact h0) (hF.mono (fun _ z => z) (by decide)) et (by decide) (by decide) trivial (by decide) (by decide) 113 (fun U v hG => ?_) dX10_readWeight_113) (as_c rfl (as_c rfl (as_c rfl (as_n))))
      refine g_iadd hX dX10_readWeight_116 ?_
      refine g_istore_n (i := 3) hX dX10_readWeight_117 rfl (by decide) rfl ?_
      refine g_goto (tgt := 150) hX dX10_readWeight_118 (by decide) ?_
      exact g_weak hG (as_c rfl (as_c rfl (as_c rfl (as_n))))
    · rw [wd_is (by decide) hw, show Int64.ofNat (cdN 4) = (2002873451 : Int64) by decide] at cw
      have et : tel b n g = tel2 b n (nx b n g) := by unfold tel; rw [hw]; rfl
      refine g_aload_n (i := 0) hX dX10_readWeight_0 rfl rfl ?_
      refine sX10_178 hX ⟨Nat.le_of_ble_eq_true rfl, Nat.le_of_ble_eq_true rfl⟩ (Nat.le_of_ble_eq_true rfl) dX10_readWeight_1 (cw) ?_
      refine g_lstore_n (i := 1) hX dX10_readWeight_4 rfl (by decide) rfl ?_
      refine g_aload_n (i := 0) hX dX10_readWeight_5 rfl rfl ?_
      refine g_lload_n (i := 1) hX dX10_readWeight_6 rfl rfl ?_
      refine g_ldc2_w hX ccX10_182 dX10_readWeight_7 ?_
      refine g_lcmp hX dX10_readWeight_10 ?_
      refine g_if_eq (tgt := 46) hX dX10_readWeight_11 (by decide) (fun h9 => absurd h9 ((by decide))) (fun _ => ?_)
      refine g_lload_n (i := 1) hX dX10_readWeight_14 rfl rfl ?_
      refine g_ldc2_w hX ccX10_184 dX10_readWeight_15 ?_
      refine g_lcmp hX dX10_readWeight_18 ?_
      refine g_if_eq (tgt := 46) hX dX10_readWeight_19 (by decide) (fun h9 => absurd h9 ((by decide))) (fun _ => ?_)
      refine g_lload_n (i := 1) hX dX10_readWeight_22 rfl rfl ?_
      refine g_ldc2_w hX ccX10_186 dX10_readWeight_23 ?_
      refine g_lcmp hX dX10_readWeight_26 ?_
      refine g_if_eq (tgt := 46) hX dX10_readWeight_27 (by decide) (fun h9 => absurd h9 ((by decide))) (fun _ => ?_)
      refine g_lload_n (i := 1) hX dX10_readWeight_30 rfl rfl ?_
      refine g_ldc2_w hX ccX10_188 dX10_readWeight_31 ?_
      refine g_lcmp hX dX10_readWeight_34 ?_
      refine g_if_eq (tgt := 46) hX dX10_readWeight_35 (by decide) (fun h9 => absurd h9 ((by decide))) (fun _ => ?_)
      refine g_lload_n (i := 1) hX dX10_readWeight_38 rfl rfl ?_
      refine g_ldc2_w hX ccX10_190 dX10_readWeight_39 ?_
      refine g_lcmp hX dX10_readWeight_42 ?_
      refine g_if_ne (tgt := 50) hX dX10_readWeight_43 (by decide) (fun h9 => absurd ((by decide)) h9) (fun _ => ?_)
      refine g_iconst hX dX10_readWeight_46 ic1 ?_
      refine g_goto (tgt := 51) hX dX10_readWeight_47 (by decide) ?_
      refine eX10_174 hX ⟨Nat.le_of_ble_eq_true rfl, Nat.le_of_ble_eq_true rfl⟩ (Nat.le_of_ble_eq_true rfl) dX10_readWeight_51 (cm) (fun T hT => ?_)
      obtain ⟨a1, a2, a3, a4, hF0⟩ := hT
      have hF : Fq [] Otr S T := hF0.mono (fun _ z => z) (by decide)
      have t20 : T.1 67 20 = 0 := by rw [(hF0.s (k := 67) (j := 20) (by decide)).1]; exact h0
      have hbT := hb.q hF (by decide)
      refine g_bipush hX dX10_readWeight_54 bp20 ?_
      refine g_istore_n (i := 3) hX dX10_readWeight_56 rfl (by decide) rfl ?_
      refine g_lload_n (i := 1) hX dX10_readWeight_57 rfl rfl ?_
      refine g_ldc2_w hX ccX10_182 dX10_readWeight_58 ?_
      refine g_lcmp hX dX10_readWeight_61 ?_
      refine g_if_eq (tgt := 73) hX dX10_readWeight_62 (by decide) (fun h9 => absurd h9 ((by decide))) (fun _ => ?_)
      refine g_lload_n (i := 1) hX dX10_readWeight_65 rfl rfl ?_
      refine g_ldc2_w hX ccX10_184 dX10_readWeight_66 ?_
      refine g_lcmp hX dX10_readWeight_69 ?_
      refine g_if_ne (tgt := 99) hX dX10_readWeight_70 (by decide) (fun _ => ?_) (fun h9 => absurd h9 ((by decide)))
      refine g_lload_n (i := 1) hX dX10_readWeight_99 rfl rfl ?_
      refine g_ldc2_w hX ccX10_188 dX10_readWeight_100 ?_
      refine g_lcmp hX dX10_readWeight_103 ?_
      refine g_if_ne (tgt := 121) hX dX10_readWeight_104 (by decide) (fun _ => ?_) (fun h9 => absurd h9 ((by decide)))
      refine g_lload_n (i := 1) hX dX10_readWeight_121 rfl rfl ?_
      refine g_ldc2_w hX ccX10_190 dX10_readWeight_122 ?_
      refine g_lcmp hX dX10_readWeight_125 ?_
      refine g_if_ne (tgt := 150) hX dX10_readWeight_126 (by decide) (fun h9 => absurd ((by decide)) h9) (fun _ => ?_)
      refine g_bipush hX dX10_readWeight_129 bp40 ?_
      refine g_iconst hX dX10_readWeight_131 ic3 ?_
      refine g_aload_n (i := 0) hX dX10_readWeight_132 rfl rfl ?_
      refine g_iconst hX dX10_readWeight_133 ic0 ?_
      refine g_iconst hX dX10_readWeight_134 ic2 ?_
      have hle := numF_le b n (nx b n g) 0 2
      refine g_numIn (l := 0) (h := 2) hX ⟨Nat.le_of_ble_eq_true rfl, Nat.le_of_ble_eq_true rfl⟩ (Nat.le_of_ble_eq_true rfl) dX10_readWeight_135 hbT z2 t20 ⟨a1, a2, a3, a4⟩ (by decide) (by decide) (fun q v U u20 u21 hFU => ?_) (fun q U tU u20 hFU => ?_)
      · have e : tel b n g = (numF b n (nx b n g) 0 2, nx b n g, 0, 0, 0) := by rw [et]; exact if_neg q
        have hp0 : 0 < U.1 67 20 := by rw [u20]; exact nI_lt (a := 0) (by omega) (by omega)
        refine g_imul hX dX10_readWeight_138 ?_
        refine g_iadd hX dX10_readWeight_139 ?_
        refine g_istore_n (i := 3) hX dX10_readWeight_140 rfl (by decide) rfl ?_
        refine g_iload_n (i := 3) hX dX10_readWeight_141 rfl rfl ?_
        refine g_aload_n (i := 0) hX dX10_readWeight_142 rfl rfl ?_
        refine g_iconst hX dX10_readWeight_143 ic0 ?_
        refine g_iconst hX dX10_readWeight_144 ic2 ?_
        refine sX10_192 hX ⟨Nat.le_of_ble_eq_true rfl, Nat.le_of_ble_eq_true rfl⟩ (Nat.le_of_ble_eq_true rfl) dX10_readWeight_145 (c_numberIn_f hp0) ?_
        refine g_iadd hX dX10_readWeight_148 ?_
        refine g_istore_n (i := 3) hX dX10_readWeight_149 rfl (by decide) rfl ?_
        exact g_weak (bad U _ _ (by rw [e]; exact q) (by rw [e]; exact hle) (by rw [e]; exact u20) (by rw [e]; exact u21) (hF.tr hFU)) (as_c rfl (as_c rfl (as_c rfl (as_n))))
      · have hFU2 := hF.tr hFU
        have hbU := hb.q hFU2 (by decide)
        obtain ⟨y1, y2⟩ := nx_ok (b := b) z2
        have hle2 := numF_le b n (nx b n (nx b n g)) 0 2
        obtain ⟨-, k1, k2⟩ := numF_0 q
        refine g_imul hX dX10_readWeight_138 ?_
        refine g_iadd hX dX10_readWeight_139 ?_
        refine g_istore_n (i := 3) hX dX10_readWeight_140 rfl (by decide) rfl ?_
        refine g_iload_n (i := 3) hX dX10_readWeight_141 rfl rfl ?_
        refine g_aload_n (i := 0) hX dX10_readWeight_142 rfl rfl ?_
        refine g_iconst hX dX10_readWeight_143 ic0 ?_
        refine g_iconst hX dX10_readWeight_144 ic2 ?_
        refine g_numIn (l := 0) (h := 2) hX ⟨Nat.le_of_ble_eq_true rfl, Nat.le_of_ble_eq_true rfl⟩ (Nat.le_of_ble_eq_true rfl) dX10_readWeight_145 hbU y2 u20 tU (by decide) (by decide) (fun q2 v V v20 v21 hFV => ?_) (fun q2 V tV v20 hFV => ?_)
        · have e : tel b n g = (numF b n (nx b n (nx b n g)) 0 2, nx b n (nx b n g), 0, 0, 0) := by rw [et]; unfold tel2; rw [if_pos q, if_neg q2]
          refine g_iadd hX dX10_readWeight_148 ?_
          refine g_istore_n (i := 3) hX dX10_readWeight_149 rfl (by decide) rfl ?_
          exact g_weak (bad V _ _ (by rw [e]; exact q2) (by rw [e]; exact hle2) (by rw [e]; exact v20) (by rw [e]; exact v21) (hFU2.tr hFV)) (as_c rfl (as_c rfl (as_c rfl (as_n))))
        · obtain ⟨-, k3, k4⟩ := numF_0 q2
          have e : tel b n g = telE b n (nx b n (nx b n (nx b n g))) 3 (vl b n (nx b n g) * 3 + vl b n (nx b n (nx b n g))) := by rw [et]; unfold tel2; rw [if_pos q, if_pos q2]
          rw [show (40 : Int32) = nI 40 from rfl, show (3 : Int32) = nI 3 from rfl, nI_mul, nI_add2]
          refine g_iadd hX dX10_readWeight_148 ?_
          rw [nI_add2, show 40 + 3 * vl b n (nx b n g) + vl b n (nx b n (nx b n g)) = wOff 3 + (vl b n (nx b n g) * 3 + vl b n (nx b n (nx b n g))) by show _ = 40 + _; omega]
          refine g_istore_n (i := 3) hX dX10_readWeight_149 rfl (by decide) rfl ?_
          exact g_weak (good V _ _ 3 _ (nx_ok y2).2 (by decide) (show _ < 9 by omega) tV v20 (hFU2.tr hFV) e) (as_c rfl (as_c rfl (as_c rfl (as_n))))
