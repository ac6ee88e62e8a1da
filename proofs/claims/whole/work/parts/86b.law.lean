theorem law_model {Γ : GG} {X : XT} (hX : Cx Γ R_law cL_law 4 (some .boolean) 12 434 X) {b L i : Nat} {xs : Nat → Int32} (hC : ScX Γ b L xs X) (hi : i + 6 ≤ L) (next : ∀ S2, Rel S2 → G Γ X S2 1171 (lsL Γ b i) []) {S : St} (hR : Rel S) : G Γ X S 508 (lsL Γ b i) [] := by
  obtain ⟨r, Mid, hc, hr⟩ := step_model (Γ := Γ) S hR
  refine g_aload_n (i := 1) hX dL_law_508 rfl rfl ?_
  refine eL_51 hX ⟨Nat.le_of_ble_eq_true rfl, Nat.le_of_ble_eq_true rfl⟩ (Nat.le_of_ble_eq_true rfl) dL_law_509 ((hc)) (fun r1 S1 h1 => ?_)
  refine g_aload_n (i := 2) hX dL_law_512 rfl rfl ?_
  refine eL_55 hX ⟨Nat.le_of_ble_eq_true rfl, Nat.le_of_ble_eq_true rfl⟩ (Nat.le_of_ble_eq_true rfl) dL_law_513 ((hr S1 h1.2)) (fun r2 S2 h2 => ?_)
  refine g_icmp_eq (tgt := 1171) hX dL_law_516 (by decide) (fun _ => ?_) (fun h9 => absurd ((by rw [h1.1, h2.1])) h9)
  exact next S2 h2.2
theorem law_fault {Γ : GG} {X : XT} (hX : Cx Γ R_law cL_law 4 (some .boolean) 12 434 X) {b L i : Nat} {xs : Nat → Int32} (hC : ScX Γ b L xs X) (hi : i + 6 ≤ L) (next : ∀ S2, Rel S2 → G Γ X S2 1171 (lsL Γ b i) []) {S : St} (hR : Rel S) : G Γ X S 521 (lsL Γ b i) [] := by
  obtain ⟨r, Mid, hc, hr⟩ := step_fault (Γ := Γ) S hR
  refine g_aload_n (i := 1) hX dL_law_521 rfl rfl ?_
  refine eL_56 hX ⟨Nat.le_of_ble_eq_true rfl, Nat.le_of_ble_eq_true rfl⟩ (Nat.le_of_ble_eq_true rfl) dL_law_522 ((hc)) (fun r1 S1 h1 => ?_)
  refine g_aload_n (i := 2) hX dL_law_525 rfl rfl ?_
  refine eL_59 hX ⟨Nat.le_of_ble_eq_true rfl, Nat.le_of_ble_eq_true rfl⟩ (Nat.le_of_ble_eq_true rfl) dL_law_526 ((hr S1 h1.2)) (fun r2 S2 h2 => ?_)
  refine g_icmp_eq (tgt := 1171) hX dL_law_529 (by decide) (fun _ => ?_) (fun h9 => absurd ((by rw [h1.1, h2.1])) h9)
  exact next S2 h2.2
theorem law_weight {Γ : GG} {X : XT} (hX : Cx Γ R_law cL_law 4 (some .boolean) 12 434 X) {b L i : Nat} {xs : Nat → Int32} (hC : ScX Γ b L xs X) (hi : i + 6 ≤ L) (next : ∀ S2, Rel S2 → G Γ X S2 1171 (lsL Γ b i) []) {S : St} (hR : Rel S) : G Γ X S 534 (lsL Γ b i) [] := by
  obtain ⟨r, Mid, hc, hr⟩ := step_weight (Γ := Γ) (xs (i + 1)) (xs (i + 2)) S hR
  refine g_aload_n (i := 1) hX dL_law_534 rfl rfl ?_
  refine g_aload_n (i := 0) hX dL_law_535 rfl rfl ?_
  refine g_iload_n (i := 3) hX dL_law_536 rfl rfl ?_
  refine g_iconst hX dL_law_537 ic1 ?_
  refine g_iadd hX dL_law_538 ?_
  refine g_sld (j := i + 1) hX hC (nI_add2 i 1) (by omega) dL_law_539 ?_
  refine g_aload_n (i := 0) hX dL_law_540 rfl rfl ?_
  refine g_iload_n (i := 3) hX dL_law_541 rfl rfl ?_
  refine g_iconst hX dL_law_542 ic2 ?_
  refine g_iadd hX dL_law_543 ?_
  refine g_sld (j := i + 2) hX hC (nI_add2 i 2) (by omega) dL_law_544 ?_
  refine eL_60 hX ⟨Nat.le_of_ble_eq_true rfl, Nat.le_of_ble_eq_true rfl⟩ (Nat.le_of_ble_eq_true rfl) dL_law_545 ((hc)) (fun r1 S1 h1 => ?_)
  refine g_aload_n (i := 2) hX dL_law_548 rfl rfl ?_
  refine g_aload_n (i := 0) hX dL_law_549 rfl rfl ?_
  refine g_iload_n (i := 3) hX dL_law_550 rfl rfl ?_
  refine g_iconst hX dL_law_551 ic1 ?_
  refine g_iadd hX dL_law_552 ?_
  refine g_sld (j := i + 1) hX hC (nI_add2 i 1) (by omega) dL_law_553 ?_
  refine g_aload_n (i := 0) hX dL_law_554 rfl rfl ?_
  refine g_iload_n (i := 3) hX dL_law_555 rfl rfl ?_
  refine g_iconst hX dL_law_556 ic2 ?_
  refine g_iadd hX dL_law_557 ?_
  refine g_sld (j := i + 2) hX hC (nI_add2 i 2) (by omega) dL_law_558 ?_
  refine eL_64 hX ⟨Nat.le_of_ble_eq_true rfl, Nat.le_of_ble_eq_true rfl⟩ (Nat.le_of_ble_eq_true rfl) dL_law_559 ((hr S1 h1.2)) (fun r2 S2 h2 => ?_)
  refine g_icmp_eq (tgt := 1171) hX dL_law_562 (by decide) (fun _ => ?_) (fun h9 => absurd ((by rw [h1.1, h2.1])) h9)
  exact next S2 h2.2
theorem law_leave {Γ : GG} {X : XT} (hX : Cx Γ R_law cL_law 4 (some .boolean) 12 434 X) {b L i : Nat} {xs : Nat → Int32} (hC : ScX Γ b L xs X) (hi : i + 6 ≤ L) (next : ∀ S2, Rel S2 → G Γ X S2 1171 (lsL Γ b i) []) {S : St} (hR : Rel S) : G Γ X S 567 (lsL Γ b i) [] := by
  obtain ⟨r, Mid, hc, hr⟩ := step_leave (Γ := Γ) (xs (i + 1)) (xs (i + 2)) S hR
  refine g_aload_n (i := 1) hX dL_law_567 rfl rfl ?_
  refine g_aload_n (i := 0) hX dL_law_568 rfl rfl ?_
  refine g_iload_n (i := 3) hX dL_law_569 rfl rfl ?_
  refine g_iconst hX dL_law_570 ic1 ?_
  refine g_iadd hX dL_law_571 ?_
  refine g_sld (j := i + 1) hX hC (nI_add2 i 1) (by omega) dL_law_572 ?_
  refine g_aload_n (i := 0) hX dL_law_573 rfl rfl ?_
  refine g_iload_n (i := 3) hX dL_law_574 rfl rfl ?_
  refine g_iconst hX dL_law_575 ic2 ?_
  refine g_iadd hX dL_law_576 ?_
  refine g_sld (j := i + 2) hX hC (nI_add2 i 2) (by omega) dL_law_577 ?_
  refine eL_65 hX ⟨Nat.le_of_ble_eq_true rfl, Nat.le_of_ble_eq_true rfl⟩ (Nat.le_of_ble_eq_true rfl) dL_law_578 ((hc)) (fun r1 S1 h1 => ?_)
  refine g_aload_n (i := 2) hX dL_law_581 rfl rfl ?_
  refine g_aload_n (i := 0) hX dL_law_582 rfl rfl ?_
  refine g_iload_n (i := 3) hX dL_law_583 rfl rfl ?_
  refine g_iconst hX dL_law_584 ic1 ?_
  refine g_iadd hX dL_law_585 ?_
  refine g_sld (j := i + 1) hX hC (nI_add2 i 1) (by omega) dL_law_586 ?_
  refine g_aload_n (i := 0) hX dL_law_587 rfl rfl ?_
  refine g_iload_n (i := 3) hX dL_law_588 rfl rfl ?_
  refine g_iconst hX dL_law_589 ic2 ?_
  refine g_iadd hX dL_law_590 ?_
  refine g_sld (j := i + 2) hX hC (nI_add2 i 2) (by omega) dL_law_591 ?_
  refine eL_68 hX ⟨Nat.le_of_ble_eq_true rfl, Nat.le_of_ble_eq_true rfl⟩ (Nat.le_of_ble_eq_true rfl) dL_law_592 ((hr S1 h1.2)) (fun r2 S2 h2 => ?_)
  refine g_icmp_eq (tgt := 1171) hX dL_law_595 (by decide) (fun _ => ?_) (fun h9 => absurd ((by rw [h1.1, h2.1])) h9)
  exact next S2 h2.2
theorem law_make {Γ : GG} {X : XT} (hX : Cx Γ R_law cL_law 4 (some .boolean) 12 434 X) {b L i : Nat} {xs : Nat → Int32} (hC : ScX Γ b L xs X) (hi : i + 6 ≤ L) (next : ∀ S2, Rel S2 → G Γ X S2 1171 (lsL Γ b i) []) {S : St} (hR : Rel S) : G Γ X S 600 (lsL Γ b i) [] := by
  obtain ⟨r, Mid, hc, hr⟩ := step_make (Γ := Γ) (((xs (i + 1)).toInt64 <<< ((32 : Int32).toInt64 &&& 63)) ||| ((xs (i + 2)).toInt64 &&& 4294967295)) (xs (i + 3)) S hR
  refine g_aload_n (i := 1) hX dL_law_600 rfl rfl ?_
  refine g_aload_n (i := 0) hX dL_law_601 rfl rfl ?_
  refine g_iload_n (i := 3) hX dL_law_602 rfl rfl ?_
  refine g_iconst hX dL_law_603 ic1 ?_
  refine g_iadd hX dL_law_604 ?_
  refine g_sld (j := i + 1) hX hC (nI_add2 i 1) (by omega) dL_law_605 ?_
  refine g_i2l hX dL_law_606 ?_
  refine g_bipush hX dL_law_607 bp32 ?_
  refine g_lshl hX dL_law_609 ?_
  refine g_aload_n (i := 0) hX dL_law_610 rfl rfl ?_
  refine g_iload_n (i := 3) hX dL_law_611 rfl rfl ?_
  refine g_iconst hX dL_law_612 ic2 ?_
  refine g_iadd hX dL_law_613 ?_
  refine g_sld (j := i + 2) hX hC (nI_add2 i 2) (by omega) dL_law_614 ?_
  refine g_i2l hX dL_law_615 ?_
  refine g_ldc2_w hX ccL_44 dL_law_616 ?_
  refine g_land hX dL_law_619 ?_
  refine g_lor hX dL_law_620 ?_
  refine g_aload_n (i := 0) hX dL_law_621 rfl rfl ?_
  refine g_iload_n (i := 3) hX dL_law_622 rfl rfl ?_
  refine g_iconst hX dL_law_623 ic3 ?_
  refine g_iadd hX dL_law_624 ?_
  refine g_sld (j := i + 3) hX hC (nI_add2 i 3) (by omega) dL_law_625 ?_
  refine eL_69 hX ⟨Nat.le_of_ble_eq_true rfl, Nat.le_of_ble_eq_true rfl⟩ (Nat.le_of_ble_eq_true rfl) dL_law_626 ((hc)) (fun r1 S1 h1 => ?_)
  refine g_aload_n (i := 2) hX dL_law_629 rfl rfl ?_
  refine g_aload_n (i := 0) hX dL_law_630 rfl rfl ?_
  refine g_iload_n (i := 3) hX dL_law_631 rfl rfl ?_
  refine g_iconst hX dL_law_632 ic1 ?_
  refine g_iadd hX dL_law_633 ?_
  refine g_sld (j := i + 1) hX hC (nI_add2 i 1) (by omega) dL_law_634 ?_
  refine g_i2l hX dL_law_635 ?_
  refine g_bipush hX dL_law_636 bp32 ?_
  refine g_lshl hX dL_law_638 ?_
  refine g_aload_n (i := 0) hX dL_law_639 rfl rfl ?_
  refine g_iload_n (i := 3) hX dL_law_640 rfl rfl ?_
  refine g_iconst hX dL_law_641 ic2 ?_
  refine g_iadd hX dL_law_642 ?_
  refine g_sld (j := i + 2) hX hC (nI_add2 i 2) (by omega) dL_law_643 ?_
  refine g_i2l hX dL_law_644 ?_
  refine g_ldc2_w hX ccL_44 dL_law_645 ?_
  refine g_land hX dL_law_648 ?_
  refine g_lor hX dL_law_649 ?_
  refine g_aload_n (i := 0) hX dL_law_650 rfl rfl ?_
  refine g_iload_n (i := 3) hX dL_law_651 rfl rfl ?_
  refine g_iconst hX dL_law_652 ic3 ?_
  refine g_iadd hX dL_law_653 ?_
  refine g_sld (j := i + 3) hX hC (nI_add2 i 3) (by omega) dL_law_654 ?_
  refine eL_72 hX ⟨Nat.le_of_ble_eq_true rfl, Nat.le_of_ble_eq_true rfl⟩ (Nat.le_of_ble_eq_true rfl) dL_law_655 ((hr S1 h1.2)) (fun r2 S2 h2 => ?_)
  refine g_icmp_eq (tgt := 1171) hX dL_law_658 (by decide) (fun _ => ?_) (fun h9 => absurd ((by rw [h1.1, h2.1])) h9)
  exact next S2 h2.2
theorem law_stretch {Γ : GG} {X : XT} (hX : Cx Γ R_law cL_law 4 (some .boolean) 12 434 X) {b L i : Nat} {xs : Nat → Int32} (hC : ScX Γ b L xs X) (hi : i + 6 ≤ L) (next : ∀ S2, Rel S2 → G Γ X S2 1171 (lsL Γ b i) []) {S : St} (hR : Rel S) : G Γ X S 663 (lsL Γ b i) [] := by
  obtain ⟨r, Mid, hc, hr⟩ := step_stretch (Γ := Γ) (xs (i + 1)) S hR
  refine g_aload_n (i := 1) hX dL_law_663 rfl rfl ?_
  refine g_aload_n (i := 0) hX dL_law_664 rfl rfl ?_
  refine g_iload_n (i := 3) hX dL_law_665 rfl rfl ?_
  refine g_iconst hX dL_law_666 ic1 ?_
  refine g_iadd hX dL_law_667 ?_
  refine g_sld (j := i + 1) hX hC (nI_add2 i 1) (by omega) dL_law_668 ?_
  refine eL_73 hX ⟨Nat.le_of_ble_eq_true rfl, Nat.le_of_ble_eq_true rfl⟩ (Nat.le_of_ble_eq_true rfl) dL_law_669 ((hc)) (fun r1 S1 h1 => ?_)
  refine g_aload_n (i := 2) hX dL_law_672 rfl rfl ?_
  refine g_aload_n (i := 0) hX dL_law_673 rfl rfl ?_
  refine g_iload_n (i := 3) hX dL_law_674 rfl rfl ?_
  refine g_iconst hX dL_law_675 ic1 ?_
  refine g_iadd hX dL_law_676 ?_
  refine g_sld (j := i + 1) hX hC (nI_add2 i 1) (by omega) dL_law_677 ?_
  refine eL_76 hX ⟨Nat.le_of_ble_eq_true rfl, Nat.le_of_ble_eq_true rfl⟩ (Nat.le_of_ble_eq_true rfl) dL_law_678 ((hr S1 h1.2)) (fun r2 S2 h2 => ?_)
  refine g_icmp_eq (tgt := 1171) hX dL_law_681 (by decide) (fun _ => ?_) (fun h9 => absurd ((by rw [h1.1, h2.1])) h9)
  exact next S2 h2.2
theorem law_house {Γ : GG} {X : XT} (hX : Cx Γ R_law cL_law 4 (some .boolean) 12 434 X) {b L i : Nat} {xs : Nat → Int32} (hC : ScX Γ b L xs X) (hi : i + 6 ≤ L) (next : ∀ S2, Rel S2 → G Γ X S2 1171 (lsL Γ b i) []) {S : St} (hR : Rel S) : G Γ X S 686 (lsL Γ b i) [] := by
  obtain ⟨r, Mid, hc, hr⟩ := step_house (Γ := Γ) (xs (i + 1)) (xs (i + 2)) (xs (i + 3)) S hR
  refine g_aload_n (i := 1) hX dL_law_686 rfl rfl ?_
  refine g_aload_n (i := 0) hX dL_law_687 rfl rfl ?_
  refine g_iload_n (i := 3) hX dL_law_688 rfl rfl ?_
  refine g_iconst hX dL_law_689 ic1 ?_
  refine g_iadd hX dL_law_690 ?_
  refine g_sld (j := i + 1) hX hC (nI_add2 i 1) (by omega) dL_law_691 ?_
  refine g_aload_n (i := 0) hX dL_law_692 rfl rfl ?_
  refine g_iload_n (i := 3) hX dL_law_693 rfl rfl ?_
  refine g_iconst hX dL_law_694 ic2 ?_
  refine g_iadd hX dL_law_695 ?_
  refine g_sld (j := i + 2) hX hC (nI_add2 i 2) (by omega) dL_law_696 ?_
  refine g_aload_n (i := 0) hX dL_law_697 rfl rfl ?_
  refine g_iload_n (i := 3) hX dL_law_698 rfl rfl ?_
  refine g_iconst hX dL_law_699 ic3 ?_
  refine g_iadd hX dL_law_700 ?_
  refine g_sld (j := i + 3) hX hC (nI_add2 i 3) (by omega) dL_law_701 ?_
  refine eL_77 hX ⟨Nat.le_of_ble_eq_true rfl, Nat.le_of_ble_eq_true rfl⟩ (Nat.le_of_ble_eq_true rfl) dL_law_702 ((hc)) (fun r1 S1 h1 => ?_)
  refine g_aload_n (i := 2) hX dL_law_705 rfl rfl ?_
  refine g_aload_n (i := 0) hX dL_law_706 rfl rfl ?_
  refine g_iload_n (i := 3) hX dL_law_707 rfl rfl ?_
  refine g_iconst hX dL_law_708 ic1 ?_
  refine g_iadd hX dL_law_709 ?_
  refine g_sld (j := i + 1) hX hC (nI_add2 i 1) (by omega) dL_law_710 ?_
  refine g_aload_n (i := 0) hX dL_law_711 rfl rfl ?_
  refine g_iload_n (i := 3) hX dL_law_712 rfl rfl ?_
  refine g_iconst hX dL_law_713 ic2 ?_
  refine g_iadd hX dL_law_714 ?_
  refine g_sld (j := i + 2) hX hC (nI_add2 i 2) (by omega) dL_law_715 ?_
  refine g_aload_n (i := 0) hX dL_law_716 rfl rfl ?_
  refine g_iload_n (i := 3) hX dL_law_717 rfl rfl ?_
  refine g_iconst hX dL_law_718 ic3 ?_
  refine g_iadd hX dL_law_719 ?_
  refine g_sld (j := i + 3) hX hC (nI_add2 i 3) (by omega) dL_law_720 ?_
  refine eL_80 hX ⟨Nat.le_of_ble_eq_true rfl, Nat.le_of_ble_eq_true rfl⟩ (Nat.le_of_ble_eq_true rfl) dL_law_721 ((hr S1 h1.2)) (fun r2 S2 h2 => ?_)
  refine g_icmp_eq (tgt := 1171) hX dL_law_724 (by decide) (fun _ => ?_) (fun h9 => absurd ((by rw [h1.1, h2.1])) h9)
  exact next S2 h2.2
theorem law_number {Γ : GG} {X : XT} (hX : Cx Γ R_law cL_law 4 (some .boolean) 12 434 X) {b L i : Nat} {xs : Nat → Int32} (hC : ScX Γ b L xs X) (hi : i + 6 ≤ L) (next : ∀ S2, Rel S2 → G Γ X S2 1171 (lsL Γ b i) []) {S : St} (hR : Rel S) : G Γ X S 729 (lsL Γ b i) [] := by
  obtain ⟨r, Mid, hc, hr⟩ := step_number (Γ := Γ) (xs (i + 1)) (xs (i + 2)) (xs (i + 3)) S hR
  refine g_aload_n (i := 1) hX dL_law_729 rfl rfl ?_
  refine g_aload_n (i := 0) hX dL_law_730 rfl rfl ?_
  refine g_iload_n (i := 3) hX dL_law_731 rfl rfl ?_
  refine g_iconst hX dL_law_732 ic1 ?_
  refine g_iadd hX dL_law_733 ?_
  refine g_sld (j := i + 1) hX hC (nI_add2 i 1) (by omega) dL_law_734 ?_
  refine g_aload_n (i := 0) hX dL_law_735 rfl rfl ?_
  refine g_iload_n (i := 3) hX dL_law_736 rfl rfl ?_
  refine g_iconst hX dL_law_737 ic2 ?_
  refine g_iadd hX dL_law_738 ?_
  refine g_sld (j := i + 2) hX hC (nI_add2 i 2) (by omega) dL_law_739 ?_
  refine g_aload_n (i := 0) hX dL_law_740 rfl rfl ?_
  refine g_iload_n (i := 3) hX dL_law_741 rfl rfl ?_
  refine g_iconst hX dL_law_742 ic3 ?_
  refine g_iadd hX dL_law_743 ?_
  refine g_sld (j := i + 3) hX hC (nI_add2 i 3) (by omega) dL_law_744 ?_
  refine eL_81 hX ⟨Nat.le_of_ble_eq_true rfl, Nat.le_of_ble_eq_true rfl⟩ (Nat.le_of_ble_eq_true rfl) dL_law_745 ((hc)) (fun r1 S1 h1 => ?_)
  refine g_aload_n (i := 2) hX dL_law_748 rfl rfl ?_
  refine g_aload_n (i := 0) hX dL_law_749 rfl rfl ?_
  refine g_iload_n (i := 3) hX dL_law_750 rfl rfl ?_
  refine g_iconst hX dL_law_751 ic1 ?_
  refine g_iadd hX dL_law_752 ?_
  refine g_sld (j := i + 1) hX hC (nI_add2 i 1) (by omega) dL_law_753 ?_
  refine g_aload_n (i := 0) hX dL_law_754 rfl rfl ?_
  refine g_iload_n (i := 3) hX dL_law_755 rfl rfl ?_
  refine g_iconst hX dL_law_756 ic2 ?_
  refine g_iadd hX dL_law_757 ?_
  refine g_sld (j := i + 2) hX hC (nI_add2 i 2) (by omega) dL_law_758 ?_
  refine g_aload_n (i := 0) hX dL_law_759 rfl rfl ?_
  refine g_iload_n (i := 3) hX dL_law_760 rfl rfl ?_
  refine g_iconst hX dL_law_761 ic3 ?_
  refine g_iadd hX dL_law_762 ?_
  refine g_sld (j := i + 3) hX hC (nI_add2 i 3) (by omega) dL_law_763 ?_
  refine eL_84 hX ⟨Nat.le_of_ble_eq_true rfl, Nat.le_of_ble_eq_true rfl⟩ (Nat.le_of_ble_eq_true rfl) dL_law_764 ((hr S1 h1.2)) (fun r2 S2 h2 => ?_)
  refine g_icmp_eq (tgt := 1171) hX dL_law_767 (by decide) (fun _ => ?_) (fun h9 => absurd ((by rw [h1.1, h2.1])) h9)
  exact next S2 h2.2
