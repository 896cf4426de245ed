/-! the law's cases, one by one: calls that leave all as it was -/
set_option maxRecDepth 4000 in
theorem zLc_2 {l : Launch} {b L : Nat} {xs : Nat → Int32} {Γ : zC} {h : zM} {k n c9 : Nat} (hI : zIv Γ h) (hO : h 89 30 = -1) (hb4 : zad Γ 4000000 = b) (hL : L ≤ 3072) (hc : 6 * c9 + 6 ≤ L) (hkn : k + 3 ≤ 601024 ∧ n + 400 ≤ 7293034) (IH : ∀ Γ' h', zext Γ Γ' → zIv Γ' h' → h' 89 30 = -1 → zG (zFL l b L xs) (k + 3) (n + 400) Γ' h' 2010 [some (zR 4000000), some (zR 1), some (zR 89), some (zR 121), some (zI ((6 * c9 : Nat) : Int)), none, none] []) : zG (zFL l b L xs) k n Γ h 322 [some (zR 4000000), some (zR 1), some (zR 89), some (zR 121), some (zI ((6 * c9 : Nat) : Int)), none, none] [] := by
  refine z_al1 dL_law_322 (by decide) ?_
  refine z_arg (c := 1) (j := 6 * c9 + 1) (by omega) (by omega) hL hb4 (by decide) dL_law_323 dL_law_324 dL_law_326 dL_law_327 dL_law_328 ?_
  refine z_lcv1 (mc9 := 0) (ms9 := 0) dL_law_329 zkL_29 ziX8_fault zsX8_fault (zkB hI.base rfl) (by decide) rfl (Nat.le_of_ble_eq_true rfl) (Nat.le_of_ble_eq_true rfl) (Nat.le_of_ble_eq_true rfl) ⟨by omega, by omega⟩ (X8_fault_ct hI (zfr_rf _ _) (fun h1 F1 _ => ?_))
  simp only [zres]
  refine z_al2 dL_law_332 (by decide) ?_
  refine z_arg (c := 1) (j := 6 * c9 + 1) (by omega) (by omega) hL hb4 (by decide) dL_law_333 dL_law_334 dL_law_336 dL_law_337 dL_law_338 ?_
  refine z_lcv1 (mc9 := 0) (ms9 := 0) dL_law_339 zkL_33 ziX9_fault zsX9_fault (zkB hI.base rfl) (by decide) rfl (Nat.le_of_ble_eq_true rfl) (Nat.le_of_ble_eq_true rfl) (Nat.le_of_ble_eq_true rfl) ⟨by omega, by omega⟩ (X9_fault_ct hI F1 (fun h2 F2 _ => ?_))
  simp only [zres]
  refine z_icmp_eq (t := 2010) dL_law_342 (by rfl) (fun _ => ?_) (fun hne => absurd rfl hne)
  exact z_wid (by omega) (by omega) (IH _ _ (zext_rf _) (zIv_cg (zfr_S3 F2) hI) ((F2 89 30 rfl).trans hO))
set_option maxRecDepth 4000 in
theorem zLc_5 {l : Launch} {b L : Nat} {xs : Nat → Int32} {Γ : zC} {h : zM} {k n c9 : Nat} (hI : zIv Γ h) (hO : h 89 30 = -1) (hb4 : zad Γ 4000000 = b) (hL : L ≤ 3072) (hc : 6 * c9 + 6 ≤ L) (hkn : k + 3 ≤ 601024 ∧ n + 400 ≤ 7293034) (IH : ∀ Γ' h', zext Γ Γ' → zIv Γ' h' → h' 89 30 = -1 → zG (zFL l b L xs) (k + 3) (n + 400) Γ' h' 2010 [some (zR 4000000), some (zR 1), some (zR 89), some (zR 121), some (zI ((6 * c9 : Nat) : Int)), none, none] []) : zG (zFL l b L xs) k n Γ h 440 [some (zR 4000000), some (zR 1), some (zR 89), some (zR 121), some (zI ((6 * c9 : Nat) : Int)), none, none] [] := by
  refine z_al1 dL_law_440 (by decide) ?_
  refine z_arg (c := 1) (j := 6 * c9 + 1) (by omega) (by omega) hL hb4 (by decide) dL_law_441 dL_law_442 dL_law_444 dL_law_445 dL_law_446 ?_
  refine z_arg (c := 2) (j := 6 * c9 + 2) (by omega) (by omega) hL hb4 (by decide) dL_law_447 dL_law_448 dL_law_450 dL_law_451 dL_law_452 ?_
  refine z_lcv2 (mc9 := 0) (ms9 := 0) dL_law_453 zkL_48 ziX8_way zsX8_way (zkB hI.base rfl) (by decide) rfl (Nat.le_of_ble_eq_true rfl) (Nat.le_of_ble_eq_true rfl) (Nat.le_of_ble_eq_true rfl) ⟨by omega, by omega⟩ (X8_way_ct hI (zfr_rf _ _) (fun h1 F1 _ => ?_))
  simp only [zres]
  refine z_al2 dL_law_456 (by decide) ?_
  refine z_arg (c := 1) (j := 6 * c9 + 1) (by omega) (by omega) hL hb4 (by decide) dL_law_457 dL_law_458 dL_law_460 dL_law_461 dL_law_462 ?_
  refine z_arg (c := 2) (j := 6 * c9 + 2) (by omega) (by omega) hL hb4 (by decide) dL_law_463 dL_law_464 dL_law_466 dL_law_467 dL_law_468 ?_
  refine z_lcv2 (mc9 := 0) (ms9 := 0) dL_law_469 zkL_51 ziX9_way zsX9_way (zkB hI.base rfl) (by decide) rfl (Nat.le_of_ble_eq_true rfl) (Nat.le_of_ble_eq_true rfl) (Nat.le_of_ble_eq_true rfl) ⟨by omega, by omega⟩ (X9_way_ct hI F1 (fun h2 F2 _ => ?_))
  simp only [zres]
  refine z_icmp_eq (t := 2010) dL_law_472 (by rfl) (fun _ => ?_) (fun hne => absurd rfl hne)
  exact z_wid (by omega) (by omega) (IH _ _ (zext_rf _) (zIv_cg (zfr_S3 F2) hI) ((F2 89 30 rfl).trans hO))
set_option maxRecDepth 4000 in
theorem zLc_7 {l : Launch} {b L : Nat} {xs : Nat → Int32} {Γ : zC} {h : zM} {k n c9 : Nat} (hI : zIv Γ h) (hO : h 89 30 = -1) (hb4 : zad Γ 4000000 = b) (hL : L ≤ 3072) (hc : 6 * c9 + 6 ≤ L) (hkn : k + 3 ≤ 601024 ∧ n + 400 ≤ 7293034) (IH : ∀ Γ' h', zext Γ Γ' → zIv Γ' h' → h' 89 30 = -1 → zG (zFL l b L xs) (k + 3) (n + 400) Γ' h' 2010 [some (zR 4000000), some (zR 1), some (zR 89), some (zR 121), some (zI ((6 * c9 : Nat) : Int)), none, none] []) : zG (zFL l b L xs) k n Γ h 514 [some (zR 4000000), some (zR 1), some (zR 89), some (zR 121), some (zI ((6 * c9 : Nat) : Int)), none, none] [] := by
  refine z_al1 dL_law_514 (by decide) ?_
  refine z_arg (c := 1) (j := 6 * c9 + 1) (by omega) (by omega) hL hb4 (by decide) dL_law_515 dL_law_516 dL_law_518 dL_law_519 dL_law_520 ?_
  refine z_arg (c := 2) (j := 6 * c9 + 2) (by omega) (by omega) hL hb4 (by decide) dL_law_521 dL_law_522 dL_law_524 dL_law_525 dL_law_526 ?_
  refine z_arg (c := 3) (j := 6 * c9 + 3) (by omega) (by omega) hL hb4 (by decide) dL_law_527 dL_law_528 dL_law_530 dL_law_531 dL_law_532 ?_
  refine z_lcv3 (mc9 := 0) (ms9 := 0) dL_law_533 zkL_57 ziX8_forbidden zsX8_forbidden (zkB hI.base rfl) (by decide) rfl (Nat.le_of_ble_eq_true rfl) (Nat.le_of_ble_eq_true rfl) (Nat.le_of_ble_eq_true rfl) ⟨by omega, by omega⟩ (X8_forbidden_ct hI (zfr_rf _ _) hO (fun h1 F1 _ => ?_))
  simp only [zres]
  refine z_al2 dL_law_536 (by decide) ?_
  refine z_arg (c := 1) (j := 6 * c9 + 1) (by omega) (by omega) hL hb4 (by decide) dL_law_537 dL_law_538 dL_law_540 dL_law_541 dL_law_542 ?_
  refine z_arg (c := 2) (j := 6 * c9 + 2) (by omega) (by omega) hL hb4 (by decide) dL_law_543 dL_law_544 dL_law_546 dL_law_547 dL_law_548 ?_
  refine z_arg (c := 3) (j := 6 * c9 + 3) (by omega) (by omega) hL hb4 (by decide) dL_law_549 dL_law_550 dL_law_552 dL_law_553 dL_law_554 ?_
  refine z_lcv3 (mc9 := 0) (ms9 := 0) dL_law_555 zkL_61 ziX9_forbidden zsX9_forbidden (zkB hI.base rfl) (by decide) rfl (Nat.le_of_ble_eq_true rfl) (Nat.le_of_ble_eq_true rfl) (Nat.le_of_ble_eq_true rfl) ⟨by omega, by omega⟩ (X9_forbidden_ct hI F1 (fun h2 F2 _ => ?_))
  simp only [zres]
  refine z_icmp_eq (t := 2010) dL_law_558 (by rfl) (fun _ => ?_) (fun hne => absurd rfl hne)
  exact z_wid (by omega) (by omega) (IH _ _ (zext_rf _) (zIv_cg (zfr_S3 F2) hI) ((F2 89 30 rfl).trans hO))
set_option maxRecDepth 4000 in
theorem zLc_9 {l : Launch} {b L : Nat} {xs : Nat → Int32} {Γ : zC} {h : zM} {k n c9 : Nat} (hI : zIv Γ h) (hO : h 89 30 = -1) (hb4 : zad Γ 4000000 = b) (hL : L ≤ 3072) (hc : 6 * c9 + 6 ≤ L) (hkn : k + 3 ≤ 601024 ∧ n + 400 ≤ 7293034) (IH : ∀ Γ' h', zext Γ Γ' → zIv Γ' h' → h' 89 30 = -1 → zG (zFL l b L xs) (k + 3) (n + 400) Γ' h' 2010 [some (zR 4000000), some (zR 1), some (zR 89), some (zR 121), some (zI ((6 * c9 : Nat) : Int)), none, none] []) : zG (zFL l b L xs) k n Γ h 588 [some (zR 4000000), some (zR 1), some (zR 89), some (zR 121), some (zI ((6 * c9 : Nat) : Int)), none, none] [] := by
  refine z_al1 dL_law_588 (by decide) ?_
  refine z_arg (c := 1) (j := 6 * c9 + 1) (by omega) (by omega) hL hb4 (by decide) dL_law_589 dL_law_590 dL_law_592 dL_law_593 dL_law_594 ?_
  refine z_arg (c := 2) (j := 6 * c9 + 2) (by omega) (by omega) hL hb4 (by decide) dL_law_595 dL_law_596 dL_law_598 dL_law_599 dL_law_600 ?_
  refine z_arg (c := 3) (j := 6 * c9 + 3) (by omega) (by omega) hL hb4 (by decide) dL_law_601 dL_law_602 dL_law_604 dL_law_605 dL_law_606 ?_
  refine z_arg (c := 4) (j := 6 * c9 + 4) (by omega) (by omega) hL hb4 (by decide) dL_law_607 dL_law_608 dL_law_610 dL_law_611 dL_law_612 ?_
  refine z_lcv4 (mc9 := 0) (ms9 := 0) dL_law_613 zkL_66 ziX8_pay zsX8_pay (zkB hI.base rfl) (by decide) rfl (Nat.le_of_ble_eq_true rfl) (Nat.le_of_ble_eq_true rfl) (Nat.le_of_ble_eq_true rfl) ⟨by omega, by omega⟩ (X8_pay_ct hI (zfr_rf _ _) hO (fun h1 F1 _ => ?_))
  simp only [zres]
  refine z_al2 dL_law_616 (by decide) ?_
  refine z_arg (c := 1) (j := 6 * c9 + 1) (by omega) (by omega) hL hb4 (by decide) dL_law_617 dL_law_618 dL_law_620 dL_law_621 dL_law_622 ?_
  refine z_arg (c := 2) (j := 6 * c9 + 2) (by omega) (by omega) hL hb4 (by decide) dL_law_623 dL_law_624 dL_law_626 dL_law_627 dL_law_628 ?_
  refine z_arg (c := 3) (j := 6 * c9 + 3) (by omega) (by omega) hL hb4 (by decide) dL_law_629 dL_law_630 dL_law_632 dL_law_633 dL_law_634 ?_
  refine z_arg (c := 4) (j := 6 * c9 + 4) (by omega) (by omega) hL hb4 (by decide) dL_law_635 dL_law_636 dL_law_638 dL_law_639 dL_law_640 ?_
  refine z_lcv4 (mc9 := 0) (ms9 := 0) dL_law_641 zkL_70 ziX9_pay zsX9_pay (zkB hI.base rfl) (by decide) rfl (Nat.le_of_ble_eq_true rfl) (Nat.le_of_ble_eq_true rfl) (Nat.le_of_ble_eq_true rfl) ⟨by omega, by omega⟩ (X9_pay_ct hI F1 (fun h2 F2 _ => ?_))
  simp only [zres]
  refine z_icmp_eq (t := 2010) dL_law_644 (by rfl) (fun _ => ?_) (fun hne => absurd rfl hne)
  exact z_wid (by omega) (by omega) (IH _ _ (zext_rf _) (zIv_cg (zfr_S3 F2) hI) ((F2 89 30 rfl).trans hO))
set_option maxRecDepth 4000 in
theorem zLc_10 {l : Launch} {b L : Nat} {xs : Nat → Int32} {Γ : zC} {h : zM} {k n c9 : Nat} (hI : zIv Γ h) (hO : h 89 30 = -1) (hb4 : zad Γ 4000000 = b) (hL : L ≤ 3072) (hc : 6 * c9 + 6 ≤ L) (hkn : k + 3 ≤ 601024 ∧ n + 400 ≤ 7293034) (IH : ∀ Γ' h', zext Γ Γ' → zIv Γ' h' → h' 89 30 = -1 → zG (zFL l b L xs) (k + 3) (n + 400) Γ' h' 2010 [some (zR 4000000), some (zR 1), some (zR 89), some (zR 121), some (zI ((6 * c9 : Nat) : Int)), none, none] []) : zG (zFL l b L xs) k n Γ h 649 [some (zR 4000000), some (zR 1), some (zR 89), some (zR 121), some (zI ((6 * c9 : Nat) : Int)), none, none] [] := by
  refine z_al1 dL_law_649 (by decide) ?_
  refine z_arg (c := 1) (j := 6 * c9 + 1) (by omega) (by omega) hL hb4 (by decide) dL_law_650 dL_law_651 dL_law_653 dL_law_654 dL_law_655 ?_
  refine z_arg (c := 2) (j := 6 * c9 + 2) (by omega) (by omega) hL hb4 (by decide) dL_law_656 dL_law_657 dL_law_659 dL_law_660 dL_law_661 ?_
  refine z_arg (c := 3) (j := 6 * c9 + 3) (by omega) (by omega) hL hb4 (by decide) dL_law_662 dL_law_663 dL_law_665 dL_law_666 dL_law_667 ?_
  refine z_arg (c := 4) (j := 6 * c9 + 4) (by omega) (by omega) hL hb4 (by decide) dL_law_668 dL_law_669 dL_law_671 dL_law_672 dL_law_673 ?_
  refine z_lcv4 (mc9 := 0) (ms9 := 0) dL_law_674 zkL_71 ziX8_ways zsX8_ways (zkB hI.base rfl) (by decide) rfl (Nat.le_of_ble_eq_true rfl) (Nat.le_of_ble_eq_true rfl) (Nat.le_of_ble_eq_true rfl) ⟨by omega, by omega⟩ (X8_ways_ct hI (zfr_rf _ _) hO (fun h1 F1 _ => ?_))
  simp only [zres]
  refine z_al2 dL_law_677 (by decide) ?_
  refine z_arg (c := 1) (j := 6 * c9 + 1) (by omega) (by omega) hL hb4 (by decide) dL_law_678 dL_law_679 dL_law_681 dL_law_682 dL_law_683 ?_
  refine z_arg (c := 2) (j := 6 * c9 + 2) (by omega) (by omega) hL hb4 (by decide) dL_law_684 dL_law_685 dL_law_687 dL_law_688 dL_law_689 ?_
  refine z_arg (c := 3) (j := 6 * c9 + 3) (by omega) (by omega) hL hb4 (by decide) dL_law_690 dL_law_691 dL_law_693 dL_law_694 dL_law_695 ?_
  refine z_arg (c := 4) (j := 6 * c9 + 4) (by omega) (by omega) hL hb4 (by decide) dL_law_696 dL_law_697 dL_law_699 dL_law_700 dL_law_701 ?_
  refine z_lcv4 (mc9 := 0) (ms9 := 0) dL_law_702 zkL_75 ziX9_ways zsX9_ways (zkB hI.base rfl) (by decide) rfl (Nat.le_of_ble_eq_true rfl) (Nat.le_of_ble_eq_true rfl) (Nat.le_of_ble_eq_true rfl) ⟨by omega, by omega⟩ (X9_ways_ct hI F1 (fun h2 F2 _ => ?_))
  simp only [zres]
  refine z_lcmp dL_law_705 ?_
  refine z_if_eq (t := 2010) dL_law_706 (by rfl) (fun _ => ?_) (fun hne => absurd (zcmp_se _) hne)
  exact z_wid (by omega) (by omega) (IH _ _ (zext_rf _) (zIv_cg (zfr_S3 F2) hI) ((F2 89 30 rfl).trans hO))
set_option maxRecDepth 4000 in
theorem zLc_11 {l : Launch} {b L : Nat} {xs : Nat → Int32} {Γ : zC} {h : zM} {k n c9 : Nat} (hI : zIv Γ h) (hO : h 89 30 = -1) (hb4 : zad Γ 4000000 = b) (hL : L ≤ 3072) (hc : 6 * c9 + 6 ≤ L) (hkn : k + 3 ≤ 601024 ∧ n + 400 ≤ 7293034) (IH : ∀ Γ' h', zext Γ Γ' → zIv Γ' h' → h' 89 30 = -1 → zG (zFL l b L xs) (k + 3) (n + 400) Γ' h' 2010 [some (zR 4000000), some (zR 1), some (zR 89), some (zR 121), some (zI ((6 * c9 : Nat) : Int)), none, none] []) : zG (zFL l b L xs) k n Γ h 711 [some (zR 4000000), some (zR 1), some (zR 89), some (zR 121), some (zI ((6 * c9 : Nat) : Int)), none, none] [] := by
  refine z_al1 dL_law_711 (by decide) ?_
  refine z_arg (c := 1) (j := 6 * c9 + 1) (by omega) (by omega) hL hb4 (by decide) dL_law_712 dL_law_713 dL_law_715 dL_law_716 dL_law_717 ?_
  refine z_arg (c := 2) (j := 6 * c9 + 2) (by omega) (by omega) hL hb4 (by decide) dL_law_718 dL_law_719 dL_law_721 dL_law_722 dL_law_723 ?_
  refine z_arg (c := 3) (j := 6 * c9 + 3) (by omega) (by omega) hL hb4 (by decide) dL_law_724 dL_law_725 dL_law_727 dL_law_728 dL_law_729 ?_
  refine z_lcv3 (mc9 := 0) (ms9 := 0) dL_law_730 zkL_76 ziX8_cant zsX8_cant (zkB hI.base rfl) (by decide) rfl (Nat.le_of_ble_eq_true rfl) (Nat.le_of_ble_eq_true rfl) (Nat.le_of_ble_eq_true rfl) ⟨by omega, by omega⟩ (X8_cant_ct hI (zfr_rf _ _) hO (fun h1 F1 _ => ?_))
  simp only [zres]
  refine z_al2 dL_law_733 (by decide) ?_
  refine z_arg (c := 1) (j := 6 * c9 + 1) (by omega) (by omega) hL hb4 (by decide) dL_law_734 dL_law_735 dL_law_737 dL_law_738 dL_law_739 ?_
  refine z_arg (c := 2) (j := 6 * c9 + 2) (by omega) (by omega) hL hb4 (by decide) dL_law_740 dL_law_741 dL_law_743 dL_law_744 dL_law_745 ?_
  refine z_arg (c := 3) (j := 6 * c9 + 3) (by omega) (by omega) hL hb4 (by decide) dL_law_746 dL_law_747 dL_law_749 dL_law_750 dL_law_751 ?_
  refine z_lcv3 (mc9 := 0) (ms9 := 0) dL_law_752 zkL_79 ziX9_cant zsX9_cant (zkB hI.base rfl) (by decide) rfl (Nat.le_of_ble_eq_true rfl) (Nat.le_of_ble_eq_true rfl) (Nat.le_of_ble_eq_true rfl) ⟨by omega, by omega⟩ (X9_cant_ct hI F1 (fun h2 F2 _ => ?_))
  simp only [zres]
  refine z_icmp_eq (t := 2010) dL_law_755 (by rfl) (fun _ => ?_) (fun hne => absurd rfl hne)
  exact z_wid (by omega) (by omega) (IH _ _ (zext_rf _) (zIv_cg (zfr_S3 F2) hI) ((F2 89 30 rfl).trans hO))
set_option maxRecDepth 4000 in
theorem zLc_12 {l : Launch} {b L : Nat} {xs : Nat → Int32} {Γ : zC} {h : zM} {k n c9 : Nat} (hI : zIv Γ h) (hO : h 89 30 = -1) (hb4 : zad Γ 4000000 = b) (hL : L ≤ 3072) (hc : 6 * c9 + 6 ≤ L) (hkn : k + 3 ≤ 601024 ∧ n + 400 ≤ 7293034) (IH : ∀ Γ' h', zext Γ Γ' → zIv Γ' h' → h' 89 30 = -1 → zG (zFL l b L xs) (k + 3) (n + 400) Γ' h' 2010 [some (zR 4000000), some (zR 1), some (zR 89), some (zR 121), some (zI ((6 * c9 : Nat) : Int)), none, none] []) : zG (zFL l b L xs) k n Γ h 760 [some (zR 4000000), some (zR 1), some (zR 89), some (zR 121), some (zI ((6 * c9 : Nat) : Int)), none, none] [] := by
  refine z_al1 dL_law_760 (by decide) ?_
  refine z_arg (c := 1) (j := 6 * c9 + 1) (by omega) (by omega) hL hb4 (by decide) dL_law_761 dL_law_762 dL_law_764 dL_law_765 dL_law_766 ?_
  refine z_arg (c := 2) (j := 6 * c9 + 2) (by omega) (by omega) hL hb4 (by decide) dL_law_767 dL_law_768 dL_law_770 dL_law_771 dL_law_772 ?_
  refine z_arg (c := 3) (j := 6 * c9 + 3) (by omega) (by omega) hL hb4 (by decide) dL_law_773 dL_law_774 dL_law_776 dL_law_777 dL_law_778 ?_
  refine z_lcv3 (mc9 := 0) (ms9 := 0) dL_law_779 zkL_80 ziX8_family zsX8_family (zkB hI.base rfl) (by decide) rfl (Nat.le_of_ble_eq_true rfl) (Nat.le_of_ble_eq_true rfl) (Nat.le_of_ble_eq_true rfl) ⟨by omega, by omega⟩ (X8_family_ct hI (zfr_rf _ _) hO (fun h1 F1 _ => ?_))
  simp only [zres]
  refine z_al2 dL_law_782 (by decide) ?_
  refine z_arg (c := 1) (j := 6 * c9 + 1) (by omega) (by omega) hL hb4 (by decide) dL_law_783 dL_law_784 dL_law_786 dL_law_787 dL_law_788 ?_
  refine z_arg (c := 2) (j := 6 * c9 + 2) (by omega) (by omega) hL hb4 (by decide) dL_law_789 dL_law_790 dL_law_792 dL_law_793 dL_law_794 ?_
  refine z_arg (c := 3) (j := 6 * c9 + 3) (by omega) (by omega) hL hb4 (by decide) dL_law_795 dL_law_796 dL_law_798 dL_law_799 dL_law_800 ?_
  refine z_lcv3 (mc9 := 0) (ms9 := 0) dL_law_801 zkL_83 ziX9_family zsX9_family (zkB hI.base rfl) (by decide) rfl (Nat.le_of_ble_eq_true rfl) (Nat.le_of_ble_eq_true rfl) (Nat.le_of_ble_eq_true rfl) ⟨by omega, by omega⟩ (X9_family_ct hI F1 (fun h2 F2 _ => ?_))
  simp only [zres]
  refine z_icmp_eq (t := 2010) dL_law_804 (by rfl) (fun _ => ?_) (fun hne => absurd rfl hne)
  exact z_wid (by omega) (by omega) (IH _ _ (zext_rf _) (zIv_cg (zfr_S3 F2) hI) ((F2 89 30 rfl).trans hO))
set_option maxRecDepth 4000 in
theorem zLc_13 {l : Launch} {b L : Nat} {xs : Nat → Int32} {Γ : zC} {h : zM} {k n c9 : Nat} (hI : zIv Γ h) (hO : h 89 30 = -1) (hb4 : zad Γ 4000000 = b) (hL : L ≤ 3072) (hc : 6 * c9 + 6 ≤ L) (hkn : k + 3 ≤ 601024 ∧ n + 400 ≤ 7293034) (IH : ∀ Γ' h', zext Γ Γ' → zIv Γ' h' → h' 89 30 = -1 → zG (zFL l b L xs) (k + 3) (n + 400) Γ' h' 2010 [some (zR 4000000), some (zR 1), some (zR 89), some (zR 121), some (zI ((6 * c9 : Nat) : Int)), none, none] []) : zG (zFL l b L xs) k n Γ h 809 [some (zR 4000000), some (zR 1), some (zR 89), some (zR 121), some (zI ((6 * c9 : Nat) : Int)), none, none] [] := by
  refine z_al1 dL_law_809 (by decide) ?_
  refine z_arg (c := 1) (j := 6 * c9 + 1) (by omega) (by omega) hL hb4 (by decide) dL_law_810 dL_law_811 dL_law_813 dL_law_814 dL_law_815 ?_
  refine z_arg (c := 2) (j := 6 * c9 + 2) (by omega) (by omega) hL hb4 (by decide) dL_law_816 dL_law_817 dL_law_819 dL_law_820 dL_law_821 ?_
  refine z_lcv2 (mc9 := 0) (ms9 := 0) dL_law_822 zkL_84 ziX8_splits zsX8_splits (zkB hI.base rfl) (by decide) rfl (Nat.le_of_ble_eq_true rfl) (Nat.le_of_ble_eq_true rfl) (Nat.le_of_ble_eq_true rfl) ⟨by omega, by omega⟩ (X8_splits_ct hI (zfr_rf _ _) hO (fun h1 F1 _ => ?_))
  simp only [zres]
  refine z_al2 dL_law_825 (by decide) ?_
  refine z_arg (c := 1) (j := 6 * c9 + 1) (by omega) (by omega) hL hb4 (by decide) dL_law_826 dL_law_827 dL_law_829 dL_law_830 dL_law_831 ?_
  refine z_arg (c := 2) (j := 6 * c9 + 2) (by omega) (by omega) hL hb4 (by decide) dL_law_832 dL_law_833 dL_law_835 dL_law_836 dL_law_837 ?_
  refine z_lcv2 (mc9 := 0) (ms9 := 0) dL_law_838 zkL_87 ziX9_splits zsX9_splits (zkB hI.base rfl) (by decide) rfl (Nat.le_of_ble_eq_true rfl) (Nat.le_of_ble_eq_true rfl) (Nat.le_of_ble_eq_true rfl) ⟨by omega, by omega⟩ (X9_splits_ct hI F1 (fun h2 F2 _ => ?_))
  simp only [zres]
  refine z_icmp_eq (t := 2010) dL_law_841 (by rfl) (fun _ => ?_) (fun hne => absurd rfl hne)
  exact z_wid (by omega) (by omega) (IH _ _ (zext_rf _) (zIv_cg (zfr_S3 F2) hI) ((F2 89 30 rfl).trans hO))
set_option maxRecDepth 4000 in
theorem zLc_14 {l : Launch} {b L : Nat} {xs : Nat → Int32} {Γ : zC} {h : zM} {k n c9 : Nat} (hI : zIv Γ h) (hO : h 89 30 = -1) (hb4 : zad Γ 4000000 = b) (hL : L ≤ 3072) (hc : 6 * c9 + 6 ≤ L) (hkn : k + 3 ≤ 601024 ∧ n + 400 ≤ 7293034) (IH : ∀ Γ' h', zext Γ Γ' → zIv Γ' h' → h' 89 30 = -1 → zG (zFL l b L xs) (k + 3) (n + 400) Γ' h' 2010 [some (zR 4000000), some (zR 1), some (zR 89), some (zR 121), some (zI ((6 * c9 : Nat) : Int)), none, none] []) : zG (zFL l b L xs) k n Γ h 846 [some (zR 4000000), some (zR 1), some (zR 89), some (zR 121), some (zI ((6 * c9 : Nat) : Int)), none, none] [] := by
  refine z_al1 dL_law_846 (by decide) ?_
  refine z_arg (c := 1) (j := 6 * c9 + 1) (by omega) (by omega) hL hb4 (by decide) dL_law_847 dL_law_848 dL_law_850 dL_law_851 dL_law_852 ?_
  refine z_arg (c := 2) (j := 6 * c9 + 2) (by omega) (by omega) hL hb4 (by decide) dL_law_853 dL_law_854 dL_law_856 dL_law_857 dL_law_858 ?_
  refine z_lcv2 (mc9 := 0) (ms9 := 0) dL_law_859 zkL_88 ziX8_date zsX8_date (zkB hI.base rfl) (by decide) rfl (Nat.le_of_ble_eq_true rfl) (Nat.le_of_ble_eq_true rfl) (Nat.le_of_ble_eq_true rfl) ⟨by omega, by omega⟩ (X8_date_ct hI (zfr_rf _ _) hO (fun h1 F1 _ => ?_))
  simp only [zres]
  refine z_al2 dL_law_862 (by decide) ?_
  refine z_arg (c := 1) (j := 6 * c9 + 1) (by omega) (by omega) hL hb4 (by decide) dL_law_863 dL_law_864 dL_law_866 dL_law_867 dL_law_868 ?_
  refine z_arg (c := 2) (j := 6 * c9 + 2) (by omega) (by omega) hL hb4 (by decide) dL_law_869 dL_law_870 dL_law_872 dL_law_873 dL_law_874 ?_
  refine z_lcv2 (mc9 := 0) (ms9 := 0) dL_law_875 zkL_91 ziX9_date zsX9_date (zkB hI.base rfl) (by decide) rfl (Nat.le_of_ble_eq_true rfl) (Nat.le_of_ble_eq_true rfl) (Nat.le_of_ble_eq_true rfl) ⟨by omega, by omega⟩ (X9_date_ct hI F1 (fun h2 F2 _ => ?_))
  simp only [zres]
  refine z_icmp_eq (t := 2010) dL_law_878 (by rfl) (fun _ => ?_) (fun hne => absurd rfl hne)
  exact z_wid (by omega) (by omega) (IH _ _ (zext_rf _) (zIv_cg (zfr_S3 F2) hI) ((F2 89 30 rfl).trans hO))
set_option maxRecDepth 4000 in
theorem zLc_15 {l : Launch} {b L : Nat} {xs : Nat → Int32} {Γ : zC} {h : zM} {k n c9 : Nat} (hI : zIv Γ h) (hO : h 89 30 = -1) (hb4 : zad Γ 4000000 = b) (hL : L ≤ 3072) (hc : 6 * c9 + 6 ≤ L) (hkn : k + 3 ≤ 601024 ∧ n + 400 ≤ 7293034) (IH : ∀ Γ' h', zext Γ Γ' → zIv Γ' h' → h' 89 30 = -1 → zG (zFL l b L xs) (k + 3) (n + 400) Γ' h' 2010 [some (zR 4000000), some (zR 1), some (zR 89), some (zR 121), some (zI ((6 * c9 : Nat) : Int)), none, none] []) : zG (zFL l b L xs) k n Γ h 883 [some (zR 4000000), some (zR 1), some (zR 89), some (zR 121), some (zI ((6 * c9 : Nat) : Int)), none, none] [] := by
  refine z_al1 dL_law_883 (by decide) ?_
  refine z_arg (c := 1) (j := 6 * c9 + 1) (by omega) (by omega) hL hb4 (by decide) dL_law_884 dL_law_885 dL_law_887 dL_law_888 dL_law_889 ?_
  refine z_arg (c := 2) (j := 6 * c9 + 2) (by omega) (by omega) hL hb4 (by decide) dL_law_890 dL_law_891 dL_law_893 dL_law_894 dL_law_895 ?_
  refine z_arg (c := 3) (j := 6 * c9 + 3) (by omega) (by omega) hL hb4 (by decide) dL_law_896 dL_law_897 dL_law_899 dL_law_900 dL_law_901 ?_
  refine z_lcv3 (mc9 := 0) (ms9 := 0) dL_law_902 zkL_92 ziX8_debt zsX8_debt (zkB hI.base rfl) (by decide) rfl (Nat.le_of_ble_eq_true rfl) (Nat.le_of_ble_eq_true rfl) (Nat.le_of_ble_eq_true rfl) ⟨by omega, by omega⟩ (X8_debt_ct hI (zfr_rf _ _) hO (fun h1 F1 _ => ?_))
  simp only [zres]
  refine z_al2 dL_law_905 (by decide) ?_
  refine z_arg (c := 1) (j := 6 * c9 + 1) (by omega) (by omega) hL hb4 (by decide) dL_law_906 dL_law_907 dL_law_909 dL_law_910 dL_law_911 ?_
  refine z_arg (c := 2) (j := 6 * c9 + 2) (by omega) (by omega) hL hb4 (by decide) dL_law_912 dL_law_913 dL_law_915 dL_law_916 dL_law_917 ?_
  refine z_arg (c := 3) (j := 6 * c9 + 3) (by omega) (by omega) hL hb4 (by decide) dL_law_918 dL_law_919 dL_law_921 dL_law_922 dL_law_923 ?_
  refine z_lcv3 (mc9 := 0) (ms9 := 0) dL_law_924 zkL_95 ziX9_debt zsX9_debt (zkB hI.base rfl) (by decide) rfl (Nat.le_of_ble_eq_true rfl) (Nat.le_of_ble_eq_true rfl) (Nat.le_of_ble_eq_true rfl) ⟨by omega, by omega⟩ (X9_debt_ct hI F1 (fun h2 F2 _ => ?_))
  simp only [zres]
  refine z_icmp_eq (t := 2010) dL_law_927 (by rfl) (fun _ => ?_) (fun hne => absurd rfl hne)
  exact z_wid (by omega) (by omega) (IH _ _ (zext_rf _) (zIv_cg (zfr_S3 F2) hI) ((F2 89 30 rfl).trans hO))
set_option maxRecDepth 4000 in
theorem zLc_16 {l : Launch} {b L : Nat} {xs : Nat → Int32} {Γ : zC} {h : zM} {k n c9 : Nat} (hI : zIv Γ h) (hO : h 89 30 = -1) (hb4 : zad Γ 4000000 = b) (hL : L ≤ 3072) (hc : 6 * c9 + 6 ≤ L) (hkn : k + 3 ≤ 601024 ∧ n + 400 ≤ 7293034) (IH : ∀ Γ' h', zext Γ Γ' → zIv Γ' h' → h' 89 30 = -1 → zG (zFL l b L xs) (k + 3) (n + 400) Γ' h' 2010 [some (zR 4000000), some (zR 1), some (zR 89), some (zR 121), some (zI ((6 * c9 : Nat) : Int)), none, none] []) : zG (zFL l b L xs) k n Γ h 932 [some (zR 4000000), some (zR 1), some (zR 89), some (zR 121), some (zI ((6 * c9 : Nat) : Int)), none, none] [] := by
  refine z_al1 dL_law_932 (by decide) ?_
  refine z_arg (c := 1) (j := 6 * c9 + 1) (by omega) (by omega) hL hb4 (by decide) dL_law_933 dL_law_934 dL_law_936 dL_law_937 dL_law_938 ?_
  refine z_arg (c := 2) (j := 6 * c9 + 2) (by omega) (by omega) hL hb4 (by decide) dL_law_939 dL_law_940 dL_law_942 dL_law_943 dL_law_944 ?_
  refine z_arg (c := 3) (j := 6 * c9 + 3) (by omega) (by omega) hL hb4 (by decide) dL_law_945 dL_law_946 dL_law_948 dL_law_949 dL_law_950 ?_
  refine z_lcv3 (mc9 := 0) (ms9 := 0) dL_law_951 zkL_96 ziX8_bit zsX8_bit (zkB hI.base rfl) (by decide) rfl (Nat.le_of_ble_eq_true rfl) (Nat.le_of_ble_eq_true rfl) (Nat.le_of_ble_eq_true rfl) ⟨by omega, by omega⟩ (X8_bit_ct hI (zfr_rf _ _) hO (fun h1 F1 _ => ?_))
  simp only [zres]
  refine z_al2 dL_law_954 (by decide) ?_
  refine z_arg (c := 1) (j := 6 * c9 + 1) (by omega) (by omega) hL hb4 (by decide) dL_law_955 dL_law_956 dL_law_958 dL_law_959 dL_law_960 ?_
  refine z_arg (c := 2) (j := 6 * c9 + 2) (by omega) (by omega) hL hb4 (by decide) dL_law_961 dL_law_962 dL_law_964 dL_law_965 dL_law_966 ?_
  refine z_arg (c := 3) (j := 6 * c9 + 3) (by omega) (by omega) hL hb4 (by decide) dL_law_967 dL_law_968 dL_law_970 dL_law_971 dL_law_972 ?_
  refine z_lcv3 (mc9 := 0) (ms9 := 0) dL_law_973 zkL_99 ziX9_bit zsX9_bit (zkB hI.base rfl) (by decide) rfl (Nat.le_of_ble_eq_true rfl) (Nat.le_of_ble_eq_true rfl) (Nat.le_of_ble_eq_true rfl) ⟨by omega, by omega⟩ (X9_bit_ct hI F1 (fun h2 F2 _ => ?_))
  simp only [zres]
  refine z_icmp_eq (t := 2010) dL_law_976 (by rfl) (fun _ => ?_) (fun hne => absurd rfl hne)
  exact z_wid (by omega) (by omega) (IH _ _ (zext_rf _) (zIv_cg (zfr_S3 F2) hI) ((F2 89 30 rfl).trans hO))
set_option maxRecDepth 4000 in
theorem zLc_18 {l : Launch} {b L : Nat} {xs : Nat → Int32} {Γ : zC} {h : zM} {k n c9 : Nat} (hI : zIv Γ h) (hO : h 89 30 = -1) (hb4 : zad Γ 4000000 = b) (hL : L ≤ 3072) (hc : 6 * c9 + 6 ≤ L) (hkn : k + 3 ≤ 601024 ∧ n + 400 ≤ 7293034) (IH : ∀ Γ' h', zext Γ Γ' → zIv Γ' h' → h' 89 30 = -1 → zG (zFL l b L xs) (k + 3) (n + 400) Γ' h' 2010 [some (zR 4000000), some (zR 1), some (zR 89), some (zR 121), some (zI ((6 * c9 : Nat) : Int)), none, none] []) : zG (zFL l b L xs) k n Γ h 1018 [some (zR 4000000), some (zR 1), some (zR 89), some (zR 121), some (zI ((6 * c9 : Nat) : Int)), none, none] [] := by
  refine z_al1 dL_law_1018 (by decide) ?_
  refine z_arg (c := 1) (j := 6 * c9 + 1) (by omega) (by omega) hL hb4 (by decide) dL_law_1019 dL_law_1020 dL_law_1022 dL_law_1023 dL_law_1024 ?_
  refine z_arg (c := 2) (j := 6 * c9 + 2) (by omega) (by omega) hL hb4 (by decide) dL_law_1025 dL_law_1026 dL_law_1028 dL_law_1029 dL_law_1030 ?_
  refine z_arg (c := 3) (j := 6 * c9 + 3) (by omega) (by omega) hL hb4 (by decide) dL_law_1031 dL_law_1032 dL_law_1034 dL_law_1035 dL_law_1036 ?_
  refine z_lcv3 (mc9 := 0) (ms9 := 0) dL_law_1037 zkL_104 ziX8_likely zsX8_likely (zkB hI.base rfl) (by decide) rfl (Nat.le_of_ble_eq_true rfl) (Nat.le_of_ble_eq_true rfl) (Nat.le_of_ble_eq_true rfl) ⟨by omega, by omega⟩ (X8_likely_ct hI (zfr_rf _ _) hO (fun h1 F1 _ => ?_))
  simp only [zres]
  refine z_al2 dL_law_1040 (by decide) ?_
  refine z_arg (c := 1) (j := 6 * c9 + 1) (by omega) (by omega) hL hb4 (by decide) dL_law_1041 dL_law_1042 dL_law_1044 dL_law_1045 dL_law_1046 ?_
  refine z_arg (c := 2) (j := 6 * c9 + 2) (by omega) (by omega) hL hb4 (by decide) dL_law_1047 dL_law_1048 dL_law_1050 dL_law_1051 dL_law_1052 ?_
  refine z_arg (c := 3) (j := 6 * c9 + 3) (by omega) (by omega) hL hb4 (by decide) dL_law_1053 dL_law_1054 dL_law_1056 dL_law_1057 dL_law_1058 ?_
  refine z_lcv3 (mc9 := 0) (ms9 := 0) dL_law_1059 zkL_107 ziX9_likely zsX9_likely (zkB hI.base rfl) (by decide) rfl (Nat.le_of_ble_eq_true rfl) (Nat.le_of_ble_eq_true rfl) (Nat.le_of_ble_eq_true rfl) ⟨by omega, by omega⟩ (X9_likely_ct hI F1 (fun h2 F2 _ => ?_))
  simp only [zres]
  refine z_icmp_eq (t := 2010) dL_law_1062 (by rfl) (fun _ => ?_) (fun hne => absurd rfl hne)
  exact z_wid (by omega) (by omega) (IH _ _ (zext_rf _) (zIv_cg (zfr_S3 F2) hI) ((F2 89 30 rfl).trans hO))
set_option maxRecDepth 4000 in
theorem zLc_21 {l : Launch} {b L : Nat} {xs : Nat → Int32} {Γ : zC} {h : zM} {k n c9 : Nat} (hI : zIv Γ h) (hO : h 89 30 = -1) (hb4 : zad Γ 4000000 = b) (hL : L ≤ 3072) (hc : 6 * c9 + 6 ≤ L) (hkn : k + 3 ≤ 601024 ∧ n + 400 ≤ 7293034) (IH : ∀ Γ' h', zext Γ Γ' → zIv Γ' h' → h' 89 30 = -1 → zG (zFL l b L xs) (k + 3) (n + 400) Γ' h' 2010 [some (zR 4000000), some (zR 1), some (zR 89), some (zR 121), some (zI ((6 * c9 : Nat) : Int)), none, none] []) : zG (zFL l b L xs) k n Γ h 1129 [some (zR 4000000), some (zR 1), some (zR 89), some (zR 121), some (zI ((6 * c9 : Nat) : Int)), none, none] [] := by
  refine z_al1 dL_law_1129 (by decide) ?_
  refine z_arg (c := 1) (j := 6 * c9 + 1) (by omega) (by omega) hL hb4 (by decide) dL_law_1130 dL_law_1131 dL_law_1133 dL_law_1134 dL_law_1135 ?_
  refine z_arg (c := 2) (j := 6 * c9 + 2) (by omega) (by omega) hL hb4 (by decide) dL_law_1136 dL_law_1137 dL_law_1139 dL_law_1140 dL_law_1141 ?_
  refine z_arg (c := 3) (j := 6 * c9 + 3) (by omega) (by omega) hL hb4 (by decide) dL_law_1142 dL_law_1143 dL_law_1145 dL_law_1146 dL_law_1147 ?_
  refine z_arg (c := 4) (j := 6 * c9 + 4) (by omega) (by omega) hL hb4 (by decide) dL_law_1148 dL_law_1149 dL_law_1151 dL_law_1152 dL_law_1153 ?_
  refine z_lcv4 (mc9 := 0) (ms9 := 0) dL_law_1154 zkL_117 ziX8_deal zsX8_deal (zkB hI.base rfl) (by decide) rfl (Nat.le_of_ble_eq_true rfl) (Nat.le_of_ble_eq_true rfl) (Nat.le_of_ble_eq_true rfl) ⟨by omega, by omega⟩ (X8_deal_ct hI (zfr_rf _ _) hO (fun h1 F1 _ => ?_))
  simp only [zres]
  refine z_al2 dL_law_1157 (by decide) ?_
  refine z_arg (c := 1) (j := 6 * c9 + 1) (by omega) (by omega) hL hb4 (by decide) dL_law_1158 dL_law_1159 dL_law_1161 dL_law_1162 dL_law_1163 ?_
  refine z_arg (c := 2) (j := 6 * c9 + 2) (by omega) (by omega) hL hb4 (by decide) dL_law_1164 dL_law_1165 dL_law_1167 dL_law_1168 dL_law_1169 ?_
  refine z_arg (c := 3) (j := 6 * c9 + 3) (by omega) (by omega) hL hb4 (by decide) dL_law_1170 dL_law_1171 dL_law_1173 dL_law_1174 dL_law_1175 ?_
  refine z_arg (c := 4) (j := 6 * c9 + 4) (by omega) (by omega) hL hb4 (by decide) dL_law_1176 dL_law_1177 dL_law_1179 dL_law_1180 dL_law_1181 ?_
  refine z_lcv4 (mc9 := 0) (ms9 := 0) dL_law_1182 zkL_120 ziX9_deal zsX9_deal (zkB hI.base rfl) (by decide) rfl (Nat.le_of_ble_eq_true rfl) (Nat.le_of_ble_eq_true rfl) (Nat.le_of_ble_eq_true rfl) ⟨by omega, by omega⟩ (X9_deal_ct hI F1 (fun h2 F2 _ => ?_))
  simp only [zres]
  refine z_icmp_eq (t := 2010) dL_law_1185 (by rfl) (fun _ => ?_) (fun hne => absurd rfl hne)
  exact z_wid (by omega) (by omega) (IH _ _ (zext_rf _) (zIv_cg (zfr_S3 F2) hI) ((F2 89 30 rfl).trans hO))
set_option maxRecDepth 4000 in
theorem zLc_22 {l : Launch} {b L : Nat} {xs : Nat → Int32} {Γ : zC} {h : zM} {k n c9 : Nat} (hI : zIv Γ h) (hO : h 89 30 = -1) (hb4 : zad Γ 4000000 = b) (hL : L ≤ 3072) (hc : 6 * c9 + 6 ≤ L) (hkn : k + 3 ≤ 601024 ∧ n + 400 ≤ 7293034) (IH : ∀ Γ' h', zext Γ Γ' → zIv Γ' h' → h' 89 30 = -1 → zG (zFL l b L xs) (k + 3) (n + 400) Γ' h' 2010 [some (zR 4000000), some (zR 1), some (zR 89), some (zR 121), some (zI ((6 * c9 : Nat) : Int)), none, none] []) : zG (zFL l b L xs) k n Γ h 1190 [some (zR 4000000), some (zR 1), some (zR 89), some (zR 121), some (zI ((6 * c9 : Nat) : Int)), none, none] [] := by
  refine z_al1 dL_law_1190 (by decide) ?_
  refine z_arg (c := 1) (j := 6 * c9 + 1) (by omega) (by omega) hL hb4 (by decide) dL_law_1191 dL_law_1192 dL_law_1194 dL_law_1195 dL_law_1196 ?_
  refine z_arg (c := 2) (j := 6 * c9 + 2) (by omega) (by omega) hL hb4 (by decide) dL_law_1197 dL_law_1198 dL_law_1200 dL_law_1201 dL_law_1202 ?_
  refine z_arg (c := 3) (j := 6 * c9 + 3) (by omega) (by omega) hL hb4 (by decide) dL_law_1203 dL_law_1204 dL_law_1206 dL_law_1207 dL_law_1208 ?_
  refine z_arg (c := 4) (j := 6 * c9 + 4) (by omega) (by omega) hL hb4 (by decide) dL_law_1209 dL_law_1210 dL_law_1212 dL_law_1213 dL_law_1214 ?_
  refine z_arg (c := 5) (j := 6 * c9 + 5) (by omega) (by omega) hL hb4 (by decide) dL_law_1215 dL_law_1216 dL_law_1218 dL_law_1219 dL_law_1220 ?_
  refine z_lcv5 (mc9 := 0) (ms9 := 0) dL_law_1221 zkL_121 ziX8_gain zsX8_gain (zkB hI.base rfl) (by decide) rfl (Nat.le_of_ble_eq_true rfl) (Nat.le_of_ble_eq_true rfl) (Nat.le_of_ble_eq_true rfl) ⟨by omega, by omega⟩ (X8_gain_ct hI (zfr_rf _ _) hO (fun h1 F1 _ => ?_))
  simp only [zres]
  refine z_al2 dL_law_1224 (by decide) ?_
  refine z_arg (c := 1) (j := 6 * c9 + 1) (by omega) (by omega) hL hb4 (by decide) dL_law_1225 dL_law_1226 dL_law_1228 dL_law_1229 dL_law_1230 ?_
  refine z_arg (c := 2) (j := 6 * c9 + 2) (by omega) (by omega) hL hb4 (by decide) dL_law_1231 dL_law_1232 dL_law_1234 dL_law_1235 dL_law_1236 ?_
  refine z_arg (c := 3) (j := 6 * c9 + 3) (by omega) (by omega) hL hb4 (by decide) dL_law_1237 dL_law_1238 dL_law_1240 dL_law_1241 dL_law_1242 ?_
  refine z_arg (c := 4) (j := 6 * c9 + 4) (by omega) (by omega) hL hb4 (by decide) dL_law_1243 dL_law_1244 dL_law_1246 dL_law_1247 dL_law_1248 ?_
  refine z_arg (c := 5) (j := 6 * c9 + 5) (by omega) (by omega) hL hb4 (by decide) dL_law_1249 dL_law_1250 dL_law_1252 dL_law_1253 dL_law_1254 ?_
  refine z_lcv5 (mc9 := 0) (ms9 := 0) dL_law_1255 zkL_124 ziX9_gain zsX9_gain (zkB hI.base rfl) (by decide) rfl (Nat.le_of_ble_eq_true rfl) (Nat.le_of_ble_eq_true rfl) (Nat.le_of_ble_eq_true rfl) ⟨by omega, by omega⟩ (X9_gain_ct hI F1 (fun h2 F2 _ => ?_))
  simp only [zres]
  refine z_icmp_eq (t := 2010) dL_law_1258 (by rfl) (fun _ => ?_) (fun hne => absurd rfl hne)
  exact z_wid (by omega) (by omega) (IH _ _ (zext_rf _) (zIv_cg (zfr_S3 F2) hI) ((F2 89 30 rfl).trans hO))
set_option maxRecDepth 4000 in
theorem zLc_27 {l : Launch} {b L : Nat} {xs : Nat → Int32} {Γ : zC} {h : zM} {k n c9 : Nat} (hI : zIv Γ h) (hO : h 89 30 = -1) (hb4 : zad Γ 4000000 = b) (hL : L ≤ 3072) (hc : 6 * c9 + 6 ≤ L) (hkn : k + 3 ≤ 601024 ∧ n + 400 ≤ 7293034) (IH : ∀ Γ' h', zext Γ Γ' → zIv Γ' h' → h' 89 30 = -1 → zG (zFL l b L xs) (k + 3) (n + 400) Γ' h' 2010 [some (zR 4000000), some (zR 1), some (zR 89), some (zR 121), some (zI ((6 * c9 : Nat) : Int)), none, none] []) : zG (zFL l b L xs) k n Γ h 1455 [some (zR 4000000), some (zR 1), some (zR 89), some (zR 121), some (zI ((6 * c9 : Nat) : Int)), none, none] [] := by
  refine z_al1 dL_law_1455 (by decide) ?_
  refine z_arg (c := 1) (j := 6 * c9 + 1) (by omega) (by omega) hL hb4 (by decide) dL_law_1456 dL_law_1457 dL_law_1459 dL_law_1460 dL_law_1461 ?_
  refine z_lcv1 (mc9 := 0) (ms9 := 0) dL_law_1462 zkL_144 ziX8_breach zsX8_breach (zkB hI.base rfl) (by decide) rfl (Nat.le_of_ble_eq_true rfl) (Nat.le_of_ble_eq_true rfl) (Nat.le_of_ble_eq_true rfl) ⟨by omega, by omega⟩ (X8_breach_ct hI (zfr_rf _ _) hO (fun h1 F1 _ => ?_))
  simp only [zres]
  refine z_al2 dL_law_1465 (by decide) ?_
  refine z_arg (c := 1) (j := 6 * c9 + 1) (by omega) (by omega) hL hb4 (by decide) dL_law_1466 dL_law_1467 dL_law_1469 dL_law_1470 dL_law_1471 ?_
  refine z_lcv1 (mc9 := 0) (ms9 := 0) dL_law_1472 zkL_147 ziX9_breach zsX9_breach (zkB hI.base rfl) (by decide) rfl (Nat.le_of_ble_eq_true rfl) (Nat.le_of_ble_eq_true rfl) (Nat.le_of_ble_eq_true rfl) ⟨by omega, by omega⟩ (X9_breach_ct hI F1 (fun h2 F2 _ => ?_))
  simp only [zres]
  refine z_icmp_eq (t := 2010) dL_law_1475 (by rfl) (fun _ => ?_) (fun hne => absurd rfl hne)
  exact z_wid (by omega) (by omega) (IH _ _ (zext_rf _) (zIv_cg (zfr_S3 F2) hI) ((F2 89 30 rfl).trans hO))
set_option maxRecDepth 4000 in
theorem zLc_28 {l : Launch} {b L : Nat} {xs : Nat → Int32} {Γ : zC} {h : zM} {k n c9 : Nat} (hI : zIv Γ h) (hO : h 89 30 = -1) (hb4 : zad Γ 4000000 = b) (hL : L ≤ 3072) (hc : 6 * c9 + 6 ≤ L) (hkn : k + 3 ≤ 601024 ∧ n + 400 ≤ 7293034) (IH : ∀ Γ' h', zext Γ Γ' → zIv Γ' h' → h' 89 30 = -1 → zG (zFL l b L xs) (k + 3) (n + 400) Γ' h' 2010 [some (zR 4000000), some (zR 1), some (zR 89), some (zR 121), some (zI ((6 * c9 : Nat) : Int)), none, none] []) : zG (zFL l b L xs) k n Γ h 1480 [some (zR 4000000), some (zR 1), some (zR 89), some (zR 121), some (zI ((6 * c9 : Nat) : Int)), none, none] [] := by
  refine z_al1 dL_law_1480 (by decide) ?_
  refine z_arg (c := 1) (j := 6 * c9 + 1) (by omega) (by omega) hL hb4 (by decide) dL_law_1481 dL_law_1482 dL_law_1484 dL_law_1485 dL_law_1486 ?_
  refine z_lcv1 (mc9 := 0) (ms9 := 0) dL_law_1487 zkL_148 ziX8_fines zsX8_fines (zkB hI.base rfl) (by decide) rfl (Nat.le_of_ble_eq_true rfl) (Nat.le_of_ble_eq_true rfl) (Nat.le_of_ble_eq_true rfl) ⟨by omega, by omega⟩ (X8_fines_ct hI (zfr_rf _ _) hO (fun h1 F1 _ => ?_))
  simp only [zres]
  refine z_al2 dL_law_1490 (by decide) ?_
  refine z_arg (c := 1) (j := 6 * c9 + 1) (by omega) (by omega) hL hb4 (by decide) dL_law_1491 dL_law_1492 dL_law_1494 dL_law_1495 dL_law_1496 ?_
  refine z_lcv1 (mc9 := 0) (ms9 := 0) dL_law_1497 zkL_151 ziX9_fines zsX9_fines (zkB hI.base rfl) (by decide) rfl (Nat.le_of_ble_eq_true rfl) (Nat.le_of_ble_eq_true rfl) (Nat.le_of_ble_eq_true rfl) ⟨by omega, by omega⟩ (X9_fines_ct hI F1 (fun h2 F2 _ => ?_))
  simp only [zres]
  refine z_icmp_eq (t := 2010) dL_law_1500 (by rfl) (fun _ => ?_) (fun hne => absurd rfl hne)
  exact z_wid (by omega) (by omega) (IH _ _ (zext_rf _) (zIv_cg (zfr_S3 F2) hI) ((F2 89 30 rfl).trans hO))
set_option maxRecDepth 4000 in
theorem zLc_29 {l : Launch} {b L : Nat} {xs : Nat → Int32} {Γ : zC} {h : zM} {k n c9 : Nat} (hI : zIv Γ h) (hO : h 89 30 = -1) (hb4 : zad Γ 4000000 = b) (hL : L ≤ 3072) (hc : 6 * c9 + 6 ≤ L) (hkn : k + 3 ≤ 601024 ∧ n + 400 ≤ 7293034) (IH : ∀ Γ' h', zext Γ Γ' → zIv Γ' h' → h' 89 30 = -1 → zG (zFL l b L xs) (k + 3) (n + 400) Γ' h' 2010 [some (zR 4000000), some (zR 1), some (zR 89), some (zR 121), some (zI ((6 * c9 : Nat) : Int)), none, none] []) : zG (zFL l b L xs) k n Γ h 1505 [some (zR 4000000), some (zR 1), some (zR 89), some (zR 121), some (zI ((6 * c9 : Nat) : Int)), none, none] [] := by
  refine z_al1 dL_law_1505 (by decide) ?_
  refine z_arg (c := 1) (j := 6 * c9 + 1) (by omega) (by omega) hL hb4 (by decide) dL_law_1506 dL_law_1507 dL_law_1509 dL_law_1510 dL_law_1511 ?_
  refine z_arg (c := 2) (j := 6 * c9 + 2) (by omega) (by omega) hL hb4 (by decide) dL_law_1512 dL_law_1513 dL_law_1515 dL_law_1516 dL_law_1517 ?_
  refine z_lcv2 (mc9 := 0) (ms9 := 0) dL_law_1518 zkL_152 ziX8_safe zsX8_safe (zkB hI.base rfl) (by decide) rfl (Nat.le_of_ble_eq_true rfl) (Nat.le_of_ble_eq_true rfl) (Nat.le_of_ble_eq_true rfl) ⟨by omega, by omega⟩ (X8_safe_ct hI (zfr_rf _ _) hO (fun h1 F1 _ => ?_))
  simp only [zres]
  refine z_al2 dL_law_1521 (by decide) ?_
  refine z_arg (c := 1) (j := 6 * c9 + 1) (by omega) (by omega) hL hb4 (by decide) dL_law_1522 dL_law_1523 dL_law_1525 dL_law_1526 dL_law_1527 ?_
  refine z_arg (c := 2) (j := 6 * c9 + 2) (by omega) (by omega) hL hb4 (by decide) dL_law_1528 dL_law_1529 dL_law_1531 dL_law_1532 dL_law_1533 ?_
  refine z_lcv2 (mc9 := 0) (ms9 := 0) dL_law_1534 zkL_155 ziX9_safe zsX9_safe (zkB hI.base rfl) (by decide) rfl (Nat.le_of_ble_eq_true rfl) (Nat.le_of_ble_eq_true rfl) (Nat.le_of_ble_eq_true rfl) ⟨by omega, by omega⟩ (X9_safe_ct hI F1 (fun h2 F2 _ => ?_))
  simp only [zres]
  refine z_icmp_eq (t := 2010) dL_law_1537 (by rfl) (fun _ => ?_) (fun hne => absurd rfl hne)
  exact z_wid (by omega) (by omega) (IH _ _ (zext_rf _) (zIv_cg (zfr_S3 F2) hI) ((F2 89 30 rfl).trans hO))
set_option maxRecDepth 4000 in
theorem zLc_30 {l : Launch} {b L : Nat} {xs : Nat → Int32} {Γ : zC} {h : zM} {k n c9 : Nat} (hI : zIv Γ h) (hO : h 89 30 = -1) (hb4 : zad Γ 4000000 = b) (hL : L ≤ 3072) (hc : 6 * c9 + 6 ≤ L) (hkn : k + 3 ≤ 601024 ∧ n + 400 ≤ 7293034) (IH : ∀ Γ' h', zext Γ Γ' → zIv Γ' h' → h' 89 30 = -1 → zG (zFL l b L xs) (k + 3) (n + 400) Γ' h' 2010 [some (zR 4000000), some (zR 1), some (zR 89), some (zR 121), some (zI ((6 * c9 : Nat) : Int)), none, none] []) : zG (zFL l b L xs) k n Γ h 1542 [some (zR 4000000), some (zR 1), some (zR 89), some (zR 121), some (zI ((6 * c9 : Nat) : Int)), none, none] [] := by
  refine z_al1 dL_law_1542 (by decide) ?_
  refine z_arg (c := 1) (j := 6 * c9 + 1) (by omega) (by omega) hL hb4 (by decide) dL_law_1543 dL_law_1544 dL_law_1546 dL_law_1547 dL_law_1548 ?_
  refine z_arg (c := 2) (j := 6 * c9 + 2) (by omega) (by omega) hL hb4 (by decide) dL_law_1549 dL_law_1550 dL_law_1552 dL_law_1553 dL_law_1554 ?_
  refine z_arg (c := 3) (j := 6 * c9 + 3) (by omega) (by omega) hL hb4 (by decide) dL_law_1555 dL_law_1556 dL_law_1558 dL_law_1559 dL_law_1560 ?_
  refine z_arg (c := 4) (j := 6 * c9 + 4) (by omega) (by omega) hL hb4 (by decide) dL_law_1561 dL_law_1562 dL_law_1564 dL_law_1565 dL_law_1566 ?_
  refine z_arg (c := 5) (j := 6 * c9 + 5) (by omega) (by omega) hL hb4 (by decide) dL_law_1567 dL_law_1568 dL_law_1570 dL_law_1571 dL_law_1572 ?_
  refine z_lcv5 (mc9 := 0) (ms9 := 0) dL_law_1573 zkL_156 ziX8_game zsX8_game (zkB hI.base rfl) (by decide) rfl (Nat.le_of_ble_eq_true rfl) (Nat.le_of_ble_eq_true rfl) (Nat.le_of_ble_eq_true rfl) ⟨by omega, by omega⟩ (X8_game_ct hI (zfr_rf _ _) hO (fun h1 F1 _ => ?_))
  simp only [zres]
  refine z_al2 dL_law_1576 (by decide) ?_
  refine z_arg (c := 1) (j := 6 * c9 + 1) (by omega) (by omega) hL hb4 (by decide) dL_law_1577 dL_law_1578 dL_law_1580 dL_law_1581 dL_law_1582 ?_
  refine z_arg (c := 2) (j := 6 * c9 + 2) (by omega) (by omega) hL hb4 (by decide) dL_law_1583 dL_law_1584 dL_law_1586 dL_law_1587 dL_law_1588 ?_
  refine z_arg (c := 3) (j := 6 * c9 + 3) (by omega) (by omega) hL hb4 (by decide) dL_law_1589 dL_law_1590 dL_law_1592 dL_law_1593 dL_law_1594 ?_
  refine z_arg (c := 4) (j := 6 * c9 + 4) (by omega) (by omega) hL hb4 (by decide) dL_law_1595 dL_law_1596 dL_law_1598 dL_law_1599 dL_law_1600 ?_
  refine z_arg (c := 5) (j := 6 * c9 + 5) (by omega) (by omega) hL hb4 (by decide) dL_law_1601 dL_law_1602 dL_law_1604 dL_law_1605 dL_law_1606 ?_
  refine z_lcv5 (mc9 := 0) (ms9 := 0) dL_law_1607 zkL_159 ziX9_game zsX9_game (zkB hI.base rfl) (by decide) rfl (Nat.le_of_ble_eq_true rfl) (Nat.le_of_ble_eq_true rfl) (Nat.le_of_ble_eq_true rfl) ⟨by omega, by omega⟩ (X9_game_ct hI F1 (fun h2 F2 _ => ?_))
  simp only [zres]
  refine z_icmp_eq (t := 2010) dL_law_1610 (by rfl) (fun _ => ?_) (fun hne => absurd rfl hne)
  exact z_wid (by omega) (by omega) (IH _ _ (zext_rf _) (zIv_cg (zfr_S3 F2) hI) ((F2 89 30 rfl).trans hO))
set_option maxRecDepth 4000 in
theorem zLc_31 {l : Launch} {b L : Nat} {xs : Nat → Int32} {Γ : zC} {h : zM} {k n c9 : Nat} (hI : zIv Γ h) (hO : h 89 30 = -1) (hb4 : zad Γ 4000000 = b) (hL : L ≤ 3072) (hc : 6 * c9 + 6 ≤ L) (hkn : k + 3 ≤ 601024 ∧ n + 400 ≤ 7293034) (IH : ∀ Γ' h', zext Γ Γ' → zIv Γ' h' → h' 89 30 = -1 → zG (zFL l b L xs) (k + 3) (n + 400) Γ' h' 2010 [some (zR 4000000), some (zR 1), some (zR 89), some (zR 121), some (zI ((6 * c9 : Nat) : Int)), none, none] []) : zG (zFL l b L xs) k n Γ h 1615 [some (zR 4000000), some (zR 1), some (zR 89), some (zR 121), some (zI ((6 * c9 : Nat) : Int)), none, none] [] := by
  refine z_al1 dL_law_1615 (by decide) ?_
  refine z_arg (c := 1) (j := 6 * c9 + 1) (by omega) (by omega) hL hb4 (by decide) dL_law_1616 dL_law_1617 dL_law_1619 dL_law_1620 dL_law_1621 ?_
  refine z_arg (c := 2) (j := 6 * c9 + 2) (by omega) (by omega) hL hb4 (by decide) dL_law_1622 dL_law_1623 dL_law_1625 dL_law_1626 dL_law_1627 ?_
  refine z_lcv2 (mc9 := 0) (ms9 := 0) dL_law_1628 zkL_160 ziX8_spoken zsX8_spoken (zkB hI.base rfl) (by decide) rfl (Nat.le_of_ble_eq_true rfl) (Nat.le_of_ble_eq_true rfl) (Nat.le_of_ble_eq_true rfl) ⟨by omega, by omega⟩ (X8_spoken_ct hI (zfr_rf _ _) hO (fun h1 F1 _ => ?_))
  simp only [zres]
  refine z_al2 dL_law_1631 (by decide) ?_
  refine z_arg (c := 1) (j := 6 * c9 + 1) (by omega) (by omega) hL hb4 (by decide) dL_law_1632 dL_law_1633 dL_law_1635 dL_law_1636 dL_law_1637 ?_
  refine z_arg (c := 2) (j := 6 * c9 + 2) (by omega) (by omega) hL hb4 (by decide) dL_law_1638 dL_law_1639 dL_law_1641 dL_law_1642 dL_law_1643 ?_
  refine z_lcv2 (mc9 := 0) (ms9 := 0) dL_law_1644 zkL_163 ziX9_spoken zsX9_spoken (zkB hI.base rfl) (by decide) rfl (Nat.le_of_ble_eq_true rfl) (Nat.le_of_ble_eq_true rfl) (Nat.le_of_ble_eq_true rfl) ⟨by omega, by omega⟩ (X9_spoken_ct hI F1 (fun h2 F2 _ => ?_))
  simp only [zres]
  refine z_icmp_eq (t := 2010) dL_law_1647 (by rfl) (fun _ => ?_) (fun hne => absurd rfl hne)
  exact z_wid (by omega) (by omega) (IH _ _ (zext_rf _) (zIv_cg (zfr_S3 F2) hI) ((F2 89 30 rfl).trans hO))
set_option maxRecDepth 4000 in
theorem zLc_32 {l : Launch} {b L : Nat} {xs : Nat → Int32} {Γ : zC} {h : zM} {k n c9 : Nat} (hI : zIv Γ h) (hO : h 89 30 = -1) (hb4 : zad Γ 4000000 = b) (hL : L ≤ 3072) (hc : 6 * c9 + 6 ≤ L) (hkn : k + 3 ≤ 601024 ∧ n + 400 ≤ 7293034) (IH : ∀ Γ' h', zext Γ Γ' → zIv Γ' h' → h' 89 30 = -1 → zG (zFL l b L xs) (k + 3) (n + 400) Γ' h' 2010 [some (zR 4000000), some (zR 1), some (zR 89), some (zR 121), some (zI ((6 * c9 : Nat) : Int)), none, none] []) : zG (zFL l b L xs) k n Γ h 1652 [some (zR 4000000), some (zR 1), some (zR 89), some (zR 121), some (zI ((6 * c9 : Nat) : Int)), none, none] [] := by
  refine z_al1 dL_law_1652 (by decide) ?_
  refine z_arg (c := 1) (j := 6 * c9 + 1) (by omega) (by omega) hL hb4 (by decide) dL_law_1653 dL_law_1654 dL_law_1656 dL_law_1657 dL_law_1658 ?_
  refine z_arg (c := 2) (j := 6 * c9 + 2) (by omega) (by omega) hL hb4 (by decide) dL_law_1659 dL_law_1660 dL_law_1662 dL_law_1663 dL_law_1664 ?_
  refine z_arg (c := 3) (j := 6 * c9 + 3) (by omega) (by omega) hL hb4 (by decide) dL_law_1665 dL_law_1666 dL_law_1668 dL_law_1669 dL_law_1670 ?_
  refine z_lcv3 (mc9 := 0) (ms9 := 0) dL_law_1671 zkL_164 ziX8_carried zsX8_carried (zkB hI.base rfl) (by decide) rfl (Nat.le_of_ble_eq_true rfl) (Nat.le_of_ble_eq_true rfl) (Nat.le_of_ble_eq_true rfl) ⟨by omega, by omega⟩ (X8_carried_ct hI (zfr_rf _ _) hO (fun v1 h1 C1 F1 _ => ?_))
  simp only [zres]
  refine z_al2 dL_law_1674 (by decide) ?_
  refine z_arg (c := 1) (j := 6 * c9 + 1) (by omega) (by omega) hL hb4 (by decide) dL_law_1675 dL_law_1676 dL_law_1678 dL_law_1679 dL_law_1680 ?_
  refine z_arg (c := 2) (j := 6 * c9 + 2) (by omega) (by omega) hL hb4 (by decide) dL_law_1681 dL_law_1682 dL_law_1684 dL_law_1685 dL_law_1686 ?_
  refine z_arg (c := 3) (j := 6 * c9 + 3) (by omega) (by omega) hL hb4 (by decide) dL_law_1687 dL_law_1688 dL_law_1690 dL_law_1691 dL_law_1692 ?_
  refine z_lcv3 (mc9 := 0) (ms9 := 0) dL_law_1693 zkL_167 ziX9_carried zsX9_carried (zkB hI.base rfl) (by decide) rfl (Nat.le_of_ble_eq_true rfl) (Nat.le_of_ble_eq_true rfl) (Nat.le_of_ble_eq_true rfl) ⟨by omega, by omega⟩ (X9_carried_ct hI F1 (fun v2 h2 C2 F2 _ => ?_))
  simp only [zres]
  refine z_icmp_eq (t := 2010) dL_law_1696 (by rfl) (fun _ => ?_) (fun hne => absurd (zvCar_un C1 C2) hne)
  exact z_wid (by omega) (by omega) (IH _ _ (zext_rf _) (zIv_cg (zfr_S3 F2) hI) ((F2 89 30 rfl).trans hO))
set_option maxRecDepth 4000 in
theorem zLc_33 {l : Launch} {b L : Nat} {xs : Nat → Int32} {Γ : zC} {h : zM} {k n c9 : Nat} (hI : zIv Γ h) (hO : h 89 30 = -1) (hb4 : zad Γ 4000000 = b) (hL : L ≤ 3072) (hc : 6 * c9 + 6 ≤ L) (hkn : k + 3 ≤ 601024 ∧ n + 400 ≤ 7293034) (IH : ∀ Γ' h', zext Γ Γ' → zIv Γ' h' → h' 89 30 = -1 → zG (zFL l b L xs) (k + 3) (n + 400) Γ' h' 2010 [some (zR 4000000), some (zR 1), some (zR 89), some (zR 121), some (zI ((6 * c9 : Nat) : Int)), none, none] []) : zG (zFL l b L xs) k n Γ h 1701 [some (zR 4000000), some (zR 1), some (zR 89), some (zR 121), some (zI ((6 * c9 : Nat) : Int)), none, none] [] := by
  refine z_al1 dL_law_1701 (by decide) ?_
  refine z_arg (c := 1) (j := 6 * c9 + 1) (by omega) (by omega) hL hb4 (by decide) dL_law_1702 dL_law_1703 dL_law_1705 dL_law_1706 dL_law_1707 ?_
  refine z_arg (c := 2) (j := 6 * c9 + 2) (by omega) (by omega) hL hb4 (by decide) dL_law_1708 dL_law_1709 dL_law_1711 dL_law_1712 dL_law_1713 ?_
  refine z_arg (c := 3) (j := 6 * c9 + 3) (by omega) (by omega) hL hb4 (by decide) dL_law_1714 dL_law_1715 dL_law_1717 dL_law_1718 dL_law_1719 ?_
  refine z_lcv3 (mc9 := 0) (ms9 := 0) dL_law_1720 zkL_168 ziX8_near zsX8_near (zkB hI.base rfl) (by decide) rfl (Nat.le_of_ble_eq_true rfl) (Nat.le_of_ble_eq_true rfl) (Nat.le_of_ble_eq_true rfl) ⟨by omega, by omega⟩ (X8_near_ct hI (zfr_rf _ _) hO (fun h1 F1 _ => ?_))
  simp only [zres]
  refine z_al2 dL_law_1723 (by decide) ?_
  refine z_arg (c := 1) (j := 6 * c9 + 1) (by omega) (by omega) hL hb4 (by decide) dL_law_1724 dL_law_1725 dL_law_1727 dL_law_1728 dL_law_1729 ?_
  refine z_arg (c := 2) (j := 6 * c9 + 2) (by omega) (by omega) hL hb4 (by decide) dL_law_1730 dL_law_1731 dL_law_1733 dL_law_1734 dL_law_1735 ?_
  refine z_arg (c := 3) (j := 6 * c9 + 3) (by omega) (by omega) hL hb4 (by decide) dL_law_1736 dL_law_1737 dL_law_1739 dL_law_1740 dL_law_1741 ?_
  refine z_lcv3 (mc9 := 0) (ms9 := 0) dL_law_1742 zkL_171 ziX9_near zsX9_near (zkB hI.base rfl) (by decide) rfl (Nat.le_of_ble_eq_true rfl) (Nat.le_of_ble_eq_true rfl) (Nat.le_of_ble_eq_true rfl) ⟨by omega, by omega⟩ (X9_near_ct hI F1 (fun h2 F2 _ => ?_))
  simp only [zres]
  refine z_icmp_eq (t := 2010) dL_law_1745 (by rfl) (fun _ => ?_) (fun hne => absurd rfl hne)
  exact z_wid (by omega) (by omega) (IH _ _ (zext_rf _) (zIv_cg (zfr_S3 F2) hI) ((F2 89 30 rfl).trans hO))
set_option maxRecDepth 4000 in
theorem zLc_34 {l : Launch} {b L : Nat} {xs : Nat → Int32} {Γ : zC} {h : zM} {k n c9 : Nat} (hI : zIv Γ h) (hO : h 89 30 = -1) (hb4 : zad Γ 4000000 = b) (hL : L ≤ 3072) (hc : 6 * c9 + 6 ≤ L) (hkn : k + 3 ≤ 601024 ∧ n + 400 ≤ 7293034) (IH : ∀ Γ' h', zext Γ Γ' → zIv Γ' h' → h' 89 30 = -1 → zG (zFL l b L xs) (k + 3) (n + 400) Γ' h' 2010 [some (zR 4000000), some (zR 1), some (zR 89), some (zR 121), some (zI ((6 * c9 : Nat) : Int)), none, none] []) : zG (zFL l b L xs) k n Γ h 1750 [some (zR 4000000), some (zR 1), some (zR 89), some (zR 121), some (zI ((6 * c9 : Nat) : Int)), none, none] [] := by
  refine z_al1 dL_law_1750 (by decide) ?_
  refine z_arg (c := 1) (j := 6 * c9 + 1) (by omega) (by omega) hL hb4 (by decide) dL_law_1751 dL_law_1752 dL_law_1754 dL_law_1755 dL_law_1756 ?_
  refine z_arg (c := 2) (j := 6 * c9 + 2) (by omega) (by omega) hL hb4 (by decide) dL_law_1757 dL_law_1758 dL_law_1760 dL_law_1761 dL_law_1762 ?_
  refine z_arg (c := 3) (j := 6 * c9 + 3) (by omega) (by omega) hL hb4 (by decide) dL_law_1763 dL_law_1764 dL_law_1766 dL_law_1767 dL_law_1768 ?_
  refine z_arg (c := 4) (j := 6 * c9 + 4) (by omega) (by omega) hL hb4 (by decide) dL_law_1769 dL_law_1770 dL_law_1772 dL_law_1773 dL_law_1774 ?_
  refine z_lcv4 (mc9 := 0) (ms9 := 0) dL_law_1775 zkL_172 ziX8_joint zsX8_joint (zkB hI.base rfl) (by decide) rfl (Nat.le_of_ble_eq_true rfl) (Nat.le_of_ble_eq_true rfl) (Nat.le_of_ble_eq_true rfl) ⟨by omega, by omega⟩ (X8_joint_ct hI (zfr_rf _ _) hO (fun h1 F1 _ => ?_))
  simp only [zres]
  refine z_al2 dL_law_1778 (by decide) ?_
  refine z_arg (c := 1) (j := 6 * c9 + 1) (by omega) (by omega) hL hb4 (by decide) dL_law_1779 dL_law_1780 dL_law_1782 dL_law_1783 dL_law_1784 ?_
  refine z_arg (c := 2) (j := 6 * c9 + 2) (by omega) (by omega) hL hb4 (by decide) dL_law_1785 dL_law_1786 dL_law_1788 dL_law_1789 dL_law_1790 ?_
  refine z_arg (c := 3) (j := 6 * c9 + 3) (by omega) (by omega) hL hb4 (by decide) dL_law_1791 dL_law_1792 dL_law_1794 dL_law_1795 dL_law_1796 ?_
  refine z_arg (c := 4) (j := 6 * c9 + 4) (by omega) (by omega) hL hb4 (by decide) dL_law_1797 dL_law_1798 dL_law_1800 dL_law_1801 dL_law_1802 ?_
  refine z_lcv4 (mc9 := 0) (ms9 := 0) dL_law_1803 zkL_175 ziX9_joint zsX9_joint (zkB hI.base rfl) (by decide) rfl (Nat.le_of_ble_eq_true rfl) (Nat.le_of_ble_eq_true rfl) (Nat.le_of_ble_eq_true rfl) ⟨by omega, by omega⟩ (X9_joint_ct hI F1 (fun h2 F2 _ => ?_))
  simp only [zres]
  refine z_icmp_eq (t := 2010) dL_law_1806 (by rfl) (fun _ => ?_) (fun hne => absurd rfl hne)
  exact z_wid (by omega) (by omega) (IH _ _ (zext_rf _) (zIv_cg (zfr_S3 F2) hI) ((F2 89 30 rfl).trans hO))
set_option maxRecDepth 4000 in
theorem zLc_35 {l : Launch} {b L : Nat} {xs : Nat → Int32} {Γ : zC} {h : zM} {k n c9 : Nat} (hI : zIv Γ h) (hO : h 89 30 = -1) (hb4 : zad Γ 4000000 = b) (hL : L ≤ 3072) (hc : 6 * c9 + 6 ≤ L) (hkn : k + 3 ≤ 601024 ∧ n + 400 ≤ 7293034) (IH : ∀ Γ' h', zext Γ Γ' → zIv Γ' h' → h' 89 30 = -1 → zG (zFL l b L xs) (k + 3) (n + 400) Γ' h' 2010 [some (zR 4000000), some (zR 1), some (zR 89), some (zR 121), some (zI ((6 * c9 : Nat) : Int)), none, none] []) : zG (zFL l b L xs) k n Γ h 1811 [some (zR 4000000), some (zR 1), some (zR 89), some (zR 121), some (zI ((6 * c9 : Nat) : Int)), none, none] [] := by
  refine z_al1 dL_law_1811 (by decide) ?_
  refine z_arg (c := 1) (j := 6 * c9 + 1) (by omega) (by omega) hL hb4 (by decide) dL_law_1812 dL_law_1813 dL_law_1815 dL_law_1816 dL_law_1817 ?_
  refine z_arg (c := 2) (j := 6 * c9 + 2) (by omega) (by omega) hL hb4 (by decide) dL_law_1818 dL_law_1819 dL_law_1821 dL_law_1822 dL_law_1823 ?_
  refine z_arg (c := 3) (j := 6 * c9 + 3) (by omega) (by omega) hL hb4 (by decide) dL_law_1824 dL_law_1825 dL_law_1827 dL_law_1828 dL_law_1829 ?_
  refine z_lcv3 (mc9 := 0) (ms9 := 0) dL_law_1830 zkL_176 ziX8_worst zsX8_worst (zkB hI.base rfl) (by decide) rfl (Nat.le_of_ble_eq_true rfl) (Nat.le_of_ble_eq_true rfl) (Nat.le_of_ble_eq_true rfl) ⟨by omega, by omega⟩ (X8_worst_ct hI (zfr_rf _ _) (fun h1 F1 _ => ?_))
  simp only [zres]
  refine z_al2 dL_law_1833 (by decide) ?_
  refine z_arg (c := 1) (j := 6 * c9 + 1) (by omega) (by omega) hL hb4 (by decide) dL_law_1834 dL_law_1835 dL_law_1837 dL_law_1838 dL_law_1839 ?_
  refine z_arg (c := 2) (j := 6 * c9 + 2) (by omega) (by omega) hL hb4 (by decide) dL_law_1840 dL_law_1841 dL_law_1843 dL_law_1844 dL_law_1845 ?_
  refine z_arg (c := 3) (j := 6 * c9 + 3) (by omega) (by omega) hL hb4 (by decide) dL_law_1846 dL_law_1847 dL_law_1849 dL_law_1850 dL_law_1851 ?_
  refine z_lcv3 (mc9 := 0) (ms9 := 0) dL_law_1852 zkL_179 ziX9_worst zsX9_worst (zkB hI.base rfl) (by decide) rfl (Nat.le_of_ble_eq_true rfl) (Nat.le_of_ble_eq_true rfl) (Nat.le_of_ble_eq_true rfl) ⟨by omega, by omega⟩ (X9_worst_ct hI F1 hO (fun h2 F2 o2 _ => ?_))
  simp only [zres]
  refine z_icmp_eq (t := 2010) dL_law_1855 (by rfl) (fun _ => ?_) (fun hne => absurd rfl hne)
  exact z_wid (by omega) (by omega) (IH _ _ (zext_rf _) (zIv_cg F2 hI) o2)
set_option maxRecDepth 4000 in
theorem zLc_36 {l : Launch} {b L : Nat} {xs : Nat → Int32} {Γ : zC} {h : zM} {k n c9 : Nat} (hI : zIv Γ h) (hO : h 89 30 = -1) (hb4 : zad Γ 4000000 = b) (hL : L ≤ 3072) (hc : 6 * c9 + 6 ≤ L) (hkn : k + 3 ≤ 601024 ∧ n + 400 ≤ 7293034) (IH : ∀ Γ' h', zext Γ Γ' → zIv Γ' h' → h' 89 30 = -1 → zG (zFL l b L xs) (k + 3) (n + 400) Γ' h' 2010 [some (zR 4000000), some (zR 1), some (zR 89), some (zR 121), some (zI ((6 * c9 : Nat) : Int)), none, none] []) : zG (zFL l b L xs) k n Γ h 1860 [some (zR 4000000), some (zR 1), some (zR 89), some (zR 121), some (zI ((6 * c9 : Nat) : Int)), none, none] [] := by
  refine z_al1 dL_law_1860 (by decide) ?_
  refine z_lcv0 (mc9 := 0) (ms9 := 0) dL_law_1861 zkL_180 ziX8_owes zsX8_owes (zkB hI.base rfl) (by decide) rfl (Nat.le_of_ble_eq_true rfl) (Nat.le_of_ble_eq_true rfl) (Nat.le_of_ble_eq_true rfl) ⟨by omega, by omega⟩ (X8_owes_ct hI (zfr_rf _ _) hO (fun h1 F1 _ => ?_))
  simp only [zres]
  refine z_al2 dL_law_1864 (by decide) ?_
  refine z_lcv0 (mc9 := 0) (ms9 := 0) dL_law_1865 zkL_183 ziX9_owes zsX9_owes (zkB hI.base rfl) (by decide) rfl (Nat.le_of_ble_eq_true rfl) (Nat.le_of_ble_eq_true rfl) (Nat.le_of_ble_eq_true rfl) ⟨by omega, by omega⟩ (X9_owes_ct hI F1 (fun h2 F2 _ => ?_))
  simp only [zres]
  refine z_icmp_eq (t := 2010) dL_law_1868 (by rfl) (fun _ => ?_) (fun hne => absurd rfl hne)
  exact z_wid (by omega) (by omega) (IH _ _ (zext_rf _) (zIv_cg (zfr_S3 F2) hI) ((F2 89 30 rfl).trans hO))
set_option maxRecDepth 4000 in
theorem zLc_37 {l : Launch} {b L : Nat} {xs : Nat → Int32} {Γ : zC} {h : zM} {k n c9 : Nat} (hI : zIv Γ h) (hO : h 89 30 = -1) (hb4 : zad Γ 4000000 = b) (hL : L ≤ 3072) (hc : 6 * c9 + 6 ≤ L) (hkn : k + 3 ≤ 601024 ∧ n + 400 ≤ 7293034) (IH : ∀ Γ' h', zext Γ Γ' → zIv Γ' h' → h' 89 30 = -1 → zG (zFL l b L xs) (k + 3) (n + 400) Γ' h' 2010 [some (zR 4000000), some (zR 1), some (zR 89), some (zR 121), some (zI ((6 * c9 : Nat) : Int)), none, none] []) : zG (zFL l b L xs) k n Γ h 1873 [some (zR 4000000), some (zR 1), some (zR 89), some (zR 121), some (zI ((6 * c9 : Nat) : Int)), none, none] [] := by
  refine z_al1 dL_law_1873 (by decide) ?_
  refine z_arg (c := 1) (j := 6 * c9 + 1) (by omega) (by omega) hL hb4 (by decide) dL_law_1874 dL_law_1875 dL_law_1877 dL_law_1878 dL_law_1879 ?_
  refine z_arg (c := 2) (j := 6 * c9 + 2) (by omega) (by omega) hL hb4 (by decide) dL_law_1880 dL_law_1881 dL_law_1883 dL_law_1884 dL_law_1885 ?_
  refine z_lcv2 (mc9 := 0) (ms9 := 0) dL_law_1886 zkL_184 ziX8_calendar zsX8_calendar (zkB hI.base rfl) (by decide) rfl (Nat.le_of_ble_eq_true rfl) (Nat.le_of_ble_eq_true rfl) (Nat.le_of_ble_eq_true rfl) ⟨by omega, by omega⟩ (X8_calendar_ct hI (zfr_rf _ _) hO (fun h1 F1 _ => ?_))
  simp only [zres]
  refine z_al2 dL_law_1889 (by decide) ?_
  refine z_arg (c := 1) (j := 6 * c9 + 1) (by omega) (by omega) hL hb4 (by decide) dL_law_1890 dL_law_1891 dL_law_1893 dL_law_1894 dL_law_1895 ?_
  refine z_arg (c := 2) (j := 6 * c9 + 2) (by omega) (by omega) hL hb4 (by decide) dL_law_1896 dL_law_1897 dL_law_1899 dL_law_1900 dL_law_1901 ?_
  refine z_lcv2 (mc9 := 0) (ms9 := 0) dL_law_1902 zkL_187 ziX9_calendar zsX9_calendar (zkB hI.base rfl) (by decide) rfl (Nat.le_of_ble_eq_true rfl) (Nat.le_of_ble_eq_true rfl) (Nat.le_of_ble_eq_true rfl) ⟨by omega, by omega⟩ (X9_calendar_ct hI F1 (fun h2 F2 _ => ?_))
  simp only [zres]
  refine z_icmp_eq (t := 2010) dL_law_1905 (by rfl) (fun _ => ?_) (fun hne => absurd rfl hne)
  exact z_wid (by omega) (by omega) (IH _ _ (zext_rf _) (zIv_cg (zfr_S3 F2) hI) ((F2 89 30 rfl).trans hO))
set_option maxRecDepth 4000 in
theorem zLc_38 {l : Launch} {b L : Nat} {xs : Nat → Int32} {Γ : zC} {h : zM} {k n c9 : Nat} (hI : zIv Γ h) (hO : h 89 30 = -1) (hb4 : zad Γ 4000000 = b) (hL : L ≤ 3072) (hc : 6 * c9 + 6 ≤ L) (hkn : k + 3 ≤ 601024 ∧ n + 400 ≤ 7293034) (IH : ∀ Γ' h', zext Γ Γ' → zIv Γ' h' → h' 89 30 = -1 → zG (zFL l b L xs) (k + 3) (n + 400) Γ' h' 2010 [some (zR 4000000), some (zR 1), some (zR 89), some (zR 121), some (zI ((6 * c9 : Nat) : Int)), none, none] []) : zG (zFL l b L xs) k n Γ h 1910 [some (zR 4000000), some (zR 1), some (zR 89), some (zR 121), some (zI ((6 * c9 : Nat) : Int)), none, none] [] := by
  refine z_al1 dL_law_1910 (by decide) ?_
  refine z_arg (c := 1) (j := 6 * c9 + 1) (by omega) (by omega) hL hb4 (by decide) dL_law_1911 dL_law_1912 dL_law_1914 dL_law_1915 dL_law_1916 ?_
  refine z_arg (c := 2) (j := 6 * c9 + 2) (by omega) (by omega) hL hb4 (by decide) dL_law_1917 dL_law_1918 dL_law_1920 dL_law_1921 dL_law_1922 ?_
  refine z_arg (c := 3) (j := 6 * c9 + 3) (by omega) (by omega) hL hb4 (by decide) dL_law_1923 dL_law_1924 dL_law_1926 dL_law_1927 dL_law_1928 ?_
  refine z_lcv3 (mc9 := 0) (ms9 := 0) dL_law_1929 zkL_188 ziX8_twins zsX8_twins (zkB hI.base rfl) (by decide) rfl (Nat.le_of_ble_eq_true rfl) (Nat.le_of_ble_eq_true rfl) (Nat.le_of_ble_eq_true rfl) ⟨by omega, by omega⟩ (X8_twins_ct hI (zfr_rf _ _) hO (fun h1 F1 _ => ?_))
  simp only [zres]
  refine z_al2 dL_law_1932 (by decide) ?_
  refine z_arg (c := 1) (j := 6 * c9 + 1) (by omega) (by omega) hL hb4 (by decide) dL_law_1933 dL_law_1934 dL_law_1936 dL_law_1937 dL_law_1938 ?_
  refine z_arg (c := 2) (j := 6 * c9 + 2) (by omega) (by omega) hL hb4 (by decide) dL_law_1939 dL_law_1940 dL_law_1942 dL_law_1943 dL_law_1944 ?_
  refine z_arg (c := 3) (j := 6 * c9 + 3) (by omega) (by omega) hL hb4 (by decide) dL_law_1945 dL_law_1946 dL_law_1948 dL_law_1949 dL_law_1950 ?_
  refine z_lcv3 (mc9 := 0) (ms9 := 0) dL_law_1951 zkL_191 ziX9_twins zsX9_twins (zkB hI.base rfl) (by decide) rfl (Nat.le_of_ble_eq_true rfl) (Nat.le_of_ble_eq_true rfl) (Nat.le_of_ble_eq_true rfl) ⟨by omega, by omega⟩ (X9_twins_ct hI F1 (fun h2 F2 _ => ?_))
  simp only [zres]
  refine z_icmp_eq (t := 2010) dL_law_1954 (by rfl) (fun _ => ?_) (fun hne => absurd rfl hne)
  exact z_wid (by omega) (by omega) (IH _ _ (zext_rf _) (zIv_cg (zfr_S3 F2) hI) ((F2 89 30 rfl).trans hO))
set_option maxRecDepth 4000 in
theorem zLc_41 {l : Launch} {b L : Nat} {xs : Nat → Int32} {Γ : zC} {h : zM} {k n c9 : Nat} (hI : zIv Γ h) (hO : h 89 30 = -1) (hb4 : zad Γ 4000000 = b) (hL : L ≤ 3072) (hc : 6 * c9 + 6 ≤ L) (hkn : k + 3 ≤ 601024 ∧ n + 400 ≤ 7293034) (IH : ∀ Γ' h', zext Γ Γ' → zIv Γ' h' → h' 89 30 = -1 → zG (zFL l b L xs) (k + 3) (n + 400) Γ' h' 2010 [some (zR 4000000), some (zR 1), some (zR 89), some (zR 121), some (zI ((6 * c9 : Nat) : Int)), none, none] []) : zG (zFL l b L xs) k n Γ h 1985 [some (zR 4000000), some (zR 1), some (zR 89), some (zR 121), some (zI ((6 * c9 : Nat) : Int)), none, none] [] := by
  refine z_al1 dL_law_1985 (by decide) ?_
  refine z_arg (c := 1) (j := 6 * c9 + 1) (by omega) (by omega) hL hb4 (by decide) dL_law_1986 dL_law_1987 dL_law_1989 dL_law_1990 dL_law_1991 ?_
  refine z_lcv1 (mc9 := 0) (ms9 := 0) dL_law_1992 zkL_200 ziX8_count zsX8_count (zkB hI.base rfl) (by decide) rfl (Nat.le_of_ble_eq_true rfl) (Nat.le_of_ble_eq_true rfl) (Nat.le_of_ble_eq_true rfl) ⟨by omega, by omega⟩ (X8_count_ct hI (zfr_rf _ _) (fun h1 F1 _ => ?_))
  simp only [zres]
  refine z_al2 dL_law_1995 (by decide) ?_
  refine z_arg (c := 1) (j := 6 * c9 + 1) (by omega) (by omega) hL hb4 (by decide) dL_law_1996 dL_law_1997 dL_law_1999 dL_law_2000 dL_law_2001 ?_
  refine z_lcv1 (mc9 := 0) (ms9 := 0) dL_law_2002 zkL_203 ziX9_count zsX9_count (zkB hI.base rfl) (by decide) rfl (Nat.le_of_ble_eq_true rfl) (Nat.le_of_ble_eq_true rfl) (Nat.le_of_ble_eq_true rfl) ⟨by omega, by omega⟩ (X9_count_ct hI F1 (fun h2 F2 _ => ?_))
  simp only [zres]
  refine z_icmp_eq (t := 2010) dL_law_2005 (by rfl) (fun _ => ?_) (fun hne => absurd rfl hne)
  exact z_wid (by omega) (by omega) (IH _ _ (zext_rf _) (zIv_cg (zfr_S3 F2) hI) ((F2 89 30 rfl).trans hO))
