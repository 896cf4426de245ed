/-! SUMS paid: cant, near, joint -/
def zvCant (h : zM) (i r j : Int) : Int := if (0 ≤ i ∧ i < h 89 22) ∧ (0 ≤ r ∧ r ≤ 7) ∧ -1 ≤ j then zsc (zup9 (zbF h i (h 89 29)) r (h 89 32).toNat) j 200 1 0 else -1
set_option maxRecDepth 4000 in
theorem X8_cant_ct {l : Launch} {Γ : zC} {h0 h : zM} {Q : Option zV → zC → zM → Prop} {i r j : Int} (hI : zIv Γ h0) (hF : zfr zSS h0 h) (hO : h0 89 30 = -1) (hQ : ∀ h9, zfr zSS h0 h9 → Q (some (zI (zvCant h0 i r j))) Γ h9) : zCT l mX8_cant 5 0 0 Γ [zR 1, zI i, zI r, zI j] h Q := by
  have hΓ := hI.base
  have hx2 := hI.isl
  have hx3 := hI.hnd
  obtain ⟨hd, hhd⟩ := Int.eq_ofNat_of_zero_le (show 0 ≤ h0 89 32 by omega)
  have hdn : (h0 89 32).toNat = hd := by omega
  have hnw := hI.now
  refine zCT_of (by decide) (Nat.le_of_ble_eq_true rfl) (ls := [some (zR 1), some (zI i), some (zI r), some (zI j)]) rfl ?_
  refine z_al0 dX8_cant_0 (by first | decide | omega | assumption) ?_
  refine z_getR zfX8_35 dX8_cant_1 (zkB hΓ rfl) rfl (zsB hΓ rfl) (zvB hΓ (by decide)) ?_
  refine z_il1 dX8_cant_4 ?_
  refine zcv1 dX8_cant_5 zkX8_114 ziX7_isIsle zsX7_isIsle (zkB hΓ rfl) (by decide) rfl (Nat.le_of_ble_eq_true rfl) (by decide) (by first | decide | omega) ⟨Nat.le_refl _, Nat.le_refl _⟩ (X7_isIsle_ct hI hF (fun hg1 _ => ?_) (fun hg1 _ => ?_))
  · try simp only [zup_ap, zup_row, ne_eq, not_false_eq_true, zres, Int.toNat_natCast, reduceIte, Nat.reduceEqDiff, Nat.reduceAdd, and_self, and_true, true_and, and_false, false_and]
    refine z_if_eq (t := 23) dX8_cant_8 (by rfl) (fun _ => ?_) (fun hx => absurd hx (by decide))
    refine z_iconst dX8_cant_23 (by decide) ?_
    refine z_iret dX8_cant_24 rfl (Nat.le_refl _) (Nat.le_refl _) (zext_rf _) (fun hrr => ?_)
    have hw9 := hQ _ hF
    unfold zvCant at hw9
    rw [if_neg (by omega)] at hw9
    exact hw9
  · try simp only [zup_ap, zup_row, ne_eq, not_false_eq_true, zres, Int.toNat_natCast, reduceIte, Nat.reduceEqDiff, Nat.reduceAdd, and_self, and_true, true_and, and_false, false_and]
    refine z_if_eq (t := 23) dX8_cant_8 (by rfl) (fun hx => absurd hx (by decide)) (fun _ => ?_)
    refine z_il2 dX8_cant_11 ?_
    refine zcs1 dX8_cant_12 zkX8_165 ztX8_isRules (Nat.le_of_ble_eq_true rfl) (by decide) (by first | decide | omega) ⟨Nat.le_refl _, Nat.le_refl _⟩ (X8_isRules_ct (fun hg2 _ => ?_) (fun hg2 _ => ?_))
    · try simp only [zup_ap, zup_row, ne_eq, not_false_eq_true, zres, Int.toNat_natCast, reduceIte, Nat.reduceEqDiff, Nat.reduceAdd, and_self, and_true, true_and, and_false, false_and]
      refine z_if_eq (t := 23) dX8_cant_15 (by rfl) (fun _ => ?_) (fun hx => absurd hx (by decide))
      refine z_iconst dX8_cant_23 (by decide) ?_
      refine z_iret dX8_cant_24 rfl (Nat.le_refl _) (Nat.le_refl _) (zext_rf _) (fun hrr => ?_)
      have hw9 := hQ _ hF
      unfold zvCant at hw9
      rw [if_neg (by omega)] at hw9
      exact hw9
    · try simp only [zup_ap, zup_row, ne_eq, not_false_eq_true, zres, Int.toNat_natCast, reduceIte, Nat.reduceEqDiff, Nat.reduceAdd, and_self, and_true, true_and, and_false, false_and]
      refine z_if_eq (t := 23) dX8_cant_15 (by rfl) (fun hx => absurd hx (by decide)) (fun _ => ?_)
      refine z_il3 dX8_cant_18 ?_
      refine z_iconst dX8_cant_19 (by decide) ?_
      refine z_icmp_ge (t := 25) dX8_cant_20 (by rfl) (fun ht20 => ?_) (fun hf20 => ?_)
      · refine z_al0 dX8_cant_25 (by first | decide | omega | assumption) ?_
        refine z_il1 dX8_cant_26 ?_
        refine z_al0 dX8_cant_27 (by first | decide | omega | assumption) ?_
        refine z_getI zfX8_79 dX8_cant_28 (zkB hΓ rfl) rfl ?_
        rw [hF 1 11 rfl, hI.hnd.1, hhd]
        try simp only [zup_ap, zup_row, ne_eq, not_false_eq_true, zres, Int.toNat_natCast, reduceIte, Nat.reduceEqDiff, Nat.reduceAdd, and_self, and_true, true_and, and_false, false_and]
        refine z_il2 dX8_cant_31 ?_
        refine zcv3 dX8_cant_32 zkX8_152 ziX8_openPurse zsX8_openPurse (zkB hΓ rfl) (by decide) rfl (Nat.le_of_ble_eq_true rfl) (by decide) (by first | decide | omega) ⟨Nat.le_refl _, Nat.le_refl _⟩ (X8_openPurse_ct hI hF hO (by omega) (by omega) (by omega) (fun h2 hO2 hF2 hP _ => ?_))
        try simp only [zup_ap, zup_row, ne_eq, not_false_eq_true, zres, Int.toNat_natCast, reduceIte, Nat.reduceEqDiff, Nat.reduceAdd, and_self, and_true, true_and, and_false, false_and]
        refine z_al0 dX8_cant_35 (by first | decide | omega | assumption) ?_
        refine z_getR zfX8_49 dX8_cant_36 (zkB hΓ rfl) rfl (zsB hΓ rfl) (zvB hΓ (by decide)) ?_
        refine zcv0 dX8_cant_39 zkX8_168 ziX4_countForward zsX4_countForward (zkB hΓ rfl) (by decide) rfl (Nat.le_of_ble_eq_true rfl) (by decide) (by first | decide | omega) ⟨Nat.le_refl _, Nat.le_refl _⟩ (X4_countForward_ct hΓ hP (fun h3 hE3 hC3 _ => ?_))
        try simp only [zup_ap, zup_row, ne_eq, not_false_eq_true, zres, Int.toNat_natCast, reduceIte, Nat.reduceEqDiff, Nat.reduceAdd, and_self, and_true, true_and, and_false, false_and]
        have hP3 := zPu_cg hP (fun q a _ _ => hE3 q a)
        have hF3 := zfr_1 hF2 zs43 hE3
        have hw9 := hQ _ hF3
        unfold zvCant at hw9
        rw [if_pos (by omega)] at hw9
        rw [hdn] at hw9
        refine z_il3 dX8_cant_42 ?_
        refine z_iconst dX8_cant_43 (by decide) ?_
        refine z_icmp_ne (t := 57) dX8_cant_44 (by rfl) (fun ht44 => ?_) (fun hf44 => ?_)
        · refine z_al0 dX8_cant_57 (by first | decide | omega | assumption) ?_
          refine z_getR zfX8_49 dX8_cant_58 (zkB hΓ rfl) rfl (zsB hΓ rfl) (zvB hΓ (by decide)) ?_
          refine z_il3 dX8_cant_61 ?_
          refine zcv1 dX8_cant_62 zkX8_174 ziX4_unpaidAt zsX4_unpaidAt (zkB hΓ rfl) (by decide) rfl (Nat.le_of_ble_eq_true rfl) (by decide) (by first | decide | omega) ⟨Nat.le_refl _, Nat.le_refl _⟩ (X4_unpaidAt_ct hΓ hP3 hC3 (by omega) (fun _ => ?_))
          try simp only [zup_ap, zup_row, ne_eq, not_false_eq_true, zres, Int.toNat_natCast, reduceIte, Nat.reduceEqDiff, Nat.reduceAdd, and_self, and_true, true_and, and_false, false_and]
          refine z_iret dX8_cant_65 rfl (Nat.le_refl _) (Nat.le_refl _) (zext_rf _) (fun hrr => ?_)
          exact hw9
        · have ej : j = -1 := by omega
          subst ej
          refine z_al0 dX8_cant_47 (by first | decide | omega | assumption) ?_
          refine z_getR zfX8_49 dX8_cant_48 (zkB hΓ rfl) rfl (zsB hΓ rfl) (zvB hΓ (by decide)) ?_
          refine zcv0 dX8_cant_51 zkX8_171 ziX4_unpaid zsX4_unpaid (zkB hΓ rfl) (by decide) rfl (Nat.le_of_ble_eq_true rfl) (by decide) (by first | decide | omega) ⟨Nat.le_refl _, Nat.le_refl _⟩ (X4_unpaid_ct hΓ hP3 hC3 (fun _ => ?_))
          try simp only [zup_ap, zup_row, ne_eq, not_false_eq_true, zres, Int.toNat_natCast, reduceIte, Nat.reduceEqDiff, Nat.reduceAdd, and_self, and_true, true_and, and_false, false_and]
          refine z_goto (t := 65) dX8_cant_54 (by rfl) ?_
          refine z_iret dX8_cant_65 rfl (Nat.le_refl _) (Nat.le_refl _) (zext_rf _) (fun hrr => ?_)
          exact hw9
      · refine z_iconst dX8_cant_23 (by decide) ?_
        refine z_iret dX8_cant_24 rfl (Nat.le_refl _) (Nat.le_refl _) (zext_rf _) (fun hrr => ?_)
        have hw9 := hQ _ hF
        unfold zvCant at hw9
        rw [if_neg (by omega)] at hw9
        exact hw9
set_option maxRecDepth 4000 in
theorem X9_cant_l {l : Launch} {Γ : zC} {h : zM} {Q : Option zV → zC → zM → Prop} {b : Nat → Int} {hd : Nat} {i r j : Int} (hΓ : zBase Γ) (hr7 : 0 ≤ r ∧ r ≤ 7) (hB : ∀ n, n ≤ 200 → h 102 n = b n) (hC : ∀ k, k ≤ 60 → ∀ t, t ≤ 200 → h 103 (201 * k + t) = if zcm b r hd k t then 1 else 0) : ∀ (m : Nat) (s : Nat) (n : Int), 201 - s < m → 1 ≤ s → s ≤ 201 → (0 ≤ n ∧ n < s) → Q (some (zI (zsc (zup9 b r hd) j (201 - s) s n))) Γ h → zG (zFn l mX9_cant 1682 0 0 Γ Q) 0 0 Γ h 47 [some (zR 89), some (zI i), some (zI r), some (zI j), some (zI n), some (zI (s : Int))] [] := by
  intro m
  induction m with
  | zero => intros; omega
  | succ m ih =>
    intro s n hm hk1 hk2 hn hQ
    refine z_il5 dX9_cant_47 ?_
    refine z_sipush (x := 200) dX9_cant_49 (by rfl) (by decide) ?_
    refine z_icmp_gt (t := 86) dX9_cant_52 (by rfl) (fun ht52 => ?_) (fun hf52 => ?_)
    · refine z_il3 dX9_cant_86 ?_
      refine z_iconst dX9_cant_87 (by decide) ?_
      refine z_icmp_ne (t := 96) dX9_cant_88 (by rfl) (fun ht88 => ?_) (fun hf88 => ?_)
      · refine z_iconst dX9_cant_96 (by decide) ?_
        refine z_iret dX9_cant_97 rfl (Nat.le_refl _) (Nat.le_refl _) (zext_rf _) (fun hrr => ?_)
        rw [show 201 - s = 0 by omega, zsc_0] at hQ
        first | (rw [if_pos (by omega)] at hQ; exact hQ) | (rw [if_neg (by omega)] at hQ; exact hQ)
      · refine z_il4 dX9_cant_91 ?_
        refine z_goto (t := 97) dX9_cant_93 (by rfl) ?_
        refine z_iret dX9_cant_97 rfl (Nat.le_refl _) (Nat.le_refl _) (zext_rf _) (fun hrr => ?_)
        rw [show 201 - s = 0 by omega, zsc_0] at hQ
        first | (rw [if_pos (by omega)] at hQ; exact hQ) | (rw [if_neg (by omega)] at hQ; exact hQ)
    · refine z_al0 dX9_cant_55 (by first | decide | omega | assumption) ?_
      refine z_il5 dX9_cant_56 ?_
      refine z_il2 dX9_cant_58 ?_
      refine zcv2 dX9_cant_59 zkX9_356 ziX9_isPaid zsX9_isPaid (zkB hΓ rfl) (by decide) rfl (Nat.le_of_ble_eq_true rfl) (by decide) (by first | decide | omega) ⟨Nat.le_refl _, Nat.le_refl _⟩ (X9_isPaid_ct hΓ hr7 hB (s := s) (by omega) hC (fun hp9 _ => ?_) (fun hp9 _ => ?_))
      · try simp only [zup_ap, zup_row, ne_eq, not_false_eq_true, zres, Int.toNat_natCast, reduceIte, Nat.reduceEqDiff, Nat.reduceAdd, and_self, and_true, true_and, and_false, false_and]
        refine z_if_eq (t := 68) dX9_cant_62 (by rfl) (fun _ => ?_) (fun hx => absurd hx (by decide))
        refine z_il4 dX9_cant_68 ?_
        refine z_il3 dX9_cant_70 ?_
        refine z_icmp_ne (t := 77) dX9_cant_71 (by rfl) (fun ht71 => ?_) (fun hf71 => ?_)
        · refine z_ii4 dX9_cant_77 (by omega) (Nat.le_of_ble_eq_true rfl) rfl ?_
          refine z_ii5 dX9_cant_80 (by omega) (Nat.le_of_ble_eq_true rfl) rfl ?_
          refine z_goto (t := 47) dX9_cant_83 (by rfl) ?_
          rw [show 201 - s = (201 - (s + 1)) + 1 by omega] at hQ
          first
          | (rw [zsc_f (by unfold zup9; rw [hp9]; rfl)] at hQ
             exact ih (s + 1) _ (by omega) (by omega) (by omega) (by omega) hQ)
          | (rw [zsc_u (by unfold zup9; rw [hp9]; rfl) (by omega)] at hQ
             exact ih (s + 1) _ (by omega) (by omega) (by omega) (by omega) hQ)
        · refine z_il5 dX9_cant_74 ?_
          refine z_iret dX9_cant_76 rfl (Nat.le_refl _) (Nat.le_refl _) (zext_rf _) (fun hrr => ?_)
          rw [show 201 - s = (201 - (s + 1)) + 1 by omega, zsc_t (by unfold zup9; rw [hp9]; rfl) (by omega)] at hQ
          exact hQ
      · try simp only [zup_ap, zup_row, ne_eq, not_false_eq_true, zres, Int.toNat_natCast, reduceIte, Nat.reduceEqDiff, Nat.reduceAdd, and_self, and_true, true_and, and_false, false_and]
        refine z_if_eq (t := 68) dX9_cant_62 (by rfl) (fun hx => absurd hx (by decide)) (fun _ => ?_)
        refine z_goto (t := 80) dX9_cant_65 (by rfl) ?_
        refine z_ii5 dX9_cant_80 (by omega) (Nat.le_of_ble_eq_true rfl) rfl ?_
        refine z_goto (t := 47) dX9_cant_83 (by rfl) ?_
        rw [show 201 - s = (201 - (s + 1)) + 1 by omega] at hQ
        first
        | (rw [zsc_f (by unfold zup9; rw [hp9]; rfl)] at hQ
           exact ih (s + 1) _ (by omega) (by omega) (by omega) (by omega) hQ)
        | (rw [zsc_u (by unfold zup9; rw [hp9]; rfl) (by omega)] at hQ
           exact ih (s + 1) _ (by omega) (by omega) (by omega) (by omega) hQ)
set_option maxRecDepth 4000 in
theorem X9_cant_ct {l : Launch} {Γ : zC} {h0 h : zM} {Q : Option zV → zC → zM → Prop} {i r j : Int} (hI : zIv Γ h0) (hF : zfr zSS h0 h) (hQ : ∀ h9, zfr zSS h0 h9 → Q (some (zI (zvCant h0 i r j))) Γ h9) : zCT l mX9_cant 1682 0 0 Γ [zR 89, zI i, zI r, zI j] h Q := by
  have hΓ := hI.base
  have hx2 := hI.isl
  have hx3 := hI.hnd
  obtain ⟨hd, hhd⟩ := Int.eq_ofNat_of_zero_le (show 0 ≤ h0 89 32 by omega)
  have hdn : (h0 89 32).toNat = hd := by omega
  have hnw := hI.now
  refine zCT_of (by decide) (Nat.le_of_ble_eq_true rfl) (ls := [some (zR 89), some (zI i), some (zI r), some (zI j), none, none]) rfl ?_
  refine z_al0 dX9_cant_0 (by first | decide | omega | assumption) ?_
  refine z_iconst dX9_cant_1 (by decide) ?_
  refine z_putI zfX9_128 dX9_cant_2 (zkB hΓ rfl) rfl rfl ?_
  replace hF : zfr zSS h0 (zup h 89 0 0) := zfr_up hF rfl
  generalize zup h 89 0 0 = h at hF ⊢
  refine z_al0 dX9_cant_5 (by first | decide | omega | assumption) ?_
  refine z_il1 dX9_cant_6 ?_
  refine zcv1 dX9_cant_7 zkX9_299 ziX9_isIsle zsX9_isIsle (zkB hΓ rfl) (by decide) rfl (Nat.le_of_ble_eq_true rfl) (by decide) (by first | decide | omega) ⟨Nat.le_refl _, Nat.le_refl _⟩ (X9_isIsle_ct hI hF (fun hg1 _ => ?_) (fun hg1 _ => ?_))
  · try simp only [zup_ap, zup_row, ne_eq, not_false_eq_true, zres, Int.toNat_natCast, reduceIte, Nat.reduceEqDiff, Nat.reduceAdd, and_self, and_true, true_and, and_false, false_and]
    refine z_if_eq (t := 25) dX9_cant_10 (by rfl) (fun _ => ?_) (fun hx => absurd hx (by decide))
    refine z_iconst dX9_cant_25 (by decide) ?_
    refine z_iret dX9_cant_26 rfl (Nat.le_refl _) (Nat.le_refl _) (zext_rf _) (fun hrr => ?_)
    have hw9 := hQ _ hF
    unfold zvCant at hw9
    rw [if_neg (by omega)] at hw9
    exact hw9
  · try simp only [zup_ap, zup_row, ne_eq, not_false_eq_true, zres, Int.toNat_natCast, reduceIte, Nat.reduceEqDiff, Nat.reduceAdd, and_self, and_true, true_and, and_false, false_and]
    refine z_if_eq (t := 25) dX9_cant_10 (by rfl) (fun hx => absurd hx (by decide)) (fun _ => ?_)
    refine z_il2 dX9_cant_13 ?_
    refine zcs1 dX9_cant_14 zkX9_334 ztX9_areRules (Nat.le_of_ble_eq_true rfl) (by decide) (by first | decide | omega) ⟨Nat.le_refl _, Nat.le_refl _⟩ (X9_areRules_ct (fun hg3 _ => ?_) (fun hg3 _ => ?_))
    · try simp only [zup_ap, zup_row, ne_eq, not_false_eq_true, zres, Int.toNat_natCast, reduceIte, Nat.reduceEqDiff, Nat.reduceAdd, and_self, and_true, true_and, and_false, false_and]
      refine z_if_eq (t := 25) dX9_cant_17 (by rfl) (fun _ => ?_) (fun hx => absurd hx (by decide))
      refine z_iconst dX9_cant_25 (by decide) ?_
      refine z_iret dX9_cant_26 rfl (Nat.le_refl _) (Nat.le_refl _) (zext_rf _) (fun hrr => ?_)
      have hw9 := hQ _ hF
      unfold zvCant at hw9
      rw [if_neg (by omega)] at hw9
      exact hw9
    · try simp only [zup_ap, zup_row, ne_eq, not_false_eq_true, zres, Int.toNat_natCast, reduceIte, Nat.reduceEqDiff, Nat.reduceAdd, and_self, and_true, true_and, and_false, false_and]
      refine z_if_eq (t := 25) dX9_cant_17 (by rfl) (fun hx => absurd hx (by decide)) (fun _ => ?_)
      refine z_il3 dX9_cant_20 ?_
      refine z_iconst dX9_cant_21 (by decide) ?_
      refine z_icmp_ge (t := 27) dX9_cant_22 (by rfl) (fun ht22 => ?_) (fun hf22 => ?_)
      · refine z_al0 dX9_cant_27 (by first | decide | omega | assumption) ?_
        refine z_il1 dX9_cant_28 ?_
        refine z_al0 dX9_cant_29 (by first | decide | omega | assumption) ?_
        refine z_getI zfX9_288 dX9_cant_30 (zkB hΓ rfl) rfl ?_
        rw [hF 89 29 rfl]
        try simp only [zup_ap, zup_row, ne_eq, not_false_eq_true, zres, Int.toNat_natCast, reduceIte, Nat.reduceEqDiff, Nat.reduceAdd, and_self, and_true, true_and, and_false, false_and]
        refine zcv2 dX9_cant_33 zkX9_337 ziX9_layBad zsX9_layBad (zkB hΓ rfl) (by decide) rfl (Nat.le_of_ble_eq_true rfl) (by decide) (by first | decide | omega) ⟨Nat.le_refl _, Nat.le_refl _⟩ (X9_layBad_ct hI hF hg1 (fun h2 hA2 hB2 _ => ?_))
        try simp only [zup_ap, zup_row, ne_eq, not_false_eq_true, zres, Int.toNat_natCast, reduceIte, Nat.reduceEqDiff, Nat.reduceAdd, and_self, and_true, true_and, and_false, false_and]
        replace hF := zfr_B hF zs102 hA2
        refine z_al0 dX9_cant_36 (by first | decide | omega | assumption) ?_
        refine z_il2 dX9_cant_37 ?_
        refine zcv1 dX9_cant_38 zkX9_353 ziX9_layComes zsX9_layComes (zkB hΓ rfl) (by decide) rfl (Nat.le_of_ble_eq_true rfl) (by decide) (by first | decide | omega) ⟨Nat.le_refl _, Nat.le_refl _⟩ (X9_layComes_ct hI hF hhd hg3 hB2 (fun h3 hE3 hC3 _ => ?_))
        try simp only [zup_ap, zup_row, ne_eq, not_false_eq_true, zres, Int.toNat_natCast, reduceIte, Nat.reduceEqDiff, Nat.reduceAdd, and_self, and_true, true_and, and_false, false_and]
        have hF9 := zfr_1 hF zs103 hE3
        have hB3 : ∀ n, n ≤ 200 → h3 102 n = zbF h0 i (h0 89 29) n := fun n hn => by rw [hE3 102 (by decide)]; exact hB2 n hn
        have hw9 := hQ _ hF9
        unfold zvCant at hw9
        rw [if_pos (by omega)] at hw9
        rw [hdn] at hw9
        refine z_iconst dX9_cant_41 (by decide) ?_
        refine z_is4 dX9_cant_42 (Nat.le_of_ble_eq_true rfl) rfl ?_
        refine z_iconst dX9_cant_44 (by decide) ?_
        refine z_is5 dX9_cant_45 (Nat.le_of_ble_eq_true rfl) rfl ?_
        exact X9_cant_l hΓ hg3 hB3 hC3 _ 1 0 (Nat.lt_succ_self _) (by omega) (by omega) (by omega) hw9
      · refine z_iconst dX9_cant_25 (by decide) ?_
        refine z_iret dX9_cant_26 rfl (Nat.le_refl _) (Nat.le_refl _) (zext_rf _) (fun hrr => ?_)
        have hw9 := hQ _ hF
        unfold zvCant at hw9
        rw [if_neg (by omega)] at hw9
        exact hw9
def zne (f : Nat → Bool) (s : Int) : Nat → Nat → Int
  | 0, _ => -1
  | m + 1, a => if 1 ≤ s - a ∧ s - a ≤ 200 ∧ f (s - a).toNat = true then s - a else if 1 ≤ s + a ∧ s + a ≤ 200 ∧ f (s + a).toNat = true then s + a else zne f s m (a + 1)
def zvNear (h : zM) (i s r : Int) : Int := if (0 ≤ i ∧ i < h 89 22) ∧ (1 ≤ s ∧ s ≤ 200) ∧ (0 ≤ r ∧ r ≤ 7) then zne (zpd (zbF h i (h 89 29)) r (h 89 32).toNat) s 200 0 else -1
set_option maxRecDepth 4000 in
theorem X8_near_l {l : Launch} {Γ : zC} {h : zM} {Q : Option zV → zC → zM → Prop} {b : Nat → Int} {hd : Nat} {i s r : Int} (hΓ : zBase Γ) (hs : 1 ≤ s ∧ s ≤ 200) (hP : zPu h b r hd) (hC : zCf h b r hd) : ∀ (m : Nat) (a : Nat), 200 - a < m → a ≤ 200 → Q (some (zI (zne (zpd b r hd) s (200 - a) a))) Γ h → zG (zFn l mX8_near 5 0 0 Γ Q) 0 0 Γ h 32 [some (zR 1), some (zI i), some (zI s), some (zI r), some (zI (a : Int))] [] := by
  intro m
  induction m with
  | zero => intros; omega
  | succ m ih =>
    intro a hm hk1 hQ
    refine z_il4 dX8_near_32 ?_
    refine z_sipush (x := 200) dX8_near_34 (by rfl) (by decide) ?_
    refine z_icmp_ge (t := 84) dX8_near_37 (by rfl) (fun ht37 => ?_) (fun hf37 => ?_)
    · refine z_iconst dX8_near_84 (by decide) ?_
      refine z_iret dX8_near_85 rfl (Nat.le_refl _) (Nat.le_refl _) (zext_rf _) (fun hrr => ?_)
      rw [show 200 - a = 0 by omega] at hQ
      exact hQ
    · refine z_al0 dX8_near_40 (by first | decide | omega | assumption) ?_
      refine z_getR zfX8_49 dX8_near_41 (zkB hΓ rfl) rfl (zsB hΓ rfl) (zvB hΓ (by decide)) ?_
      refine z_il2 dX8_near_44 ?_
      refine z_il4 dX8_near_45 ?_
      refine z_isub dX8_near_47 (by omega) ?_
      refine zcv1 dX8_near_48 zkX8_278 ziX4_isPaid zsX4_isPaid (zkB hΓ rfl) (by decide) rfl (Nat.le_of_ble_eq_true rfl) (by decide) (by first | decide | omega) ⟨Nat.le_refl _, Nat.le_refl _⟩ (X4_isPaid_ct hΓ hP hC (fun ha9 _ => ?_) (fun ha9 _ => ?_))
      · try simp only [zup_ap, zup_row, ne_eq, not_false_eq_true, zres, Int.toNat_natCast, reduceIte, Nat.reduceEqDiff, Nat.reduceAdd, and_self, and_true, true_and, and_false, false_and]
        refine z_if_eq (t := 59) dX8_near_51 (by rfl) (fun _ => ?_) (fun hx => absurd hx (by decide))
        refine z_al0 dX8_near_59 (by first | decide | omega | assumption) ?_
        refine z_getR zfX8_49 dX8_near_60 (zkB hΓ rfl) rfl (zsB hΓ rfl) (zvB hΓ (by decide)) ?_
        refine z_il2 dX8_near_63 ?_
        refine z_il4 dX8_near_64 ?_
        refine z_iadd dX8_near_66 (by omega) ?_
        refine zcv1 dX8_near_67 zkX8_278 ziX4_isPaid zsX4_isPaid (zkB hΓ rfl) (by decide) rfl (Nat.le_of_ble_eq_true rfl) (by decide) (by first | decide | omega) ⟨Nat.le_refl _, Nat.le_refl _⟩ (X4_isPaid_ct hΓ hP hC (fun hb9 _ => ?_) (fun hb9 _ => ?_))
        · try simp only [zup_ap, zup_row, ne_eq, not_false_eq_true, zres, Int.toNat_natCast, reduceIte, Nat.reduceEqDiff, Nat.reduceAdd, and_self, and_true, true_and, and_false, false_and]
          refine z_if_eq (t := 78) dX8_near_70 (by rfl) (fun _ => ?_) (fun hx => absurd hx (by decide))
          refine z_ii4 dX8_near_78 (by omega) (Nat.le_of_ble_eq_true rfl) rfl ?_
          refine z_goto (t := 32) dX8_near_81 (by rfl) ?_
          rw [show 200 - a = (200 - (a + 1)) + 1 by omega, zne] at hQ
          rw [if_neg ha9, if_neg hb9] at hQ
          exact ih (a + 1) (by omega) (by omega) hQ
        · try simp only [zup_ap, zup_row, ne_eq, not_false_eq_true, zres, Int.toNat_natCast, reduceIte, Nat.reduceEqDiff, Nat.reduceAdd, and_self, and_true, true_and, and_false, false_and]
          refine z_if_eq (t := 78) dX8_near_70 (by rfl) (fun hx => absurd hx (by decide)) (fun _ => ?_)
          refine z_il2 dX8_near_73 ?_
          refine z_il4 dX8_near_74 ?_
          refine z_iadd dX8_near_76 (by omega) ?_
          refine z_iret dX8_near_77 rfl (Nat.le_refl _) (Nat.le_refl _) (zext_rf _) (fun hrr => ?_)
          rw [show 200 - a = (200 - (a + 1)) + 1 by omega, zne] at hQ
          rw [if_neg ha9, if_pos hb9] at hQ
          exact hQ
      · try simp only [zup_ap, zup_row, ne_eq, not_false_eq_true, zres, Int.toNat_natCast, reduceIte, Nat.reduceEqDiff, Nat.reduceAdd, and_self, and_true, true_and, and_false, false_and]
        refine z_if_eq (t := 59) dX8_near_51 (by rfl) (fun hx => absurd hx (by decide)) (fun _ => ?_)
        refine z_il2 dX8_near_54 ?_
        refine z_il4 dX8_near_55 ?_
        refine z_isub dX8_near_57 (by omega) ?_
        refine z_iret dX8_near_58 rfl (Nat.le_refl _) (Nat.le_refl _) (zext_rf _) (fun hrr => ?_)
        rw [show 200 - a = (200 - (a + 1)) + 1 by omega, zne] at hQ
        rw [if_pos ha9] at hQ
        exact hQ
set_option maxRecDepth 4000 in
theorem X8_near_ct {l : Launch} {Γ : zC} {h0 h : zM} {Q : Option zV → zC → zM → Prop} {i s r : Int} (hI : zIv Γ h0) (hF : zfr zSS h0 h) (hO : h0 89 30 = -1) (hQ : ∀ h9, zfr zSS h0 h9 → Q (some (zI (zvNear h0 i s r))) Γ h9) : zCT l mX8_near 5 0 0 Γ [zR 1, zI i, zI s, zI r] h Q := by
  have hΓ := hI.base
  have hx2 := hI.isl
  have hx3 := hI.hnd
  obtain ⟨hd, hhd⟩ := Int.eq_ofNat_of_zero_le (show 0 ≤ h0 89 32 by omega)
  have hdn : (h0 89 32).toNat = hd := by omega
  have hnw := hI.now
  refine zCT_of (by decide) (Nat.le_of_ble_eq_true rfl) (ls := [some (zR 1), some (zI i), some (zI s), some (zI r), none]) rfl ?_
  refine z_al0 dX8_near_0 (by first | decide | omega | assumption) ?_
  refine z_il1 dX8_near_1 ?_
  refine z_il2 dX8_near_2 ?_
  refine z_il3 dX8_near_3 ?_
  refine zcv3 dX8_near_4 zkX8_149 ziX8_isPayment zsX8_isPayment (zkB hΓ rfl) (by decide) rfl (Nat.le_of_ble_eq_true rfl) (by decide) (by first | decide | omega) ⟨Nat.le_refl _, Nat.le_refl _⟩ (X8_isPayment_ct hI hF (fun hg1 _ => ?_) (fun hg1 _ => ?_))
  · try simp only [zup_ap, zup_row, ne_eq, not_false_eq_true, zres, Int.toNat_natCast, reduceIte, Nat.reduceEqDiff, Nat.reduceAdd, and_self, and_true, true_and, and_false, false_and]
    refine z_if_ne (t := 12) dX8_near_7 (by rfl) (fun hx => absurd hx (by decide)) (fun _ => ?_)
    refine z_iconst dX8_near_10 (by decide) ?_
    refine z_iret dX8_near_11 rfl (Nat.le_refl _) (Nat.le_refl _) (zext_rf _) (fun hrr => ?_)
    have hw9 := hQ _ hF
    unfold zvNear at hw9
    rw [if_neg (by omega)] at hw9
    exact hw9
  · try simp only [zup_ap, zup_row, ne_eq, not_false_eq_true, zres, Int.toNat_natCast, reduceIte, Nat.reduceEqDiff, Nat.reduceAdd, and_self, and_true, true_and, and_false, false_and]
    refine z_if_ne (t := 12) dX8_near_7 (by rfl) (fun _ => ?_) (fun hx => absurd hx (by decide))
    refine z_al0 dX8_near_12 (by first | decide | omega | assumption) ?_
    refine z_il1 dX8_near_13 ?_
    refine z_al0 dX8_near_14 (by first | decide | omega | assumption) ?_
    refine z_getI zfX8_79 dX8_near_15 (zkB hΓ rfl) rfl ?_
    rw [hF 1 11 rfl, hI.hnd.1, hhd]
    try simp only [zup_ap, zup_row, ne_eq, not_false_eq_true, zres, Int.toNat_natCast, reduceIte, Nat.reduceEqDiff, Nat.reduceAdd, and_self, and_true, true_and, and_false, false_and]
    refine z_il3 dX8_near_18 ?_
    refine zcv3 dX8_near_19 zkX8_152 ziX8_openPurse zsX8_openPurse (zkB hΓ rfl) (by decide) rfl (Nat.le_of_ble_eq_true rfl) (by decide) (by first | decide | omega) ⟨Nat.le_refl _, Nat.le_refl _⟩ (X8_openPurse_ct hI hF hO (by omega) (by omega) (by omega) (fun h2 hO2 hF2 hP _ => ?_))
    try simp only [zup_ap, zup_row, ne_eq, not_false_eq_true, zres, Int.toNat_natCast, reduceIte, Nat.reduceEqDiff, Nat.reduceAdd, and_self, and_true, true_and, and_false, false_and]
    refine z_al0 dX8_near_22 (by first | decide | omega | assumption) ?_
    refine z_getR zfX8_49 dX8_near_23 (zkB hΓ rfl) rfl (zsB hΓ rfl) (zvB hΓ (by decide)) ?_
    refine zcv0 dX8_near_26 zkX8_168 ziX4_countForward zsX4_countForward (zkB hΓ rfl) (by decide) rfl (Nat.le_of_ble_eq_true rfl) (by decide) (by first | decide | omega) ⟨Nat.le_refl _, Nat.le_refl _⟩ (X4_countForward_ct hΓ hP (fun h3 hE3 hC3 _ => ?_))
    try simp only [zup_ap, zup_row, ne_eq, not_false_eq_true, zres, Int.toNat_natCast, reduceIte, Nat.reduceEqDiff, Nat.reduceAdd, and_self, and_true, true_and, and_false, false_and]
    refine z_iconst dX8_near_29 (by decide) ?_
    refine z_is4 dX8_near_30 (Nat.le_of_ble_eq_true rfl) rfl ?_
    have hP3 := zPu_cg hP (fun q a _ _ => hE3 q a)
    have hF3 := zfr_1 hF2 zs43 hE3
    have hw9 := hQ _ hF3
    unfold zvNear at hw9
    rw [if_pos (by omega)] at hw9
    rw [hdn] at hw9
    exact X8_near_l hΓ (by omega) hP3 hC3 _ 0 (Nat.lt_succ_self _) (by omega) hw9
set_option maxRecDepth 4000 in
theorem X9_near_l {l : Launch} {Γ : zC} {h : zM} {Q : Option zV → zC → zM → Prop} {b : Nat → Int} {hd : Nat} {i s r : Int} (hs : 1 ≤ s ∧ s ≤ 200) (hΓ : zBase Γ) (hr7 : 0 ≤ r ∧ r ≤ 7) (hB : ∀ n, n ≤ 200 → h 102 n = b n) (hC : ∀ k, k ≤ 60 → ∀ t, t ≤ 200 → h 103 (201 * k + t) = if zcm b r hd k t then 1 else 0) : ∀ (m : Nat) (a : Nat), 200 - a < m → a ≤ 200 → Q (some (zI (zne (zpd b r hd) s (200 - a) a))) Γ h → zG (zFn l mX9_near 1682 0 0 Γ Q) 0 0 Γ h 51 [some (zR 89), some (zI i), some (zI s), some (zI r), some (zI (a : Int))] [] := by
  intro m
  induction m with
  | zero => intros; omega
  | succ m ih =>
    intro a hm hk1 hQ
    refine z_il4 dX9_near_51 ?_
    refine z_sipush (x := 200) dX9_near_53 (by rfl) (by decide) ?_
    refine z_icmp_ge (t := 116) dX9_near_56 (by rfl) (fun ht56 => ?_) (fun hf56 => ?_)
    · refine z_iconst dX9_near_116 (by decide) ?_
      refine z_iret dX9_near_117 rfl (Nat.le_refl _) (Nat.le_refl _) (zext_rf _) (fun hrr => ?_)
      rw [show 200 - a = 0 by omega] at hQ
      exact hQ
    · refine z_il2 dX9_near_59 ?_
      refine z_il4 dX9_near_60 ?_
      refine z_isub dX9_near_62 (by omega) ?_
      refine z_if_le (t := 83) dX9_near_63 (by rfl) (fun ht63 => ?_) (fun hf63 => ?_)
      · refine z_il2 dX9_near_83 ?_
        refine z_il4 dX9_near_84 ?_
        refine z_iadd dX9_near_86 (by omega) ?_
        refine z_sipush (x := 200) dX9_near_87 (by rfl) (by decide) ?_
        refine z_icmp_gt (t := 110) dX9_near_90 (by rfl) (fun ht90 => ?_) (fun hf90 => ?_)
        · refine z_ii4 dX9_near_110 (by omega) (Nat.le_of_ble_eq_true rfl) rfl ?_
          refine z_goto (t := 51) dX9_near_113 (by rfl) ?_
          rw [show 200 - a = (200 - (a + 1)) + 1 by omega, zne] at hQ
          rw [if_neg (by first | omega | (intro e; rw [ha9] at e; exact absurd e.2.2 (by decide))), if_neg (by first | omega | (intro e; rw [hb9] at e; exact absurd e.2.2 (by decide)))] at hQ
          exact ih (a + 1) (by omega) (by omega) hQ
        · refine z_al0 dX9_near_93 (by first | decide | omega | assumption) ?_
          refine z_il2 dX9_near_94 ?_
          refine z_il4 dX9_near_95 ?_
          refine z_iadd dX9_near_97 (by omega) ?_
          refine z_il3 dX9_near_98 ?_
          rw [show s + (a : Int) = (((s + a).toNat : Nat) : Int) by omega]
          refine zcv2 dX9_near_99 zkX9_356 ziX9_isPaid zsX9_isPaid (zkB hΓ rfl) (by decide) rfl (Nat.le_of_ble_eq_true rfl) (by decide) (by first | decide | omega) ⟨Nat.le_refl _, Nat.le_refl _⟩ (X9_isPaid_ct hΓ hr7 hB (s := (s + a).toNat) (by omega) hC (fun hb9 _ => ?_) (fun hb9 _ => ?_))
          · try simp only [zup_ap, zup_row, ne_eq, not_false_eq_true, zres, Int.toNat_natCast, reduceIte, Nat.reduceEqDiff, Nat.reduceAdd, and_self, and_true, true_and, and_false, false_and]
            refine z_if_eq (t := 110) dX9_near_102 (by rfl) (fun _ => ?_) (fun hx => absurd hx (by decide))
            refine z_ii4 dX9_near_110 (by omega) (Nat.le_of_ble_eq_true rfl) rfl ?_
            refine z_goto (t := 51) dX9_near_113 (by rfl) ?_
            rw [show 200 - a = (200 - (a + 1)) + 1 by omega, zne] at hQ
            rw [if_neg (by first | omega | (intro e; rw [ha9] at e; exact absurd e.2.2 (by decide))), if_neg (by first | omega | (intro e; rw [hb9] at e; exact absurd e.2.2 (by decide)))] at hQ
            exact ih (a + 1) (by omega) (by omega) hQ
          · try simp only [zup_ap, zup_row, ne_eq, not_false_eq_true, zres, Int.toNat_natCast, reduceIte, Nat.reduceEqDiff, Nat.reduceAdd, and_self, and_true, true_and, and_false, false_and]
            refine z_if_eq (t := 110) dX9_near_102 (by rfl) (fun hx => absurd hx (by decide)) (fun _ => ?_)
            refine z_il2 dX9_near_105 ?_
            refine z_il4 dX9_near_106 ?_
            refine z_iadd dX9_near_108 (by omega) ?_
            refine z_iret dX9_near_109 rfl (Nat.le_refl _) (Nat.le_refl _) (zext_rf _) (fun hrr => ?_)
            rw [show 200 - a = (200 - (a + 1)) + 1 by omega, zne] at hQ
            rw [if_neg (by first | omega | (intro e; rw [ha9] at e; exact absurd e.2.2 (by decide))), if_pos ⟨by omega, by omega, hb9⟩] at hQ
            exact hQ
      · refine z_al0 dX9_near_66 (by first | decide | omega | assumption) ?_
        refine z_il2 dX9_near_67 ?_
        refine z_il4 dX9_near_68 ?_
        refine z_isub dX9_near_70 (by omega) ?_
        refine z_il3 dX9_near_71 ?_
        rw [show s - (a : Int) = (((s - a).toNat : Nat) : Int) by omega]
        refine zcv2 dX9_near_72 zkX9_356 ziX9_isPaid zsX9_isPaid (zkB hΓ rfl) (by decide) rfl (Nat.le_of_ble_eq_true rfl) (by decide) (by first | decide | omega) ⟨Nat.le_refl _, Nat.le_refl _⟩ (X9_isPaid_ct hΓ hr7 hB (s := (s - a).toNat) (by omega) hC (fun ha9 _ => ?_) (fun ha9 _ => ?_))
        · try simp only [zup_ap, zup_row, ne_eq, not_false_eq_true, zres, Int.toNat_natCast, reduceIte, Nat.reduceEqDiff, Nat.reduceAdd, and_self, and_true, true_and, and_false, false_and]
          refine z_if_eq (t := 83) dX9_near_75 (by rfl) (fun _ => ?_) (fun hx => absurd hx (by decide))
          refine z_il2 dX9_near_83 ?_
          refine z_il4 dX9_near_84 ?_
          refine z_iadd dX9_near_86 (by omega) ?_
          refine z_sipush (x := 200) dX9_near_87 (by rfl) (by decide) ?_
          refine z_icmp_gt (t := 110) dX9_near_90 (by rfl) (fun ht90 => ?_) (fun hf90 => ?_)
          · refine z_ii4 dX9_near_110 (by omega) (Nat.le_of_ble_eq_true rfl) rfl ?_
            refine z_goto (t := 51) dX9_near_113 (by rfl) ?_
            rw [show 200 - a = (200 - (a + 1)) + 1 by omega, zne] at hQ
            rw [if_neg (by first | omega | (intro e; rw [ha9] at e; exact absurd e.2.2 (by decide))), if_neg (by first | omega | (intro e; rw [hb9] at e; exact absurd e.2.2 (by decide)))] at hQ
            exact ih (a + 1) (by omega) (by omega) hQ
          · refine z_al0 dX9_near_93 (by first | decide | omega | assumption) ?_
            refine z_il2 dX9_near_94 ?_
            refine z_il4 dX9_near_95 ?_
            refine z_iadd dX9_near_97 (by omega) ?_
            refine z_il3 dX9_near_98 ?_
            rw [show s + (a : Int) = (((s + a).toNat : Nat) : Int) by omega]
            refine zcv2 dX9_near_99 zkX9_356 ziX9_isPaid zsX9_isPaid (zkB hΓ rfl) (by decide) rfl (Nat.le_of_ble_eq_true rfl) (by decide) (by first | decide | omega) ⟨Nat.le_refl _, Nat.le_refl _⟩ (X9_isPaid_ct hΓ hr7 hB (s := (s + a).toNat) (by omega) hC (fun hb9 _ => ?_) (fun hb9 _ => ?_))
            · try simp only [zup_ap, zup_row, ne_eq, not_false_eq_true, zres, Int.toNat_natCast, reduceIte, Nat.reduceEqDiff, Nat.reduceAdd, and_self, and_true, true_and, and_false, false_and]
              refine z_if_eq (t := 110) dX9_near_102 (by rfl) (fun _ => ?_) (fun hx => absurd hx (by decide))
              refine z_ii4 dX9_near_110 (by omega) (Nat.le_of_ble_eq_true rfl) rfl ?_
              refine z_goto (t := 51) dX9_near_113 (by rfl) ?_
              rw [show 200 - a = (200 - (a + 1)) + 1 by omega, zne] at hQ
              rw [if_neg (by first | omega | (intro e; rw [ha9] at e; exact absurd e.2.2 (by decide))), if_neg (by first | omega | (intro e; rw [hb9] at e; exact absurd e.2.2 (by decide)))] at hQ
              exact ih (a + 1) (by omega) (by omega) hQ
            · try simp only [zup_ap, zup_row, ne_eq, not_false_eq_true, zres, Int.toNat_natCast, reduceIte, Nat.reduceEqDiff, Nat.reduceAdd, and_self, and_true, true_and, and_false, false_and]
              refine z_if_eq (t := 110) dX9_near_102 (by rfl) (fun hx => absurd hx (by decide)) (fun _ => ?_)
              refine z_il2 dX9_near_105 ?_
              refine z_il4 dX9_near_106 ?_
              refine z_iadd dX9_near_108 (by omega) ?_
              refine z_iret dX9_near_109 rfl (Nat.le_refl _) (Nat.le_refl _) (zext_rf _) (fun hrr => ?_)
              rw [show 200 - a = (200 - (a + 1)) + 1 by omega, zne] at hQ
              rw [if_neg (by first | omega | (intro e; rw [ha9] at e; exact absurd e.2.2 (by decide))), if_pos ⟨by omega, by omega, hb9⟩] at hQ
              exact hQ
        · try simp only [zup_ap, zup_row, ne_eq, not_false_eq_true, zres, Int.toNat_natCast, reduceIte, Nat.reduceEqDiff, Nat.reduceAdd, and_self, and_true, true_and, and_false, false_and]
          refine z_if_eq (t := 83) dX9_near_75 (by rfl) (fun hx => absurd hx (by decide)) (fun _ => ?_)
          refine z_il2 dX9_near_78 ?_
          refine z_il4 dX9_near_79 ?_
          refine z_isub dX9_near_81 (by omega) ?_
          refine z_iret dX9_near_82 rfl (Nat.le_refl _) (Nat.le_refl _) (zext_rf _) (fun hrr => ?_)
          rw [show 200 - a = (200 - (a + 1)) + 1 by omega, zne] at hQ
          rw [if_pos ⟨by omega, by omega, ha9⟩] at hQ
          exact hQ
set_option maxRecDepth 4000 in
theorem X9_near_ct {l : Launch} {Γ : zC} {h0 h : zM} {Q : Option zV → zC → zM → Prop} {i s r : Int} (hI : zIv Γ h0) (hF : zfr zSS h0 h) (hQ : ∀ h9, zfr zSS h0 h9 → Q (some (zI (zvNear h0 i s r))) Γ h9) : zCT l mX9_near 1682 0 0 Γ [zR 89, zI i, zI s, zI r] h Q := by
  have hΓ := hI.base
  have hx2 := hI.isl
  have hx3 := hI.hnd
  obtain ⟨hd, hhd⟩ := Int.eq_ofNat_of_zero_le (show 0 ≤ h0 89 32 by omega)
  have hdn : (h0 89 32).toNat = hd := by omega
  have hnw := hI.now
  refine zCT_of (by decide) (Nat.le_of_ble_eq_true rfl) (ls := [some (zR 89), some (zI i), some (zI s), some (zI r), none]) rfl ?_
  refine z_al0 dX9_near_0 (by first | decide | omega | assumption) ?_
  refine z_iconst dX9_near_1 (by decide) ?_
  refine z_putI zfX9_128 dX9_near_2 (zkB hΓ rfl) rfl rfl ?_
  replace hF : zfr zSS h0 (zup h 89 0 0) := zfr_up hF rfl
  generalize zup h 89 0 0 = h at hF ⊢
  refine z_al0 dX9_near_5 (by first | decide | omega | assumption) ?_
  refine z_il1 dX9_near_6 ?_
  refine zcv1 dX9_near_7 zkX9_299 ziX9_isIsle zsX9_isIsle (zkB hΓ rfl) (by decide) rfl (Nat.le_of_ble_eq_true rfl) (by decide) (by first | decide | omega) ⟨Nat.le_refl _, Nat.le_refl _⟩ (X9_isIsle_ct hI hF (fun hg1 _ => ?_) (fun hg1 _ => ?_))
  · try simp only [zup_ap, zup_row, ne_eq, not_false_eq_true, zres, Int.toNat_natCast, reduceIte, Nat.reduceEqDiff, Nat.reduceAdd, and_self, and_true, true_and, and_false, false_and]
    refine z_if_eq (t := 32) dX9_near_10 (by rfl) (fun _ => ?_) (fun hx => absurd hx (by decide))
    refine z_iconst dX9_near_32 (by decide) ?_
    refine z_iret dX9_near_33 rfl (Nat.le_refl _) (Nat.le_refl _) (zext_rf _) (fun hrr => ?_)
    have hw9 := hQ _ hF
    unfold zvNear at hw9
    rw [if_neg (by omega)] at hw9
    exact hw9
  · try simp only [zup_ap, zup_row, ne_eq, not_false_eq_true, zres, Int.toNat_natCast, reduceIte, Nat.reduceEqDiff, Nat.reduceAdd, and_self, and_true, true_and, and_false, false_and]
    refine z_if_eq (t := 32) dX9_near_10 (by rfl) (fun hx => absurd hx (by decide)) (fun _ => ?_)
    refine z_il2 dX9_near_13 ?_
    refine z_i2l dX9_near_14 ?_
    refine z_lconst (x := 1) dX9_near_15 (by rfl) (by decide) ?_
    refine z_ldc2 (x := 200) dX9_near_16 zqX9_332 (by decide) ?_
    refine zcs3 dX9_near_19 zkX9_261 ztX9_isIn (Nat.le_of_ble_eq_true rfl) (by decide) (by first | decide | omega) ⟨Nat.le_refl _, Nat.le_refl _⟩ (X9_isIn_ct (fun hg2 _ => ?_) (fun hg2 _ => ?_))
    · try simp only [zup_ap, zup_row, ne_eq, not_false_eq_true, zres, Int.toNat_natCast, reduceIte, Nat.reduceEqDiff, Nat.reduceAdd, and_self, and_true, true_and, and_false, false_and]
      refine z_if_eq (t := 32) dX9_near_22 (by rfl) (fun _ => ?_) (fun hx => absurd hx (by decide))
      refine z_iconst dX9_near_32 (by decide) ?_
      refine z_iret dX9_near_33 rfl (Nat.le_refl _) (Nat.le_refl _) (zext_rf _) (fun hrr => ?_)
      have hw9 := hQ _ hF
      unfold zvNear at hw9
      rw [if_neg (by omega)] at hw9
      exact hw9
    · try simp only [zup_ap, zup_row, ne_eq, not_false_eq_true, zres, Int.toNat_natCast, reduceIte, Nat.reduceEqDiff, Nat.reduceAdd, and_self, and_true, true_and, and_false, false_and]
      refine z_if_eq (t := 32) dX9_near_22 (by rfl) (fun hx => absurd hx (by decide)) (fun _ => ?_)
      refine z_il3 dX9_near_25 ?_
      refine zcs1 dX9_near_26 zkX9_334 ztX9_areRules (Nat.le_of_ble_eq_true rfl) (by decide) (by first | decide | omega) ⟨Nat.le_refl _, Nat.le_refl _⟩ (X9_areRules_ct (fun hg3 _ => ?_) (fun hg3 _ => ?_))
      · try simp only [zup_ap, zup_row, ne_eq, not_false_eq_true, zres, Int.toNat_natCast, reduceIte, Nat.reduceEqDiff, Nat.reduceAdd, and_self, and_true, true_and, and_false, false_and]
        refine z_if_ne (t := 34) dX9_near_29 (by rfl) (fun hx => absurd hx (by decide)) (fun _ => ?_)
        refine z_iconst dX9_near_32 (by decide) ?_
        refine z_iret dX9_near_33 rfl (Nat.le_refl _) (Nat.le_refl _) (zext_rf _) (fun hrr => ?_)
        have hw9 := hQ _ hF
        unfold zvNear at hw9
        rw [if_neg (by omega)] at hw9
        exact hw9
      · try simp only [zup_ap, zup_row, ne_eq, not_false_eq_true, zres, Int.toNat_natCast, reduceIte, Nat.reduceEqDiff, Nat.reduceAdd, and_self, and_true, true_and, and_false, false_and]
        refine z_if_ne (t := 34) dX9_near_29 (by rfl) (fun _ => ?_) (fun hx => absurd hx (by decide))
        refine z_al0 dX9_near_34 (by first | decide | omega | assumption) ?_
        refine z_il1 dX9_near_35 ?_
        refine z_al0 dX9_near_36 (by first | decide | omega | assumption) ?_
        refine z_getI zfX9_288 dX9_near_37 (zkB hΓ rfl) rfl ?_
        rw [hF 89 29 rfl]
        try simp only [zup_ap, zup_row, ne_eq, not_false_eq_true, zres, Int.toNat_natCast, reduceIte, Nat.reduceEqDiff, Nat.reduceAdd, and_self, and_true, true_and, and_false, false_and]
        refine zcv2 dX9_near_40 zkX9_337 ziX9_layBad zsX9_layBad (zkB hΓ rfl) (by decide) rfl (Nat.le_of_ble_eq_true rfl) (by decide) (by first | decide | omega) ⟨Nat.le_refl _, Nat.le_refl _⟩ (X9_layBad_ct hI hF hg1 (fun h2 hA2 hB2 _ => ?_))
        try simp only [zup_ap, zup_row, ne_eq, not_false_eq_true, zres, Int.toNat_natCast, reduceIte, Nat.reduceEqDiff, Nat.reduceAdd, and_self, and_true, true_and, and_false, false_and]
        replace hF := zfr_B hF zs102 hA2
        refine z_al0 dX9_near_43 (by first | decide | omega | assumption) ?_
        refine z_il3 dX9_near_44 ?_
        refine zcv1 dX9_near_45 zkX9_353 ziX9_layComes zsX9_layComes (zkB hΓ rfl) (by decide) rfl (Nat.le_of_ble_eq_true rfl) (by decide) (by first | decide | omega) ⟨Nat.le_refl _, Nat.le_refl _⟩ (X9_layComes_ct hI hF hhd hg3 hB2 (fun h3 hE3 hC3 _ => ?_))
        try simp only [zup_ap, zup_row, ne_eq, not_false_eq_true, zres, Int.toNat_natCast, reduceIte, Nat.reduceEqDiff, Nat.reduceAdd, and_self, and_true, true_and, and_false, false_and]
        have hF9 := zfr_1 hF zs103 hE3
        have hB3 : ∀ n, n ≤ 200 → h3 102 n = zbF h0 i (h0 89 29) n := fun n hn => by rw [hE3 102 (by decide)]; exact hB2 n hn
        have hw9 := hQ _ hF9
        unfold zvNear at hw9
        rw [if_pos (by omega)] at hw9
        rw [hdn] at hw9
        refine z_iconst dX9_near_48 (by decide) ?_
        refine z_is4 dX9_near_49 (Nat.le_of_ble_eq_true rfl) rfl ?_
        exact X9_near_l (by omega) hΓ hg3 hB3 hC3 _ 0 (Nat.lt_succ_self _) (by omega) hw9
theorem zgo_rv (b : Nat → Int) (r : Int) (hd : Nat) : ∀ (k t s : Nat), t ≤ s → (zgo b r hd s (k + 1) t = true ↔ zto b r s = true ∧ ∃ p, 1 ≤ p ∧ p ≤ hd ∧ p ≤ s ∧ t ≤ s - p ∧ zpt b r p = true ∧ zgo b r hd (s - p) k t = true)
  | 0, t, s, ht => by
    show zan _ hd = true ↔ _
    rw [zan_iff]
    constructor
    · rintro ⟨p, h1, h2, h3⟩
      simp only [Bool.and_eq_true, decide_eq_true_eq] at h3
      obtain ⟨h3, h4, h5, h6⟩ := h3
      have h6 : t + p = s := of_decide_eq_true h6
      refine ⟨by rw [← h6]; exact h5, p, h1, h2, by omega, by omega, h4, decide_eq_true (by omega)⟩
    · rintro ⟨h1, p, h2, h3, h4, h5, h6, h7⟩
      have h7 : t = s - p := of_decide_eq_true h7
      have h8 : t + p = s := by omega
      refine ⟨p, h2, h3, ?_⟩
      simp only [Bool.and_eq_true, decide_eq_true_eq]
      exact ⟨by omega, h6, by rw [h8]; exact h1, decide_eq_true h8⟩
  | k + 1, t, s, ht => by
    show zan _ hd = true ↔ _
    rw [zan_iff]
    constructor
    · rintro ⟨p, h1, h2, h3⟩
      simp only [Bool.and_eq_true, decide_eq_true_eq] at h3
      obtain ⟨h3, h4, h5, h6⟩ := h3
      obtain ⟨g1, q, g2, g3, g4, g5, g6, g7⟩ := (zgo_rv b r hd k (t + p) s (by omega)).1 h6
      refine ⟨g1, q, g2, g3, g4, by omega, g6, ?_⟩
      show zan _ hd = true
      rw [zan_iff]
      refine ⟨p, h1, h2, ?_⟩
      simp only [Bool.and_eq_true, decide_eq_true_eq]
      exact ⟨by omega, h4, h5, g7⟩
    · rintro ⟨g1, q, g2, g3, g4, g5, g6, g7⟩
      change zan _ hd = true at g7
      rw [zan_iff] at g7
      obtain ⟨p, h1, h2, h3⟩ := g7
      simp only [Bool.and_eq_true, decide_eq_true_eq] at h3
      refine ⟨p, h1, h2, ?_⟩
      simp only [Bool.and_eq_true, decide_eq_true_eq]
      exact ⟨by omega, h3.2.1, h3.2.2.1, (zgo_rv b r hd k (t + p) s (by omega)).2 ⟨g1, q, g2, g3, g4, by omega, g6, h3.2.2.2⟩⟩
theorem zcm_go (b : Nat → Int) (r : Int) (hd : Nat) : ∀ (k s : Nat), zcm b r hd k s = zgo b r hd s k 0
  | 0, s => by
    show decide (s = 0) = decide (0 = s)
    by_cases e : s = 0
    · subst e; rfl
    · rw [decide_eq_false e, decide_eq_false (fun x => e x.symm)]
  | k + 1, s => by
    refine zb_ext ?_
    rw [zgo_rv b r hd k 0 s (Nat.zero_le _)]
    show (_ && _) = true ↔ _
    rw [Bool.and_eq_true, zan_iff]
    refine and_congr Iff.rfl ⟨?_, ?_⟩
    · rintro ⟨p, h1, h2, h3⟩
      simp only [Bool.and_eq_true, decide_eq_true_eq] at h3
      exact ⟨p, h1, h2, h3.1, by omega, h3.2.1, by rw [← zcm_go b r hd k (s - p)]; exact h3.2.2⟩
    · rintro ⟨p, h1, h2, h3, h4, h5, h6⟩
      refine ⟨p, h1, h2, ?_⟩
      simp only [Bool.and_eq_true, decide_eq_true_eq]
      exact ⟨h3, h5, by rw [zcm_go b r hd k (s - p)]; exact h6⟩
theorem zpt_cg {b c : Nat → Int} {r : Int} {p : Nat} (h : b p = c p) : zpt b r p = zpt c r p := by unfold zpt; rw [h]
def zbJ (h : zM) (i j d : Int) : Nat → Int := fun n => zor2 (zFo h i (n : Int) d) (zFo h j (n : Int) d)
theorem zbJ_0 (h : zM) (i j d r : Int) : zto (zbJ h i j d) r 0 = true := zto_t (Or.inr (by unfold zbJ zor2; rw [if_pos ⟨zFo_0 (Int.le_refl 0), zFo_0 (Int.le_refl 0)⟩]))
def zvJoint (h : zM) (i j s r : Int) : Int := if (0 ≤ i ∧ i < h 89 22) ∧ (0 ≤ j ∧ j < h 89 22) ∧ i ≠ j ∧ (1 ≤ s ∧ s ≤ 200) ∧ (0 ≤ r ∧ r ≤ 7) then zlf (fun k => zcm (zbJ h i j (h 89 29)) r (h 89 32).toNat k s.toNat && zco (zbJ h i j (h 89 29)) r k) 60 1 else -1
set_option maxRecDepth 4000 in
theorem X8_joint_ct {l : Launch} {Γ : zC} {h0 h : zM} {Q : Option zV → zC → zM → Prop} {i j s r : Int} (hI : zIv Γ h0) (hF : zfr zSS h0 h) (hO : h0 89 30 = -1) (hQ : ∀ h9, zfr zSS h0 h9 → Q (some (zI (zvJoint h0 i j s r))) Γ h9) : zCT l mX8_joint 5 0 0 Γ [zR 1, zI i, zI j, zI s, zI r] h Q := by
  have hΓ := hI.base
  have hx2 := hI.isl
  have hx3 := hI.hnd
  obtain ⟨hd, hhd⟩ := Int.eq_ofNat_of_zero_le (show 0 ≤ h0 89 32 by omega)
  have hdn : (h0 89 32).toNat = hd := by omega
  have hnw := hI.now
  refine zCT_of (by decide) (Nat.le_of_ble_eq_true rfl) (ls := [some (zR 1), some (zI i), some (zI j), some (zI s), some (zI r)]) rfl ?_
  refine z_al0 dX8_joint_0 (by first | decide | omega | assumption) ?_
  refine z_il1 dX8_joint_1 ?_
  refine z_il3 dX8_joint_2 ?_
  refine z_il4 dX8_joint_3 ?_
  refine zcv3 dX8_joint_5 zkX8_149 ziX8_isPayment zsX8_isPayment (zkB hΓ rfl) (by decide) rfl (Nat.le_of_ble_eq_true rfl) (by decide) (by first | decide | omega) ⟨Nat.le_refl _, Nat.le_refl _⟩ (X8_isPayment_ct hI hF (fun hg1 _ => ?_) (fun hg1 _ => ?_))
  · try simp only [zup_ap, zup_row, ne_eq, not_false_eq_true, zres, Int.toNat_natCast, reduceIte, Nat.reduceEqDiff, Nat.reduceAdd, and_self, and_true, true_and, and_false, false_and]
    refine z_if_eq (t := 27) dX8_joint_8 (by rfl) (fun _ => ?_) (fun hx => absurd hx (by decide))
    refine z_iconst dX8_joint_27 (by decide) ?_
    refine z_iret dX8_joint_28 rfl (Nat.le_refl _) (Nat.le_refl _) (zext_rf _) (fun hrr => ?_)
    have hw9 := hQ _ hF
    unfold zvJoint at hw9
    rw [if_neg (by omega)] at hw9
    exact hw9
  · try simp only [zup_ap, zup_row, ne_eq, not_false_eq_true, zres, Int.toNat_natCast, reduceIte, Nat.reduceEqDiff, Nat.reduceAdd, and_self, and_true, true_and, and_false, false_and]
    refine z_if_eq (t := 27) dX8_joint_8 (by rfl) (fun hx => absurd hx (by decide)) (fun _ => ?_)
    refine z_al0 dX8_joint_11 (by first | decide | omega | assumption) ?_
    refine z_getR zfX8_35 dX8_joint_12 (zkB hΓ rfl) rfl (zsB hΓ rfl) (zvB hΓ (by decide)) ?_
    refine z_il2 dX8_joint_15 ?_
    refine zcv1 dX8_joint_16 zkX8_114 ziX7_isIsle zsX7_isIsle (zkB hΓ rfl) (by decide) rfl (Nat.le_of_ble_eq_true rfl) (by decide) (by first | decide | omega) ⟨Nat.le_refl _, Nat.le_refl _⟩ (X7_isIsle_ct hI hF (fun hg2 _ => ?_) (fun hg2 _ => ?_))
    · try simp only [zup_ap, zup_row, ne_eq, not_false_eq_true, zres, Int.toNat_natCast, reduceIte, Nat.reduceEqDiff, Nat.reduceAdd, and_self, and_true, true_and, and_false, false_and]
      refine z_if_eq (t := 27) dX8_joint_19 (by rfl) (fun _ => ?_) (fun hx => absurd hx (by decide))
      refine z_iconst dX8_joint_27 (by decide) ?_
      refine z_iret dX8_joint_28 rfl (Nat.le_refl _) (Nat.le_refl _) (zext_rf _) (fun hrr => ?_)
      have hw9 := hQ _ hF
      unfold zvJoint at hw9
      rw [if_neg (by omega)] at hw9
      exact hw9
    · try simp only [zup_ap, zup_row, ne_eq, not_false_eq_true, zres, Int.toNat_natCast, reduceIte, Nat.reduceEqDiff, Nat.reduceAdd, and_self, and_true, true_and, and_false, false_and]
      refine z_if_eq (t := 27) dX8_joint_19 (by rfl) (fun hx => absurd hx (by decide)) (fun _ => ?_)
      refine z_il1 dX8_joint_22 ?_
      refine z_il2 dX8_joint_23 ?_
      refine z_icmp_ne (t := 29) dX8_joint_24 (by rfl) (fun ht24 => ?_) (fun hf24 => ?_)
      · refine z_al0 dX8_joint_29 (by first | decide | omega | assumption) ?_
        refine z_il1 dX8_joint_30 ?_
        refine z_al0 dX8_joint_31 (by first | decide | omega | assumption) ?_
        refine z_getI zfX8_79 dX8_joint_32 (zkB hΓ rfl) rfl ?_
        rw [hF 1 11 rfl, hI.hnd.1, hhd]
        try simp only [zup_ap, zup_row, ne_eq, not_false_eq_true, zres, Int.toNat_natCast, reduceIte, Nat.reduceEqDiff, Nat.reduceAdd, and_self, and_true, true_and, and_false, false_and]
        refine z_il4 dX8_joint_35 ?_
        refine zcv3 dX8_joint_37 zkX8_152 ziX8_openPurse zsX8_openPurse (zkB hΓ rfl) (by decide) rfl (Nat.le_of_ble_eq_true rfl) (by decide) (by first | decide | omega) ⟨Nat.le_refl _, Nat.le_refl _⟩ (X8_openPurse_ct hI hF hO (by omega) (by omega) (by omega) (fun h2 hO2 hF2 hP _ => ?_))
        try simp only [zup_ap, zup_row, ne_eq, not_false_eq_true, zres, Int.toNat_natCast, reduceIte, Nat.reduceEqDiff, Nat.reduceAdd, and_self, and_true, true_and, and_false, false_and]
        refine z_al0 dX8_joint_40 (by first | decide | omega | assumption) ?_
        refine z_getR zfX8_35 dX8_joint_41 (zkB hΓ rfl) rfl (zsB hΓ rfl) (zvB hΓ (by decide)) ?_
        refine z_al0 dX8_joint_44 (by first | decide | omega | assumption) ?_
        refine z_getR zfX8_49 dX8_joint_45 (zkB hΓ rfl) rfl (zsB hΓ rfl) (zvB hΓ (by decide)) ?_
        refine z_getR zfX8_281 dX8_joint_48 (zkB hΓ rfl) rfl (zsB hΓ rfl) (zvB hΓ (by decide)) ?_
        refine z_il2 dX8_joint_51 ?_
        refine zcv2 dX8_joint_52 zkX8_284 ziX7_barAlso zsX7_barAlso (zkB hΓ rfl) (by decide) rfl (Nat.le_of_ble_eq_true rfl) (by decide) (by first | decide | omega) ⟨Nat.le_refl _, Nat.le_refl _⟩ (X7_barAlso_ct hI hF2 hg2 (b := h2 42) (fun n => rfl) (fun h3 hA3 hB3 _ => ?_))
        try simp only [zup_ap, zup_row, ne_eq, not_false_eq_true, zres, Int.toNat_natCast, reduceIte, Nat.reduceEqDiff, Nat.reduceAdd, and_self, and_true, true_and, and_false, false_and]
        have hP3 : zPu h3 (zbJ h0 i j (h0 89 29)) r hd := ⟨fun n hn => by
            rw [hB3 n hn, hP.1 n hn]
            unfold zbJ zbF
            conv => rhs; rw [zFo, zFo]
            unfold zTbR
            rw [if_neg (by omega), if_neg (by omega)]
            unfold zFo zTbR
            rw [if_neg (by omega)], by rw [hA3 41 (by decide) (by decide)]; exact hP.2.1, by rw [hA3 41 (by decide) (by decide)]; exact hP.2.2.1, hP.2.2.2.1, hP.2.2.2.2⟩
        have hF3 := zfr_A hF2 hA3
        obtain ⟨s9, rfl⟩ := Int.eq_ofNat_of_zero_le (show 0 ≤ s by omega)
        refine z_al0 dX8_joint_55 (by first | decide | omega | assumption) ?_
        refine z_getR zfX8_49 dX8_joint_56 (zkB hΓ rfl) rfl (zsB hΓ rfl) (zvB hΓ (by decide)) ?_
        refine z_il3 dX8_joint_59 ?_
        refine z_iconst dX8_joint_60 (by decide) ?_
        refine zcv2 dX8_joint_61 zkX8_156 ziX4_rowPart zsX4_rowPart (zkB hΓ rfl) (by decide) rfl (Nat.le_of_ble_eq_true rfl) (by decide) (by first | decide | omega) ⟨Nat.le_refl _, Nat.le_refl _⟩ (X4_rowPart_ct hΓ hP3 (by omega) (by omega) (fun h4 hE4 _ => ?_))
        try simp only [zup_ap, zup_row, ne_eq, not_false_eq_true, zres, Int.toNat_natCast, reduceIte, Nat.reduceEqDiff, Nat.reduceAdd, and_self, and_true, true_and, and_false, false_and]
        refine z_iret dX8_joint_64 rfl (Nat.le_refl _) (Nat.le_refl _) (zext_rf _) (fun hrr => ?_)
        have hw9 := hQ _ (zfr_1 hF3 zs43 hE4)
        unfold zvJoint at hw9
        rw [if_pos (by omega)] at hw9
        rw [hdn, Int.toNat_natCast] at hw9
        unfold zrp
        rw [if_pos rfl, zpar_r (zbJ_0 _ _ _ _ _)]
        rw [show (fun k => zgo (zbJ h0 i j (h0 89 29)) r hd s9 k 0 && zco (zbJ h0 i j (h0 89 29)) r k) = (fun k => zcm (zbJ h0 i j (h0 89 29)) r hd k s9 && zco (zbJ h0 i j (h0 89 29)) r k) from funext (fun k => by rw [zcm_go])]
        exact hw9
      · refine z_iconst dX8_joint_27 (by decide) ?_
        refine z_iret dX8_joint_28 rfl (Nat.le_refl _) (Nat.le_refl _) (zext_rf _) (fun hrr => ?_)
        have hw9 := hQ _ hF
        unfold zvJoint at hw9
        rw [if_neg (by omega)] at hw9
        exact hw9
