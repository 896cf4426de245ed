/-! SUMS paid: pay, cant, near, joint, worst; class and reference -/
set_option maxRecDepth 4000 in
theorem X9_isIn_ct {l : Launch} {Γ : zC} {h : zM} {Q : Option zV → zC → zM → Prop} {a b c : Int} (hQ0 : ¬ (b ≤ a ∧ a ≤ c) → Q (some (zI 0)) Γ h) (hQ1 : (b ≤ a ∧ a ≤ c) → Q (some (zI 1)) Γ h) : zCT l mX9_isIn 0 0 0 Γ [zL a, zL b, zL c] h Q := by
  refine zCT_of (by decide) (Nat.le_of_ble_eq_true rfl) (ls := [some (zL a), none, some (zL b), none, some (zL c), none]) rfl ?_
  refine z_ll0 dX9_isIn_0 ?_
  refine z_ll2 dX9_isIn_1 ?_
  refine z_lcmp dX9_isIn_2 ?_
  refine z_if_lt (t := 17) dX9_isIn_3 (by rfl) (fun ht3 => ?_) (fun hf3 => ?_)
  · refine z_iconst dX9_isIn_17 (by decide) ?_
    refine z_zret dX9_isIn_18 rfl (Nat.le_refl _) (Nat.le_refl _) (zext_rf _) (by first | exact Or.inl rfl | exact Or.inr rfl | omega) ?_
    simp only [zcmp_l, zcmp_g] at *
    first | exact hQ0 (by omega) | exact hQ1 (by omega)
  · refine z_ll0 dX9_isIn_6 ?_
    refine z_ll4 dX9_isIn_7 ?_
    refine z_lcmp dX9_isIn_9 ?_
    refine z_if_gt (t := 17) dX9_isIn_10 (by rfl) (fun ht10 => ?_) (fun hf10 => ?_)
    · refine z_iconst dX9_isIn_17 (by decide) ?_
      refine z_zret dX9_isIn_18 rfl (Nat.le_refl _) (Nat.le_refl _) (zext_rf _) (by first | exact Or.inl rfl | exact Or.inr rfl | omega) ?_
      simp only [zcmp_l, zcmp_g] at *
      first | exact hQ0 (by omega) | exact hQ1 (by omega)
    · refine z_iconst dX9_isIn_13 (by decide) ?_
      refine z_goto (t := 18) dX9_isIn_14 (by rfl) ?_
      refine z_zret dX9_isIn_18 rfl (Nat.le_refl _) (Nat.le_refl _) (zext_rf _) (by first | exact Or.inl rfl | exact Or.inr rfl | omega) ?_
      simp only [zcmp_l, zcmp_g] at *
      first | exact hQ0 (by omega) | exact hQ1 (by omega)
set_option maxRecDepth 4000 in
theorem X8_isRules_ct {l : Launch} {Γ : zC} {h : zM} {Q : Option zV → zC → zM → Prop} {a : Int} (hQ0 : ¬ (0 ≤ a ∧ a ≤ 7) → Q (some (zI 0)) Γ h) (hQ1 : (0 ≤ a ∧ a ≤ 7) → Q (some (zI 1)) Γ h) : zCT l mX8_isRules 0 0 0 Γ [zI a] h Q := by
  refine zCT_of (by decide) (Nat.le_of_ble_eq_true rfl) (ls := [some (zI a)]) rfl ?_
  refine z_il0 dX8_isRules_0 ?_
  refine z_if_lt (t := 14) dX8_isRules_1 (by rfl) (fun ht1 => ?_) (fun hf1 => ?_)
  · refine z_iconst dX8_isRules_14 (by decide) ?_
    refine z_zret dX8_isRules_15 rfl (Nat.le_refl _) (Nat.le_refl _) (zext_rf _) (by first | exact Or.inl rfl | exact Or.inr rfl | omega) ?_
    first | exact hQ0 (by omega) | exact hQ1 (by omega)
  · refine z_il0 dX8_isRules_4 ?_
    refine z_bipush (x := 7) dX8_isRules_5 (by rfl) (by decide) ?_
    refine z_icmp_gt (t := 14) dX8_isRules_7 (by rfl) (fun ht7 => ?_) (fun hf7 => ?_)
    · refine z_iconst dX8_isRules_14 (by decide) ?_
      refine z_zret dX8_isRules_15 rfl (Nat.le_refl _) (Nat.le_refl _) (zext_rf _) (by first | exact Or.inl rfl | exact Or.inr rfl | omega) ?_
      first | exact hQ0 (by omega) | exact hQ1 (by omega)
    · refine z_iconst dX8_isRules_10 (by decide) ?_
      refine z_goto (t := 15) dX8_isRules_11 (by rfl) ?_
      refine z_zret dX8_isRules_15 rfl (Nat.le_refl _) (Nat.le_refl _) (zext_rf _) (by first | exact Or.inl rfl | exact Or.inr rfl | omega) ?_
      first | exact hQ0 (by omega) | exact hQ1 (by omega)
set_option maxRecDepth 4000 in
theorem X8_isNumber_ct {l : Launch} {Γ : zC} {h : zM} {Q : Option zV → zC → zM → Prop} {a : Int} (hQ0 : ¬ (0 ≤ a ∧ a ≤ 999) → Q (some (zI 0)) Γ h) (hQ1 : (0 ≤ a ∧ a ≤ 999) → Q (some (zI 1)) Γ h) : zCT l mX8_isNumber 0 0 0 Γ [zI a] h Q := by
  refine zCT_of (by decide) (Nat.le_of_ble_eq_true rfl) (ls := [some (zI a)]) rfl ?_
  refine z_il0 dX8_isNumber_0 ?_
  refine z_if_lt (t := 15) dX8_isNumber_1 (by rfl) (fun ht1 => ?_) (fun hf1 => ?_)
  · refine z_iconst dX8_isNumber_15 (by decide) ?_
    refine z_zret dX8_isNumber_16 rfl (Nat.le_refl _) (Nat.le_refl _) (zext_rf _) (by first | exact Or.inl rfl | exact Or.inr rfl | omega) ?_
    first | exact hQ0 (by omega) | exact hQ1 (by omega)
  · refine z_il0 dX8_isNumber_4 ?_
    refine z_sipush (x := 999) dX8_isNumber_5 (by rfl) (by decide) ?_
    refine z_icmp_gt (t := 15) dX8_isNumber_8 (by rfl) (fun ht8 => ?_) (fun hf8 => ?_)
    · refine z_iconst dX8_isNumber_15 (by decide) ?_
      refine z_zret dX8_isNumber_16 rfl (Nat.le_refl _) (Nat.le_refl _) (zext_rf _) (by first | exact Or.inl rfl | exact Or.inr rfl | omega) ?_
      first | exact hQ0 (by omega) | exact hQ1 (by omega)
    · refine z_iconst dX8_isNumber_11 (by decide) ?_
      refine z_goto (t := 16) dX8_isNumber_12 (by rfl) ?_
      refine z_zret dX8_isNumber_16 rfl (Nat.le_refl _) (Nat.le_refl _) (zext_rf _) (by first | exact Or.inl rfl | exact Or.inr rfl | omega) ?_
      first | exact hQ0 (by omega) | exact hQ1 (by omega)
set_option maxRecDepth 4000 in
theorem X8_isDay_ct {l : Launch} {Γ : zC} {h : zM} {Q : Option zV → zC → zM → Prop} {a : Int} (hQ0 : ¬ (0 ≤ a ∧ a ≤ 99) → Q (some (zI 0)) Γ h) (hQ1 : (0 ≤ a ∧ a ≤ 99) → Q (some (zI 1)) Γ h) : zCT l mX8_isDay 0 0 0 Γ [zI a] h Q := by
  refine zCT_of (by decide) (Nat.le_of_ble_eq_true rfl) (ls := [some (zI a)]) rfl ?_
  refine z_il0 dX8_isDay_0 ?_
  refine z_if_lt (t := 14) dX8_isDay_1 (by rfl) (fun ht1 => ?_) (fun hf1 => ?_)
  · refine z_iconst dX8_isDay_14 (by decide) ?_
    refine z_zret dX8_isDay_15 rfl (Nat.le_refl _) (Nat.le_refl _) (zext_rf _) (by first | exact Or.inl rfl | exact Or.inr rfl | omega) ?_
    first | exact hQ0 (by omega) | exact hQ1 (by omega)
  · refine z_il0 dX8_isDay_4 ?_
    refine z_bipush (x := 99) dX8_isDay_5 (by rfl) (by decide) ?_
    refine z_icmp_gt (t := 14) dX8_isDay_7 (by rfl) (fun ht7 => ?_) (fun hf7 => ?_)
    · refine z_iconst dX8_isDay_14 (by decide) ?_
      refine z_zret dX8_isDay_15 rfl (Nat.le_refl _) (Nat.le_refl _) (zext_rf _) (by first | exact Or.inl rfl | exact Or.inr rfl | omega) ?_
      first | exact hQ0 (by omega) | exact hQ1 (by omega)
    · refine z_iconst dX8_isDay_10 (by decide) ?_
      refine z_goto (t := 15) dX8_isDay_11 (by rfl) ?_
      refine z_zret dX8_isDay_15 rfl (Nat.le_refl _) (Nat.le_refl _) (zext_rf _) (by first | exact Or.inl rfl | exact Or.inr rfl | omega) ?_
      first | exact hQ0 (by omega) | exact hQ1 (by omega)
set_option maxRecDepth 4000 in
theorem X9_areRules_ct {l : Launch} {Γ : zC} {h : zM} {Q : Option zV → zC → zM → Prop} {a : Int} (hQ0 : ¬ (0 ≤ a ∧ a ≤ 7) → Q (some (zI 0)) Γ h) (hQ1 : (0 ≤ a ∧ a ≤ 7) → Q (some (zI 1)) Γ h) : zCT l mX9_areRules 1 0 0 Γ [zI a] h Q := by
  refine zCT_of (by decide) (Nat.le_of_ble_eq_true rfl) (ls := [some (zI a)]) rfl ?_
  refine z_il0 dX9_areRules_0 ?_
  refine z_i2l dX9_areRules_1 ?_
  refine z_lconst (x := 0) dX9_areRules_2 (by rfl) (by decide) ?_
  refine z_ldc2 (x := 7) dX9_areRules_3 zqX9_330 (by decide) ?_
  refine zcs3 dX9_areRules_6 zkX9_261 ztX9_isIn (Nat.le_of_ble_eq_true rfl) (by decide) (by first | decide | omega) ⟨Nat.le_refl _, Nat.le_refl _⟩ (X9_isIn_ct (fun hg9 _ => ?_) (fun hg9 _ => ?_))
  · try simp only [zup_ap, zup_row, ne_eq, not_false_eq_true, zres, Int.toNat_natCast, reduceIte, Nat.reduceEqDiff, Nat.reduceAdd, and_self, and_true, true_and, and_false, false_and]
    refine z_zret dX9_areRules_9 rfl (Nat.le_refl _) (Nat.le_refl _) (zext_rf _) (by first | exact Or.inl rfl | exact Or.inr rfl | omega) ?_
    first | exact hQ0 (by omega) | exact hQ1 (by omega)
  · try simp only [zup_ap, zup_row, ne_eq, not_false_eq_true, zres, Int.toNat_natCast, reduceIte, Nat.reduceEqDiff, Nat.reduceAdd, and_self, and_true, true_and, and_false, false_and]
    refine z_zret dX9_areRules_9 rfl (Nat.le_refl _) (Nat.le_refl _) (zext_rf _) (by first | exact Or.inl rfl | exact Or.inr rfl | omega) ?_
    first | exact hQ0 (by omega) | exact hQ1 (by omega)
set_option maxRecDepth 4000 in
theorem X9_isDay_ct {l : Launch} {Γ : zC} {h : zM} {Q : Option zV → zC → zM → Prop} {a : Int} (hQ0 : ¬ (0 ≤ a ∧ a ≤ 99) → Q (some (zI 0)) Γ h) (hQ1 : (0 ≤ a ∧ a ≤ 99) → Q (some (zI 1)) Γ h) : zCT l mX9_isDay 1 0 0 Γ [zI a] h Q := by
  refine zCT_of (by decide) (Nat.le_of_ble_eq_true rfl) (ls := [some (zI a)]) rfl ?_
  refine z_il0 dX9_isDay_0 ?_
  refine z_i2l dX9_isDay_1 ?_
  refine z_lconst (x := 0) dX9_isDay_2 (by rfl) (by decide) ?_
  refine z_ldc2 (x := 99) dX9_isDay_3 zqX9_294 (by decide) ?_
  refine zcs3 dX9_isDay_6 zkX9_261 ztX9_isIn (Nat.le_of_ble_eq_true rfl) (by decide) (by first | decide | omega) ⟨Nat.le_refl _, Nat.le_refl _⟩ (X9_isIn_ct (fun hg9 _ => ?_) (fun hg9 _ => ?_))
  · try simp only [zup_ap, zup_row, ne_eq, not_false_eq_true, zres, Int.toNat_natCast, reduceIte, Nat.reduceEqDiff, Nat.reduceAdd, and_self, and_true, true_and, and_false, false_and]
    refine z_zret dX9_isDay_9 rfl (Nat.le_refl _) (Nat.le_refl _) (zext_rf _) (by first | exact Or.inl rfl | exact Or.inr rfl | omega) ?_
    first | exact hQ0 (by omega) | exact hQ1 (by omega)
  · try simp only [zup_ap, zup_row, ne_eq, not_false_eq_true, zres, Int.toNat_natCast, reduceIte, Nat.reduceEqDiff, Nat.reduceAdd, and_self, and_true, true_and, and_false, false_and]
    refine z_zret dX9_isDay_9 rfl (Nat.le_refl _) (Nat.le_refl _) (zext_rf _) (by first | exact Or.inl rfl | exact Or.inr rfl | omega) ?_
    first | exact hQ0 (by omega) | exact hQ1 (by omega)
set_option maxRecDepth 4000 in
theorem X8_isPayment_ct {l : Launch} {Γ : zC} {h0 h : zM} {Q : Option zV → zC → zM → Prop} {i s r : Int} (hI : zIv Γ h0) (hF : zfr zSS h0 h) (hQ0 : ¬ ((0 ≤ i ∧ i < h0 89 22) ∧ (1 ≤ s ∧ s ≤ 200) ∧ (0 ≤ r ∧ r ≤ 7)) → Q (some (zI 0)) Γ h) (hQ1 : ((0 ≤ i ∧ i < h0 89 22) ∧ (1 ≤ s ∧ s ≤ 200) ∧ (0 ≤ r ∧ r ≤ 7)) → Q (some (zI 1)) Γ h) : zCT l mX8_isPayment 1 0 0 Γ [zR 1, zI i, zI s, zI r] h Q := by
  have hΓ := hI.base
  have hx2 := hI.isl
  refine zCT_of (by decide) (Nat.le_of_ble_eq_true rfl) (ls := [some (zR 1), some (zI i), some (zI s), some (zI r)]) rfl ?_
  refine z_al0 dX8_isPayment_0 (by first | decide | omega | assumption) ?_
  refine z_getR zfX8_35 dX8_isPayment_1 (zkB hΓ rfl) rfl (zsB hΓ rfl) (zvB hΓ (by decide)) ?_
  refine z_il1 dX8_isPayment_4 ?_
  refine zcv1 dX8_isPayment_5 zkX8_114 ziX7_isIsle zsX7_isIsle (zkB hΓ rfl) (by decide) rfl (Nat.le_of_ble_eq_true rfl) (by decide) (by first | decide | omega) ⟨Nat.le_refl _, Nat.le_refl _⟩ (X7_isIsle_ct hI hF (fun hg1 _ => ?_) (fun hg1 _ => ?_))
  · try simp only [zup_ap, zup_row, ne_eq, not_false_eq_true, zres, Int.toNat_natCast, reduceIte, Nat.reduceEqDiff, Nat.reduceAdd, and_self, and_true, true_and, and_false, false_and]
    refine z_if_eq (t := 34) dX8_isPayment_8 (by rfl) (fun _ => ?_) (fun hx => absurd hx (by decide))
    refine z_iconst dX8_isPayment_34 (by decide) ?_
    refine z_zret dX8_isPayment_35 rfl (Nat.le_refl _) (Nat.le_refl _) (zext_rf _) (by first | exact Or.inl rfl | exact Or.inr rfl | omega) ?_
    first | exact hQ0 (by omega) | exact hQ1 (by omega)
  · try simp only [zup_ap, zup_row, ne_eq, not_false_eq_true, zres, Int.toNat_natCast, reduceIte, Nat.reduceEqDiff, Nat.reduceAdd, and_self, and_true, true_and, and_false, false_and]
    refine z_if_eq (t := 34) dX8_isPayment_8 (by rfl) (fun hx => absurd hx (by decide)) (fun _ => ?_)
    refine z_il2 dX8_isPayment_11 ?_
    refine z_iconst dX8_isPayment_12 (by decide) ?_
    refine z_icmp_lt (t := 34) dX8_isPayment_13 (by rfl) (fun ht13 => ?_) (fun hf13 => ?_)
    · refine z_iconst dX8_isPayment_34 (by decide) ?_
      refine z_zret dX8_isPayment_35 rfl (Nat.le_refl _) (Nat.le_refl _) (zext_rf _) (by first | exact Or.inl rfl | exact Or.inr rfl | omega) ?_
      first | exact hQ0 (by omega) | exact hQ1 (by omega)
    · refine z_il2 dX8_isPayment_16 ?_
      refine z_sipush (x := 200) dX8_isPayment_17 (by rfl) (by decide) ?_
      refine z_icmp_gt (t := 34) dX8_isPayment_20 (by rfl) (fun ht20 => ?_) (fun hf20 => ?_)
      · refine z_iconst dX8_isPayment_34 (by decide) ?_
        refine z_zret dX8_isPayment_35 rfl (Nat.le_refl _) (Nat.le_refl _) (zext_rf _) (by first | exact Or.inl rfl | exact Or.inr rfl | omega) ?_
        first | exact hQ0 (by omega) | exact hQ1 (by omega)
      · refine z_il3 dX8_isPayment_23 ?_
        refine zcs1 dX8_isPayment_24 zkX8_165 ztX8_isRules (Nat.le_of_ble_eq_true rfl) (by decide) (by first | decide | omega) ⟨Nat.le_refl _, Nat.le_refl _⟩ (X8_isRules_ct (fun hg2 _ => ?_) (fun hg2 _ => ?_))
        · try simp only [zup_ap, zup_row, ne_eq, not_false_eq_true, zres, Int.toNat_natCast, reduceIte, Nat.reduceEqDiff, Nat.reduceAdd, and_self, and_true, true_and, and_false, false_and]
          refine z_if_eq (t := 34) dX8_isPayment_27 (by rfl) (fun _ => ?_) (fun hx => absurd hx (by decide))
          refine z_iconst dX8_isPayment_34 (by decide) ?_
          refine z_zret dX8_isPayment_35 rfl (Nat.le_refl _) (Nat.le_refl _) (zext_rf _) (by first | exact Or.inl rfl | exact Or.inr rfl | omega) ?_
          first | exact hQ0 (by omega) | exact hQ1 (by omega)
        · try simp only [zup_ap, zup_row, ne_eq, not_false_eq_true, zres, Int.toNat_natCast, reduceIte, Nat.reduceEqDiff, Nat.reduceAdd, and_self, and_true, true_and, and_false, false_and]
          refine z_if_eq (t := 34) dX8_isPayment_27 (by rfl) (fun hx => absurd hx (by decide)) (fun _ => ?_)
          refine z_iconst dX8_isPayment_30 (by decide) ?_
          refine z_goto (t := 35) dX8_isPayment_31 (by rfl) ?_
          refine z_zret dX8_isPayment_35 rfl (Nat.le_refl _) (Nat.le_refl _) (zext_rf _) (by first | exact Or.inl rfl | exact Or.inr rfl | omega) ?_
          first | exact hQ0 (by omega) | exact hQ1 (by omega)
def zvPay (h : zM) (i s r j : Int) : Int := if (0 ≤ i ∧ i < h 89 22) ∧ (1 ≤ s ∧ s ≤ 200) ∧ (0 ≤ r ∧ r ≤ 7) then zrp (zbF h i (h 89 29)) r (h 89 32).toNat s.toNat j else -1
theorem zbF_0 (h : zM) (i d : Int) (r : Int) : zto (zbF h i d) r 0 = true := zto_t (Or.inr (zFo_0 (Int.le_refl 0)))
theorem zpar_r {b : Nat → Int} {r : Int} {hd s : Nat} (h : zto b r 0 = true) : zpar b r hd s = zlf (fun k => zgo b r hd s k 0 && zco b r k) 60 1 := zlf_cg _ _ (fun q _ _ => by rw [h, Bool.true_and])
set_option maxRecDepth 4000 in
theorem X8_pay_ct {l : Launch} {Γ : zC} {h0 h : zM} {Q : Option zV → zC → zM → Prop} {i s r j : Int} (hI : zIv Γ h0) (hF : zfr zSS h0 h) (hO : h0 89 30 = -1) (hQ : ∀ h9, zfr zSS h0 h9 → Q (some (zI (zvPay h0 i s r j))) Γ h9) : zCT l mX8_pay 5 0 0 Γ [zR 1, zI i, zI s, zI r, zI j] h Q := by
  have hΓ := hI.base
  have hx2 := hI.isl
  have hx3 := hI.hnd
  obtain ⟨hd, hhd⟩ := Int.eq_ofNat_of_zero_le (show 0 ≤ h0 89 32 by omega)
  have hdn : (h0 89 32).toNat = hd := by omega
  have hnw := hI.now
  refine zCT_of (by decide) (Nat.le_of_ble_eq_true rfl) (ls := [some (zR 1), some (zI i), some (zI s), some (zI r), some (zI j)]) rfl ?_
  refine z_al0 dX8_pay_0 (by first | decide | omega | assumption) ?_
  refine z_il1 dX8_pay_1 ?_
  refine z_il2 dX8_pay_2 ?_
  refine z_il3 dX8_pay_3 ?_
  refine zcv3 dX8_pay_4 zkX8_149 ziX8_isPayment zsX8_isPayment (zkB hΓ rfl) (by decide) rfl (Nat.le_of_ble_eq_true rfl) (by decide) (by first | decide | omega) ⟨Nat.le_refl _, Nat.le_refl _⟩ (X8_isPayment_ct hI hF (fun hg1 _ => ?_) (fun hg1 _ => ?_))
  · try simp only [zup_ap, zup_row, ne_eq, not_false_eq_true, zres, Int.toNat_natCast, reduceIte, Nat.reduceEqDiff, Nat.reduceAdd, and_self, and_true, true_and, and_false, false_and]
    refine z_if_ne (t := 12) dX8_pay_7 (by rfl) (fun hx => absurd hx (by decide)) (fun _ => ?_)
    refine z_iconst dX8_pay_10 (by decide) ?_
    refine z_iret dX8_pay_11 rfl (Nat.le_refl _) (Nat.le_refl _) (zext_rf _) (fun hrr => ?_)
    have hw9 := hQ _ hF
    unfold zvPay at hw9
    rw [if_neg (by omega)] at hw9
    exact hw9
  · try simp only [zup_ap, zup_row, ne_eq, not_false_eq_true, zres, Int.toNat_natCast, reduceIte, Nat.reduceEqDiff, Nat.reduceAdd, and_self, and_true, true_and, and_false, false_and]
    refine z_if_ne (t := 12) dX8_pay_7 (by rfl) (fun _ => ?_) (fun hx => absurd hx (by decide))
    refine z_al0 dX8_pay_12 (by first | decide | omega | assumption) ?_
    refine z_il1 dX8_pay_13 ?_
    refine z_al0 dX8_pay_14 (by first | decide | omega | assumption) ?_
    refine z_getI zfX8_79 dX8_pay_15 (zkB hΓ rfl) rfl ?_
    rw [hF 1 11 rfl, hI.hnd.1, hhd]
    try simp only [zup_ap, zup_row, ne_eq, not_false_eq_true, zres, Int.toNat_natCast, reduceIte, Nat.reduceEqDiff, Nat.reduceAdd, and_self, and_true, true_and, and_false, false_and]
    refine z_il3 dX8_pay_18 ?_
    refine zcv3 dX8_pay_19 zkX8_152 ziX8_openPurse zsX8_openPurse (zkB hΓ rfl) (by decide) rfl (Nat.le_of_ble_eq_true rfl) (by decide) (by first | decide | omega) ⟨Nat.le_refl _, Nat.le_refl _⟩ (X8_openPurse_ct hI hF hO (by omega) (by omega) (by omega) (fun h2 hO2 hF2 hP _ => ?_))
    try simp only [zup_ap, zup_row, ne_eq, not_false_eq_true, zres, Int.toNat_natCast, reduceIte, Nat.reduceEqDiff, Nat.reduceAdd, and_self, and_true, true_and, and_false, false_and]
    refine z_al0 dX8_pay_22 (by first | decide | omega | assumption) ?_
    refine z_getR zfX8_49 dX8_pay_23 (zkB hΓ rfl) rfl (zsB hΓ rfl) (zvB hΓ (by decide)) ?_
    refine z_il2 dX8_pay_26 ?_
    refine z_il4 dX8_pay_27 ?_
    obtain ⟨s9, rfl⟩ := Int.eq_ofNat_of_zero_le (show 0 ≤ s by omega)
    refine zcv2 dX8_pay_29 zkX8_156 ziX4_rowPart zsX4_rowPart (zkB hΓ rfl) (by decide) rfl (Nat.le_of_ble_eq_true rfl) (by decide) (by first | decide | omega) ⟨Nat.le_refl _, Nat.le_refl _⟩ (X4_rowPart_ct hΓ hP (by omega) (by omega) (fun h3 hE3 _ => ?_))
    try simp only [zup_ap, zup_row, ne_eq, not_false_eq_true, zres, Int.toNat_natCast, reduceIte, Nat.reduceEqDiff, Nat.reduceAdd, and_self, and_true, true_and, and_false, false_and]
    refine z_iret dX8_pay_32 rfl (Nat.le_refl _) (Nat.le_refl _) (zext_rf _) (fun hrr => ?_)
    have hw9 := hQ _ (zfr_1 hF2 zs43 hE3)
    unfold zvPay at hw9
    rw [if_pos (by omega)] at hw9
    rw [hdn, Int.toNat_natCast] at hw9
    exact hw9
set_option maxRecDepth 4000 in
theorem X9_pay_a {l : Launch} {Γ : zC} {h : zM} {Q : Option zV → zC → zM → Prop} {b : Nat → Int} {r i j : Int} {hd s : Nat} (hΓ : zBase Γ) (hr7 : 0 ≤ r ∧ r ≤ 7) (hB : ∀ n, n ≤ 200 → h 102 n = b n) (hs : s ≤ 200) (hC : ∀ k, k ≤ 60 → ∀ t, t ≤ s → h 103 (201 * k + t) = if zgo b r hd s k t then 1 else 0) : ∀ (m : Nat) (k : Nat), 61 - k < m → 1 ≤ k → k ≤ 61 → (∀ k9 : Nat, (k9 = 61 ∧ zlf (fun k => zgo b r hd s k 0 && zco b r k) (61 - k) k = -1 ∨ 1 ≤ k9 ∧ k9 ≤ 60 ∧ zgo b r hd s k9 0 = true ∧ zlf (fun k => zgo b r hd s k 0 && zco b r k) (61 - k) k = (k9 : Int)) → zG (zFn l mX9_pay 1682 0 0 Γ Q) 0 0 Γ h 91 [some (zR 89), some (zI i), some (zI (s : Int)), some (zI r), some (zI j), some (zI (k9 : Int)), none, none, none] []) → zG (zFn l mX9_pay 1682 0 0 Γ Q) 0 0 Γ h 58 [some (zR 89), some (zI i), some (zI (s : Int)), some (zI r), some (zI j), some (zI (k : Int)), none, none, none] [] := by
  intro m
  induction m with
  | zero => intros; omega
  | succ m ih =>
    intro k hm hk1 hk2 hK
    refine z_il5 dX9_pay_58 ?_
    refine z_bipush (x := 60) dX9_pay_60 (by rfl) (by decide) ?_
    refine z_icmp_gt (t := 91) dX9_pay_62 (by rfl) (fun ht62 => ?_) (fun hf62 => ?_)
    · first
      | (rw [show 61 - k = 0 by omega] at hK
         exact hK k (Or.inl ⟨by omega, rfl⟩))
      | (rw [show 61 - k = (61 - (k + 1)) + 1 by omega, zlf, if_pos (by rw [hc9, hp9]; rfl)] at hK
         exact hK k (Or.inr ⟨by omega, by omega, hc9, rfl⟩))
    · refine z_al0 dX9_pay_65 (by first | decide | omega | assumption) ?_
      refine z_il5 dX9_pay_66 ?_
      refine z_iconst dX9_pay_68 (by decide) ?_
      refine zcv2 dX9_pay_69 zkX9_321 ziX9_can zsX9_can (zkB hΓ rfl) (by decide) rfl (Nat.le_of_ble_eq_true rfl) (by decide) (by first | decide | omega) ⟨Nat.le_refl _, Nat.le_refl _⟩ (X9_can_ct hΓ (k := k) (t := 0) (by omega) (by omega) (hC k (by omega) 0 (by omega)) (fun hc9 _ => ?_) (fun hc9 _ => ?_))
      · try simp only [zup_ap, zup_row, ne_eq, not_false_eq_true, zres, Int.toNat_natCast, reduceIte, Nat.reduceEqDiff, Nat.reduceAdd, and_self, and_true, true_and, and_false, false_and]
        refine z_if_eq (t := 85) dX9_pay_72 (by rfl) (fun _ => ?_) (fun hx => absurd hx (by decide))
        refine z_ii5 dX9_pay_85 (by omega) (Nat.le_of_ble_eq_true rfl) rfl ?_
        refine z_goto (t := 58) dX9_pay_88 (by rfl) ?_
        rw [show 61 - k = (61 - (k + 1)) + 1 by omega, zlf, if_neg (by first | (rw [hp9]; simp) | (rw [hc9]; simp))] at hK
        exact ih (k + 1) (by omega) (by omega) (by omega) hK
      · try simp only [zup_ap, zup_row, ne_eq, not_false_eq_true, zres, Int.toNat_natCast, reduceIte, Nat.reduceEqDiff, Nat.reduceAdd, and_self, and_true, true_and, and_false, false_and]
        refine z_if_eq (t := 85) dX9_pay_72 (by rfl) (fun hx => absurd hx (by decide)) (fun _ => ?_)
        refine z_al0 dX9_pay_75 (by first | decide | omega | assumption) ?_
        refine z_il5 dX9_pay_76 ?_
        refine z_il3 dX9_pay_78 ?_
        refine zcv2 dX9_pay_79 zkX9_344 ziX9_isCount zsX9_isCount (zkB hΓ rfl) (by decide) rfl (Nat.le_of_ble_eq_true rfl) (by decide) (by first | decide | omega) ⟨Nat.le_refl _, Nat.le_refl _⟩ (X9_isCount_ct hΓ hr7 hB (n := k) (by omega) (fun hp9 _ => ?_) (fun hp9 _ => ?_))
        · try simp only [zup_ap, zup_row, ne_eq, not_false_eq_true, zres, Int.toNat_natCast, reduceIte, Nat.reduceEqDiff, Nat.reduceAdd, and_self, and_true, true_and, and_false, false_and]
          refine z_if_ne (t := 91) dX9_pay_82 (by rfl) (fun hx => absurd hx (by decide)) (fun _ => ?_)
          refine z_ii5 dX9_pay_85 (by omega) (Nat.le_of_ble_eq_true rfl) rfl ?_
          refine z_goto (t := 58) dX9_pay_88 (by rfl) ?_
          rw [show 61 - k = (61 - (k + 1)) + 1 by omega, zlf, if_neg (by first | (rw [hp9]; simp) | (rw [hc9]; simp))] at hK
          exact ih (k + 1) (by omega) (by omega) (by omega) hK
        · try simp only [zup_ap, zup_row, ne_eq, not_false_eq_true, zres, Int.toNat_natCast, reduceIte, Nat.reduceEqDiff, Nat.reduceAdd, and_self, and_true, true_and, and_false, false_and]
          refine z_if_ne (t := 91) dX9_pay_82 (by rfl) (fun _ => ?_) (fun hx => absurd hx (by decide))
          first
          | (rw [show 61 - k = 0 by omega] at hK
             exact hK k (Or.inl ⟨by omega, rfl⟩))
          | (rw [show 61 - k = (61 - (k + 1)) + 1 by omega, zlf, if_pos (by rw [hc9, hp9]; rfl)] at hK
             exact hK k (Or.inr ⟨by omega, by omega, hc9, rfl⟩))
set_option maxRecDepth 4000 in
theorem X9_pay_c {l : Launch} {Γ : zC} {h : zM} {Q : Option zV → zC → zM → Prop} {b : Nat → Int} {r i j : Int} {hd s P k t g : Nat} (hΓ : zBase Γ) (hr7 : 0 ≤ r ∧ r ≤ 7) (hB : ∀ n, n ≤ 200 → h 102 n = b n) (hs : s ≤ 200) (hC : ∀ k, k ≤ 60 → ∀ t, t ≤ s → h 103 (201 * k + t) = if zgo b r hd s k t then 1 else 0) (hP : k < P ∧ P ≤ 60) (hg : 1 ≤ g) (hK : zG (zFn l mX9_pay 1682 0 0 Γ Q) 0 0 Γ h 195 [some (zR 89), some (zI i), some (zI (s : Int)), some (zI r), some (zI j), some (zI (P : Int)), some (zI (t : Int)), some (zI (g : Int)), some (zI (k : Int))] []) : ∀ (m : Nat) (p : Nat), p < m → t + p ≤ s → zgr (zgf b r hd s t (P - k - 1)) p = g → zG (zFn l mX9_pay 1682 0 0 Γ Q) 0 0 Γ h 147 [some (zR 89), some (zI i), some (zI (s : Int)), some (zI r), some (zI j), some (zI (P : Int)), some (zI (t : Int)), some (zI (p : Int)), some (zI (k : Int))] [] := by
  intro m
  induction m with
  | zero => intros; omega
  | succ m ih =>
    intro p hm hp hz
    have hp1 : 1 ≤ p := by
      cases p with
      | zero => change 0 = g at hz; omega
      | succ p => omega
    refine z_al0 dX9_pay_147 (by first | decide | omega | assumption) ?_
    refine z_il5 dX9_pay_148 ?_
    refine z_il8 dX9_pay_150 ?_
    refine z_isub dX9_pay_152 (by omega) ?_
    refine z_iconst dX9_pay_153 (by decide) ?_
    refine z_isub dX9_pay_154 (by omega) ?_
    refine z_il6 dX9_pay_155 ?_
    refine z_il7 dX9_pay_157 ?_
    refine z_iadd dX9_pay_159 (by omega) ?_
    rw [show (P : Int) - (k : Int) - 1 = ((P - k - 1 : Nat) : Int) by omega, show (t : Int) + (p : Int) = ((t + p : Nat) : Int) by omega]
    refine zcv2 dX9_pay_160 zkX9_321 ziX9_can zsX9_can (zkB hΓ rfl) (by decide) rfl (Nat.le_of_ble_eq_true rfl) (by decide) (by first | decide | omega) ⟨Nat.le_refl _, Nat.le_refl _⟩ (X9_can_ct hΓ (k := P - k - 1) (t := t + p) (by omega) (by omega) (hC (P - k - 1) (by omega) (t + p) (by omega)) (fun hc9 _ => ?_) (fun hc9 _ => ?_))
    · try simp only [zup_ap, zup_row, ne_eq, not_false_eq_true, zres, Int.toNat_natCast, reduceIte, Nat.reduceEqDiff, Nat.reduceAdd, and_self, and_true, true_and, and_false, false_and]
      refine z_if_eq (t := 189) dX9_pay_163 (by rfl) (fun _ => ?_) (fun hx => absurd hx (by decide))
      refine z_ii7 dX9_pay_189 (by omega) (Nat.le_of_ble_eq_true rfl) rfl ?_
      refine z_goto (t := 147) dX9_pay_192 (by rfl) ?_
      have e8 : p = (p - 1) + 1 := by omega
      rw [e8, zgr, ← e8, if_neg (by unfold zgf; first | (rw [hp9]; simp; done) | (rw [ht9]; simp; done) | (rw [hc9]; simp; done))] at hz
      have ih9 := ih (p - 1) (by omega) (by omega) hz
      rw [show ((p - 1 : Nat) : Int) = (p : Int) + -1 by omega] at ih9
      exact ih9
    · try simp only [zup_ap, zup_row, ne_eq, not_false_eq_true, zres, Int.toNat_natCast, reduceIte, Nat.reduceEqDiff, Nat.reduceAdd, and_self, and_true, true_and, and_false, false_and]
      refine z_if_eq (t := 189) dX9_pay_163 (by rfl) (fun hx => absurd hx (by decide)) (fun _ => ?_)
      refine z_al0 dX9_pay_166 (by first | decide | omega | assumption) ?_
      refine z_il7 dX9_pay_167 ?_
      refine z_il3 dX9_pay_169 ?_
      refine zcv2 dX9_pay_170 zkX9_324 ziX9_isPart zsX9_isPart (zkB hΓ rfl) (by decide) rfl (Nat.le_of_ble_eq_true rfl) (by decide) (by first | decide | omega) ⟨Nat.le_refl _, Nat.le_refl _⟩ (X9_isPart_ct hΓ hr7 hB (n := p) (by omega) (fun hp9 _ => ?_) (fun hp9 _ => ?_))
      · try simp only [zup_ap, zup_row, ne_eq, not_false_eq_true, zres, Int.toNat_natCast, reduceIte, Nat.reduceEqDiff, Nat.reduceAdd, and_self, and_true, true_and, and_false, false_and]
        refine z_if_eq (t := 189) dX9_pay_173 (by rfl) (fun _ => ?_) (fun hx => absurd hx (by decide))
        refine z_ii7 dX9_pay_189 (by omega) (Nat.le_of_ble_eq_true rfl) rfl ?_
        refine z_goto (t := 147) dX9_pay_192 (by rfl) ?_
        have e8 : p = (p - 1) + 1 := by omega
        rw [e8, zgr, ← e8, if_neg (by unfold zgf; first | (rw [hp9]; simp; done) | (rw [ht9]; simp; done) | (rw [hc9]; simp; done))] at hz
        have ih9 := ih (p - 1) (by omega) (by omega) hz
        rw [show ((p - 1 : Nat) : Int) = (p : Int) + -1 by omega] at ih9
        exact ih9
      · try simp only [zup_ap, zup_row, ne_eq, not_false_eq_true, zres, Int.toNat_natCast, reduceIte, Nat.reduceEqDiff, Nat.reduceAdd, and_self, and_true, true_and, and_false, false_and]
        refine z_if_eq (t := 189) dX9_pay_173 (by rfl) (fun hx => absurd hx (by decide)) (fun _ => ?_)
        refine z_al0 dX9_pay_176 (by first | decide | omega | assumption) ?_
        refine z_il6 dX9_pay_177 ?_
        refine z_il7 dX9_pay_179 ?_
        refine z_iadd dX9_pay_181 (by omega) ?_
        refine z_il3 dX9_pay_182 ?_
        rw [show (t : Int) + (p : Int) = ((t + p : Nat) : Int) by omega]
        refine zcv2 dX9_pay_183 zkX9_327 ziX9_isTotal zsX9_isTotal (zkB hΓ rfl) (by decide) rfl (Nat.le_of_ble_eq_true rfl) (by decide) (by first | decide | omega) ⟨Nat.le_refl _, Nat.le_refl _⟩ (X9_isTotal_ct hΓ hr7 hB (n := t + p) (by omega) (fun ht9 _ => ?_) (fun ht9 _ => ?_))
        · try simp only [zup_ap, zup_row, ne_eq, not_false_eq_true, zres, Int.toNat_natCast, reduceIte, Nat.reduceEqDiff, Nat.reduceAdd, and_self, and_true, true_and, and_false, false_and]
          refine z_if_ne (t := 195) dX9_pay_186 (by rfl) (fun hx => absurd hx (by decide)) (fun _ => ?_)
          refine z_ii7 dX9_pay_189 (by omega) (Nat.le_of_ble_eq_true rfl) rfl ?_
          refine z_goto (t := 147) dX9_pay_192 (by rfl) ?_
          have e8 : p = (p - 1) + 1 := by omega
          rw [e8, zgr, ← e8, if_neg (by unfold zgf; first | (rw [hp9]; simp; done) | (rw [ht9]; simp; done) | (rw [hc9]; simp; done))] at hz
          have ih9 := ih (p - 1) (by omega) (by omega) hz
          rw [show ((p - 1 : Nat) : Int) = (p : Int) + -1 by omega] at ih9
          exact ih9
        · try simp only [zup_ap, zup_row, ne_eq, not_false_eq_true, zres, Int.toNat_natCast, reduceIte, Nat.reduceEqDiff, Nat.reduceAdd, and_self, and_true, true_and, and_false, false_and]
          refine z_if_ne (t := 195) dX9_pay_186 (by rfl) (fun _ => ?_) (fun hx => absurd hx (by decide))
          have e8 : p = (p - 1) + 1 := by omega
          rw [e8, zgr, ← e8, if_pos (by unfold zgf; rw [hp9, ht9, hc9]; rfl)] at hz
          subst hz
          exact hK
set_option maxRecDepth 4000 in
theorem X9_pay_b {l : Launch} {Γ : zC} {h : zM} {Q : Option zV → zC → zM → Prop} {b : Nat → Int} {r i : Int} {hd s P j9 : Nat} (hΓ : zBase Γ) (hr7 : 0 ≤ r ∧ r ≤ 7) (hB : ∀ n, n ≤ 200 → h 102 n = b n) (hs : s ≤ 200) (hC : ∀ k, k ≤ 60 → ∀ t, t ≤ s → h 103 (201 * k + t) = if zgo b r hd s k t then 1 else 0) (hP : j9 < P ∧ P ≤ 60) (hgo : zgo b r hd s P 0 = true) (hh9 : h 89 32 = (hd : Int)) (hd9 : hd ≤ 30) (hQ : Q (some (zI ((ztl b r hd s P (j9 + 1)).2 : Int))) Γ h) : ∀ (m : Nat) (k : Nat) (p9 : Int), j9 + 1 - k < m → k ≤ j9 + 1 → (k = 0 ∨ p9 = ((ztl b r hd s P k).2 : Int)) → zG (zFn l mX9_pay 1682 0 0 Γ Q) 0 0 Γ h 127 [some (zR 89), some (zI i), some (zI (s : Int)), some (zI r), some (zI (j9 : Int)), some (zI (P : Int)), some (zI ((ztl b r hd s P k).1 : Int)), some (zI p9), some (zI (k : Int))] [] := by
  intro m
  induction m with
  | zero => intros; omega
  | succ m ih =>
    intro k p9 hm hk1 hp9
    have htk0 := ztl_b b r hd s P k
    refine z_il8 dX9_pay_127 ?_
    refine z_il4 dX9_pay_129 ?_
    refine z_icmp_gt (t := 208) dX9_pay_131 (by rfl) (fun ht131 => ?_) (fun hf131 => ?_)
    · refine z_il7 dX9_pay_208 ?_
      refine z_iret dX9_pay_210 rfl (Nat.le_refl _) (Nat.le_refl _) (zext_rf _) (fun hrr => ?_)
      have ek : k = j9 + 1 := by omega
      rcases hp9 with hp9 | hp9
      · omega
      · subst ek; rw [hp9]; exact hQ
    · refine z_al0 dX9_pay_134 (by first | decide | omega | assumption) ?_
      refine z_getI zfX9_65 dX9_pay_135 (zkB hΓ rfl) rfl ?_
      rw [hh9]
      try simp only [zup_ap, zup_row, ne_eq, not_false_eq_true, zres, Int.toNat_natCast, reduceIte, Nat.reduceEqDiff, Nat.reduceAdd, and_self, and_true, true_and, and_false, false_and]
      refine z_il2 dX9_pay_138 ?_
      refine z_il6 dX9_pay_139 ?_
      refine z_isub dX9_pay_141 (by omega) ?_
      refine z_mmin dX9_pay_142 zkX9_347 ztJ9_min_7cf53 (Nat.le_of_ble_eq_true rfl) (by first | decide | omega) ⟨Nat.le_refl _, Nat.le_refl _⟩ ?_
      refine z_is7 dX9_pay_145 (Nat.le_of_ble_eq_true rfl) rfl ?_
      have htk := ztl_b b r hd s P k
      have hok := ztl_ok hgo k (by omega)
      rw [show P - k = (P - k - 1) + 1 by omega, zgo_s] at hok
      have hz1 := zgr_1 hok
      have hzb := zgr_b (zgf b r hd s (ztl b r hd s P k).1 (P - k - 1)) (min hd (s - (ztl b r hd s P k).1))
      rw [show (if (s : Int) - ((ztl b r hd s P k).1 : Int) < (hd : Int) then (s : Int) - ((ztl b r hd s P k).1 : Int) else (hd : Int)) = ((min hd (s - (ztl b r hd s P k).1) : Nat) : Int) by split <;> omega]
      refine X9_pay_c hΓ hr7 hB hs hC (by omega) hz1.1 ?_ _ _ (Nat.lt_succ_self _) (by omega) rfl
      refine z_il6 dX9_pay_195 ?_
      refine z_il7 dX9_pay_197 ?_
      refine z_iadd dX9_pay_199 (by omega) ?_
      refine z_is6 dX9_pay_200 (Nat.le_of_ble_eq_true rfl) rfl ?_
      refine z_ii8 dX9_pay_202 (by omega) (Nat.le_of_ble_eq_true rfl) rfl ?_
      refine z_goto (t := 127) dX9_pay_205 (by rfl) ?_
      exact ih (k + 1) _ (by omega) (by omega) (Or.inr rfl)
set_option maxRecDepth 4000 in
theorem X9_pay_ct {l : Launch} {Γ : zC} {h0 h : zM} {Q : Option zV → zC → zM → Prop} {i s r j : Int} (hI : zIv Γ h0) (hF : zfr zSS h0 h) (hQ : ∀ h9, zfr zSS h0 h9 → Q (some (zI (zvPay h0 i s r j))) Γ h9) : zCT l mX9_pay 1682 0 0 Γ [zR 89, zI i, zI s, zI r, zI j] h Q := by
  have hΓ := hI.base
  have hx2 := hI.isl
  have hx3 := hI.hnd
  obtain ⟨hd, hhd⟩ := Int.eq_ofNat_of_zero_le (show 0 ≤ h0 89 32 by omega)
  have hdn : (h0 89 32).toNat = hd := by omega
  have hnw := hI.now
  refine zCT_of (by decide) (Nat.le_of_ble_eq_true rfl) (ls := [some (zR 89), some (zI i), some (zI s), some (zI r), some (zI j), none, none, none, none]) rfl ?_
  refine z_al0 dX9_pay_0 (by first | decide | omega | assumption) ?_
  refine z_iconst dX9_pay_1 (by decide) ?_
  refine z_putI zfX9_128 dX9_pay_2 (zkB hΓ rfl) rfl rfl ?_
  replace hF : zfr zSS h0 (zup h 89 0 0) := zfr_up hF rfl
  generalize zup h 89 0 0 = h at hF ⊢
  refine z_al0 dX9_pay_5 (by first | decide | omega | assumption) ?_
  refine z_il1 dX9_pay_6 ?_
  refine zcv1 dX9_pay_7 zkX9_299 ziX9_isIsle zsX9_isIsle (zkB hΓ rfl) (by decide) rfl (Nat.le_of_ble_eq_true rfl) (by decide) (by first | decide | omega) ⟨Nat.le_refl _, Nat.le_refl _⟩ (X9_isIsle_ct hI hF (fun hg1 _ => ?_) (fun hg1 _ => ?_))
  · try simp only [zup_ap, zup_row, ne_eq, not_false_eq_true, zres, Int.toNat_natCast, reduceIte, Nat.reduceEqDiff, Nat.reduceAdd, and_self, and_true, true_and, and_false, false_and]
    refine z_if_eq (t := 38) dX9_pay_10 (by rfl) (fun _ => ?_) (fun hx => absurd hx (by decide))
    refine z_iconst dX9_pay_38 (by decide) ?_
    refine z_iret dX9_pay_39 rfl (Nat.le_refl _) (Nat.le_refl _) (zext_rf _) (fun hrr => ?_)
    first
    | (have hw9 := hQ _ hF
       unfold zvPay at hw9
       rw [if_neg (by omega)] at hw9
       exact hw9)
    | (have hw9 := hQ _ hF
       unfold zvPay at hw9
       rw [if_pos (by omega)] at hw9
       unfold zrp at hw9
       rw [if_neg (by omega), if_pos (by omega)] at hw9
       exact hw9)
  · try simp only [zup_ap, zup_row, ne_eq, not_false_eq_true, zres, Int.toNat_natCast, reduceIte, Nat.reduceEqDiff, Nat.reduceAdd, and_self, and_true, true_and, and_false, false_and]
    refine z_if_eq (t := 38) dX9_pay_10 (by rfl) (fun hx => absurd hx (by decide)) (fun _ => ?_)
    refine z_il2 dX9_pay_13 ?_
    refine z_i2l dX9_pay_14 ?_
    refine z_lconst (x := 1) dX9_pay_15 (by rfl) (by decide) ?_
    refine z_ldc2 (x := 200) dX9_pay_16 zqX9_332 (by decide) ?_
    refine zcs3 dX9_pay_19 zkX9_261 ztX9_isIn (Nat.le_of_ble_eq_true rfl) (by decide) (by first | decide | omega) ⟨Nat.le_refl _, Nat.le_refl _⟩ (X9_isIn_ct (fun hg2 _ => ?_) (fun hg2 _ => ?_))
    · try simp only [zup_ap, zup_row, ne_eq, not_false_eq_true, zres, Int.toNat_natCast, reduceIte, Nat.reduceEqDiff, Nat.reduceAdd, and_self, and_true, true_and, and_false, false_and]
      refine z_if_eq (t := 38) dX9_pay_22 (by rfl) (fun _ => ?_) (fun hx => absurd hx (by decide))
      refine z_iconst dX9_pay_38 (by decide) ?_
      refine z_iret dX9_pay_39 rfl (Nat.le_refl _) (Nat.le_refl _) (zext_rf _) (fun hrr => ?_)
      first
      | (have hw9 := hQ _ hF
         unfold zvPay at hw9
         rw [if_neg (by omega)] at hw9
         exact hw9)
      | (have hw9 := hQ _ hF
         unfold zvPay at hw9
         rw [if_pos (by omega)] at hw9
         unfold zrp at hw9
         rw [if_neg (by omega), if_pos (by omega)] at hw9
         exact hw9)
    · try simp only [zup_ap, zup_row, ne_eq, not_false_eq_true, zres, Int.toNat_natCast, reduceIte, Nat.reduceEqDiff, Nat.reduceAdd, and_self, and_true, true_and, and_false, false_and]
      refine z_if_eq (t := 38) dX9_pay_22 (by rfl) (fun hx => absurd hx (by decide)) (fun _ => ?_)
      refine z_il3 dX9_pay_25 ?_
      refine zcs1 dX9_pay_26 zkX9_334 ztX9_areRules (Nat.le_of_ble_eq_true rfl) (by decide) (by first | decide | omega) ⟨Nat.le_refl _, Nat.le_refl _⟩ (X9_areRules_ct (fun hg3 _ => ?_) (fun hg3 _ => ?_))
      · try simp only [zup_ap, zup_row, ne_eq, not_false_eq_true, zres, Int.toNat_natCast, reduceIte, Nat.reduceEqDiff, Nat.reduceAdd, and_self, and_true, true_and, and_false, false_and]
        refine z_if_eq (t := 38) dX9_pay_29 (by rfl) (fun _ => ?_) (fun hx => absurd hx (by decide))
        refine z_iconst dX9_pay_38 (by decide) ?_
        refine z_iret dX9_pay_39 rfl (Nat.le_refl _) (Nat.le_refl _) (zext_rf _) (fun hrr => ?_)
        first
        | (have hw9 := hQ _ hF
           unfold zvPay at hw9
           rw [if_neg (by omega)] at hw9
           exact hw9)
        | (have hw9 := hQ _ hF
           unfold zvPay at hw9
           rw [if_pos (by omega)] at hw9
           unfold zrp at hw9
           rw [if_neg (by omega), if_pos (by omega)] at hw9
           exact hw9)
      · try simp only [zup_ap, zup_row, ne_eq, not_false_eq_true, zres, Int.toNat_natCast, reduceIte, Nat.reduceEqDiff, Nat.reduceAdd, and_self, and_true, true_and, and_false, false_and]
        refine z_if_eq (t := 38) dX9_pay_29 (by rfl) (fun hx => absurd hx (by decide)) (fun _ => ?_)
        refine z_il4 dX9_pay_32 ?_
        refine z_iconst dX9_pay_34 (by decide) ?_
        refine z_icmp_ge (t := 40) dX9_pay_35 (by rfl) (fun ht35 => ?_) (fun hf35 => ?_)
        · refine z_al0 dX9_pay_40 (by first | decide | omega | assumption) ?_
          refine z_il1 dX9_pay_41 ?_
          refine z_al0 dX9_pay_42 (by first | decide | omega | assumption) ?_
          refine z_getI zfX9_288 dX9_pay_43 (zkB hΓ rfl) rfl ?_
          rw [hF 89 29 rfl]
          try simp only [zup_ap, zup_row, ne_eq, not_false_eq_true, zres, Int.toNat_natCast, reduceIte, Nat.reduceEqDiff, Nat.reduceAdd, and_self, and_true, true_and, and_false, false_and]
          refine zcv2 dX9_pay_46 zkX9_337 ziX9_layBad zsX9_layBad (zkB hΓ rfl) (by decide) rfl (Nat.le_of_ble_eq_true rfl) (by decide) (by first | decide | omega) ⟨Nat.le_refl _, Nat.le_refl _⟩ (X9_layBad_ct hI hF hg1 (fun h2 hA2 hB2 _ => ?_))
          try simp only [zup_ap, zup_row, ne_eq, not_false_eq_true, zres, Int.toNat_natCast, reduceIte, Nat.reduceEqDiff, Nat.reduceAdd, and_self, and_true, true_and, and_false, false_and]
          replace hF := zfr_B hF zs102 hA2
          obtain ⟨s9, rfl⟩ := Int.eq_ofNat_of_zero_le (show 0 ≤ s by omega)
          refine z_al0 dX9_pay_49 (by first | decide | omega | assumption) ?_
          refine z_il2 dX9_pay_50 ?_
          refine z_il3 dX9_pay_51 ?_
          refine zcv2 dX9_pay_52 zkX9_341 ziX9_layGoes zsX9_layGoes (zkB hΓ rfl) (by decide) rfl (Nat.le_of_ble_eq_true rfl) (by decide) (by first | decide | omega) ⟨Nat.le_refl _, Nat.le_refl _⟩ (X9_layGoes_ct hI hF hhd hg3 hB2 (by omega) (fun h3 hE3 hC3 _ => ?_))
          try simp only [zup_ap, zup_row, ne_eq, not_false_eq_true, zres, Int.toNat_natCast, reduceIte, Nat.reduceEqDiff, Nat.reduceAdd, and_self, and_true, true_and, and_false, false_and]
          have hF9 := zfr_1 hF zs103 hE3
          have hB3 : ∀ n, n ≤ 200 → h3 102 n = zbF h0 i (h0 89 29) n := fun n hn => by rw [hE3 102 (by decide)]; exact hB2 n hn
          have hw9 := hQ _ hF9
          unfold zvPay at hw9
          rw [if_pos (by omega)] at hw9
          unfold zrp at hw9
          rw [hdn, Int.toNat_natCast, zpar_r (zbF_0 _ _ _ _)] at hw9
          clear hQ hF
          refine z_iconst dX9_pay_55 (by decide) ?_
          refine z_is5 dX9_pay_56 (Nat.le_of_ble_eq_true rfl) rfl ?_
          refine X9_pay_a hΓ hg3 hB3 (by omega) hC3 _ 1 (Nat.lt_succ_self _) (by omega) (by omega) (fun k9 hk9 => ?_)
          rw [show 61 - 1 = 60 from rfl] at hk9
          refine z_il5 dX9_pay_91 ?_
          refine z_bipush (x := 60) dX9_pay_93 (by rfl) (by decide) ?_
          refine z_icmp_le (t := 100) dX9_pay_95 (by rfl) (fun ht95 => ?_) (fun hf95 => ?_)
          · refine z_il4 dX9_pay_100 ?_
            refine z_iconst dX9_pay_102 (by decide) ?_
            refine z_icmp_ne (t := 109) dX9_pay_103 (by rfl) (fun ht103 => ?_) (fun hf103 => ?_)
            · refine z_il4 dX9_pay_109 ?_
              refine z_il5 dX9_pay_111 ?_
              refine z_icmp_lt (t := 118) dX9_pay_113 (by rfl) (fun ht113 => ?_) (fun hf113 => ?_)
              · refine z_iconst dX9_pay_118 (by decide) ?_
                refine z_is6 dX9_pay_119 (Nat.le_of_ble_eq_true rfl) rfl ?_
                refine z_iconst dX9_pay_121 (by decide) ?_
                refine z_is7 dX9_pay_122 (Nat.le_of_ble_eq_true rfl) rfl ?_
                refine z_iconst dX9_pay_124 (by decide) ?_
                refine z_is8 dX9_pay_125 (Nat.le_of_ble_eq_true rfl) rfl ?_
                obtain ⟨j9, rfl⟩ := Int.eq_ofNat_of_zero_le (show 0 ≤ j by omega)
                rcases hk9 with hk9 | hk9
                · omega
                rw [hk9.2.2.2, if_neg (by omega), if_neg (by omega), Int.toNat_natCast, Int.toNat_natCast] at hw9
                exact X9_pay_b hΓ hg3 hB3 (by omega) hC3 (by omega) hk9.2.2.1 (by rw [hF9 89 32 rfl, hhd]) (by omega) hw9 _ 0 _ (Nat.lt_succ_self _) (Nat.zero_le _) (Or.inl rfl)
              · refine z_iconst dX9_pay_116 (by decide) ?_
                refine z_iret dX9_pay_117 rfl (Nat.le_refl _) (Nat.le_refl _) (zext_rf _) (fun hrr => ?_)
                rcases hk9 with hk9 | hk9
                · omega
                · rw [hk9.2.2.2, if_neg (by omega), if_pos (by omega)] at hw9; exact hw9
            · refine z_il5 dX9_pay_106 ?_
              refine z_iret dX9_pay_108 rfl (Nat.le_refl _) (Nat.le_refl _) (zext_rf _) (fun hrr => ?_)
              rcases hk9 with hk9 | hk9
              · omega
              · rw [hk9.2.2.2, if_pos (by omega)] at hw9; exact hw9
          · refine z_iconst dX9_pay_98 (by decide) ?_
            refine z_iret dX9_pay_99 rfl (Nat.le_refl _) (Nat.le_refl _) (zext_rf _) (fun hrr => ?_)
            rcases hk9 with hk9 | hk9
            · rw [hk9.2] at hw9
              by_cases ej : j = -1
              · rw [if_pos ej] at hw9; exact hw9
              · rw [if_neg ej, if_pos (by omega)] at hw9; exact hw9
            · omega
        · refine z_iconst dX9_pay_38 (by decide) ?_
          refine z_iret dX9_pay_39 rfl (Nat.le_refl _) (Nat.le_refl _) (zext_rf _) (fun hrr => ?_)
          first
          | (have hw9 := hQ _ hF
             unfold zvPay at hw9
             rw [if_neg (by omega)] at hw9
             exact hw9)
          | (have hw9 := hQ _ hF
             unfold zvPay at hw9
             rw [if_pos (by omega)] at hw9
             unfold zrp at hw9
             rw [if_neg (by omega), if_pos (by omega)] at hw9
             exact hw9)
