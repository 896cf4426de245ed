/-! taboo: the reference -/
set_option maxRecDepth 4000 in
theorem X9_taboo_ct {l : Launch} {Γ : zC} {h0 h : zM} {Q : Option zV → zC → zM → Prop} {a b : Int} (hI : zIv Γ h0) (hF : zfr zSS h0 h) (hO : h0 89 30 = -1) (hQ1 : ((0 ≤ a ∧ a < h0 89 22) ∧ 0 ≤ b ∧ b ≤ 99) → ∀ h9, zfr zSS h0 h9 → h9 89 0 = 0 → Q (some (zI (zTb h0 a b))) Γ h9) (hQ0 : ¬ ((0 ≤ a ∧ a < h0 89 22) ∧ 0 ≤ b ∧ b ≤ 99) → ∀ h9, zfr zSS h0 h9 → h9 89 0 = 1 → Q (some (zI 0)) Γ h9) : zCT l mX9_taboo 3 0 0 Γ [zR 89, zI a, zI b] h Q := by
  have hΓ := hI.base
  refine zCT_of (by decide) (Nat.le_of_ble_eq_true rfl) (ls := [some (zR 89), some (zI a), some (zI b)]) rfl ?_
  refine z_al0 dX9_taboo_0 (by first | decide | omega | assumption) ?_
  refine z_al0 dX9_taboo_1 (by first | decide | omega | assumption) ?_
  refine z_il1 dX9_taboo_2 ?_
  refine zcv1 dX9_taboo_3 zkX9_299 ziX9_isIsle zsX9_isIsle (zkB hΓ rfl) (by decide) rfl (Nat.le_of_ble_eq_true rfl) (by decide) (by first | decide | omega) ⟨Nat.le_refl _, Nat.le_refl _⟩ (X9_isIsle_ct hI hF (fun hg1 _ => ?_) (fun hg1 _ => ?_))
  · try simp only [zup_ap, zup_row, ne_eq, not_false_eq_true, zres, Int.toNat_natCast, reduceIte, Nat.reduceEqDiff, Nat.reduceAdd, and_self, and_true, true_and, and_false, false_and]
    refine z_if_eq (t := 20) dX9_taboo_6 (by rfl) (fun _ => ?_) (fun hx => absurd hx (by decide))
    refine z_iconst dX9_taboo_20 (by decide) ?_
    refine z_putI zfX9_128 dX9_taboo_21 (zkB hΓ rfl) rfl rfl ?_
    first
    | (show zG _ _ _ _ (zup _ 89 0 0) _ _ _
       have hE9 : zup h 89 0 0 89 0 = 0 := zup_rj _ _ _ _
       have hG9 : zfr zSS h0 (zup h 89 0 0) := zfr_up hF rfl
       generalize zup h 89 0 0 = h at hE9 hG9 ⊢)
    | (show zG _ _ _ _ (zup _ 89 0 1) _ _ _
       have hE9 : zup h 89 0 1 89 0 = 1 := zup_rj _ _ _ _
       have hG9 : zfr zSS h0 (zup h 89 0 1) := zfr_up hF rfl
       generalize zup h 89 0 1 = h at hE9 hG9 ⊢)
    refine z_al0 dX9_taboo_24 (by first | decide | omega | assumption) ?_
    refine z_getI zfX9_128 dX9_taboo_25 (zkB hΓ rfl) rfl ?_
    rw [hE9]
    try simp only [zup_ap, zup_row, ne_eq, not_false_eq_true, zres, Int.toNat_natCast, reduceIte, Nat.reduceEqDiff, Nat.reduceAdd, and_self, and_true, true_and, and_false, false_and]
    refine z_if_le (t := 35) dX9_taboo_28 (by rfl) (fun ht28 => ?_) (fun hf28 => ?_)
    · first
      | (exfalso; omega)
      | (refine z_al0 dX9_taboo_35 (by first | decide | omega | assumption) ?_
         refine z_il1 dX9_taboo_36 ?_
         refine z_il2 dX9_taboo_37 ?_
         refine zcv2 dX9_taboo_38 zkX9_305 ziX9_tabooOn zsX9_tabooOn (zkB hΓ rfl) (by decide) rfl (Nat.le_of_ble_eq_true rfl) (by decide) (by first | decide | omega) ⟨Nat.le_refl _, Nat.le_refl _⟩ (X9_tabooOn_ct hI hG9 hg1 (fun _ => ?_))
         try simp only [zup_ap, zup_row, ne_eq, not_false_eq_true, zres, Int.toNat_natCast, reduceIte, Nat.reduceEqDiff, Nat.reduceAdd, and_self, and_true, true_and, and_false, false_and]
         refine z_iret dX9_taboo_41 rfl (Nat.le_refl _) (Nat.le_refl _) (zext_rf _) (fun hrr => ?_)
         try rw [show zTbR h0 a b = zTb h0 a b by unfold zTbR; rw [if_neg (by omega)]]
         first
         | exact hQ1 ⟨hg1, hg2⟩ _ hG9 hE9
         | exact hQ0 (fun x => hg2 x.2) _ hG9 hE9
         | exact hQ0 (fun x => hg1 x.1) _ hG9 hE9)
    · first
      | (exfalso; omega)
      | (refine z_iconst dX9_taboo_31 (by decide) ?_
         refine z_goto (t := 41) dX9_taboo_32 (by rfl) ?_
         refine z_iret dX9_taboo_41 rfl (Nat.le_refl _) (Nat.le_refl _) (zext_rf _) (fun hrr => ?_)
         try rw [show zTbR h0 a b = zTb h0 a b by unfold zTbR; rw [if_neg (by omega)]]
         first
         | exact hQ1 ⟨hg1, hg2⟩ _ hG9 hE9
         | exact hQ0 (fun x => hg2 x.2) _ hG9 hE9
         | exact hQ0 (fun x => hg1 x.1) _ hG9 hE9)
  · try simp only [zup_ap, zup_row, ne_eq, not_false_eq_true, zres, Int.toNat_natCast, reduceIte, Nat.reduceEqDiff, Nat.reduceAdd, and_self, and_true, true_and, and_false, false_and]
    refine z_if_eq (t := 20) dX9_taboo_6 (by rfl) (fun hx => absurd hx (by decide)) (fun _ => ?_)
    refine z_il2 dX9_taboo_9 ?_
    refine zcs1 dX9_taboo_10 zkX9_302 ztX9_isDay (Nat.le_of_ble_eq_true rfl) (by decide) (by first | decide | omega) ⟨Nat.le_refl _, Nat.le_refl _⟩ (X9_isDay_ct (fun hg2 _ => ?_) (fun hg2 _ => ?_))
    · try simp only [zup_ap, zup_row, ne_eq, not_false_eq_true, zres, Int.toNat_natCast, reduceIte, Nat.reduceEqDiff, Nat.reduceAdd, and_self, and_true, true_and, and_false, false_and]
      refine z_if_eq (t := 20) dX9_taboo_13 (by rfl) (fun _ => ?_) (fun hx => absurd hx (by decide))
      refine z_iconst dX9_taboo_20 (by decide) ?_
      refine z_putI zfX9_128 dX9_taboo_21 (zkB hΓ rfl) rfl rfl ?_
      first
      | (show zG _ _ _ _ (zup _ 89 0 0) _ _ _
         have hE9 : zup h 89 0 0 89 0 = 0 := zup_rj _ _ _ _
         have hG9 : zfr zSS h0 (zup h 89 0 0) := zfr_up hF rfl
         generalize zup h 89 0 0 = h at hE9 hG9 ⊢)
      | (show zG _ _ _ _ (zup _ 89 0 1) _ _ _
         have hE9 : zup h 89 0 1 89 0 = 1 := zup_rj _ _ _ _
         have hG9 : zfr zSS h0 (zup h 89 0 1) := zfr_up hF rfl
         generalize zup h 89 0 1 = h at hE9 hG9 ⊢)
      refine z_al0 dX9_taboo_24 (by first | decide | omega | assumption) ?_
      refine z_getI zfX9_128 dX9_taboo_25 (zkB hΓ rfl) rfl ?_
      rw [hE9]
      try simp only [zup_ap, zup_row, ne_eq, not_false_eq_true, zres, Int.toNat_natCast, reduceIte, Nat.reduceEqDiff, Nat.reduceAdd, and_self, and_true, true_and, and_false, false_and]
      refine z_if_le (t := 35) dX9_taboo_28 (by rfl) (fun ht28 => ?_) (fun hf28 => ?_)
      · first
        | (exfalso; omega)
        | (refine z_al0 dX9_taboo_35 (by first | decide | omega | assumption) ?_
           refine z_il1 dX9_taboo_36 ?_
           refine z_il2 dX9_taboo_37 ?_
           refine zcv2 dX9_taboo_38 zkX9_305 ziX9_tabooOn zsX9_tabooOn (zkB hΓ rfl) (by decide) rfl (Nat.le_of_ble_eq_true rfl) (by decide) (by first | decide | omega) ⟨Nat.le_refl _, Nat.le_refl _⟩ (X9_tabooOn_ct hI hG9 hg1 (fun _ => ?_))
           try simp only [zup_ap, zup_row, ne_eq, not_false_eq_true, zres, Int.toNat_natCast, reduceIte, Nat.reduceEqDiff, Nat.reduceAdd, and_self, and_true, true_and, and_false, false_and]
           refine z_iret dX9_taboo_41 rfl (Nat.le_refl _) (Nat.le_refl _) (zext_rf _) (fun hrr => ?_)
           try rw [show zTbR h0 a b = zTb h0 a b by unfold zTbR; rw [if_neg (by omega)]]
           first
           | exact hQ1 ⟨hg1, hg2⟩ _ hG9 hE9
           | exact hQ0 (fun x => hg2 x.2) _ hG9 hE9
           | exact hQ0 (fun x => hg1 x.1) _ hG9 hE9)
      · first
        | (exfalso; omega)
        | (refine z_iconst dX9_taboo_31 (by decide) ?_
           refine z_goto (t := 41) dX9_taboo_32 (by rfl) ?_
           refine z_iret dX9_taboo_41 rfl (Nat.le_refl _) (Nat.le_refl _) (zext_rf _) (fun hrr => ?_)
           try rw [show zTbR h0 a b = zTb h0 a b by unfold zTbR; rw [if_neg (by omega)]]
           first
           | exact hQ1 ⟨hg1, hg2⟩ _ hG9 hE9
           | exact hQ0 (fun x => hg2 x.2) _ hG9 hE9
           | exact hQ0 (fun x => hg1 x.1) _ hG9 hE9)
    · try simp only [zup_ap, zup_row, ne_eq, not_false_eq_true, zres, Int.toNat_natCast, reduceIte, Nat.reduceEqDiff, Nat.reduceAdd, and_self, and_true, true_and, and_false, false_and]
      refine z_if_eq (t := 20) dX9_taboo_13 (by rfl) (fun hx => absurd hx (by decide)) (fun _ => ?_)
      refine z_iconst dX9_taboo_16 (by decide) ?_
      refine z_goto (t := 21) dX9_taboo_17 (by rfl) ?_
      refine z_putI zfX9_128 dX9_taboo_21 (zkB hΓ rfl) rfl rfl ?_
      first
      | (show zG _ _ _ _ (zup _ 89 0 0) _ _ _
         have hE9 : zup h 89 0 0 89 0 = 0 := zup_rj _ _ _ _
         have hG9 : zfr zSS h0 (zup h 89 0 0) := zfr_up hF rfl
         generalize zup h 89 0 0 = h at hE9 hG9 ⊢)
      | (show zG _ _ _ _ (zup _ 89 0 1) _ _ _
         have hE9 : zup h 89 0 1 89 0 = 1 := zup_rj _ _ _ _
         have hG9 : zfr zSS h0 (zup h 89 0 1) := zfr_up hF rfl
         generalize zup h 89 0 1 = h at hE9 hG9 ⊢)
      refine z_al0 dX9_taboo_24 (by first | decide | omega | assumption) ?_
      refine z_getI zfX9_128 dX9_taboo_25 (zkB hΓ rfl) rfl ?_
      rw [hE9]
      try simp only [zup_ap, zup_row, ne_eq, not_false_eq_true, zres, Int.toNat_natCast, reduceIte, Nat.reduceEqDiff, Nat.reduceAdd, and_self, and_true, true_and, and_false, false_and]
      refine z_if_le (t := 35) dX9_taboo_28 (by rfl) (fun ht28 => ?_) (fun hf28 => ?_)
      · first
        | (exfalso; omega)
        | (refine z_al0 dX9_taboo_35 (by first | decide | omega | assumption) ?_
           refine z_il1 dX9_taboo_36 ?_
           refine z_il2 dX9_taboo_37 ?_
           refine zcv2 dX9_taboo_38 zkX9_305 ziX9_tabooOn zsX9_tabooOn (zkB hΓ rfl) (by decide) rfl (Nat.le_of_ble_eq_true rfl) (by decide) (by first | decide | omega) ⟨Nat.le_refl _, Nat.le_refl _⟩ (X9_tabooOn_ct hI hG9 hg1 (fun _ => ?_))
           try simp only [zup_ap, zup_row, ne_eq, not_false_eq_true, zres, Int.toNat_natCast, reduceIte, Nat.reduceEqDiff, Nat.reduceAdd, and_self, and_true, true_and, and_false, false_and]
           refine z_iret dX9_taboo_41 rfl (Nat.le_refl _) (Nat.le_refl _) (zext_rf _) (fun hrr => ?_)
           try rw [show zTbR h0 a b = zTb h0 a b by unfold zTbR; rw [if_neg (by omega)]]
           first
           | exact hQ1 ⟨hg1, hg2⟩ _ hG9 hE9
           | exact hQ0 (fun x => hg2 x.2) _ hG9 hE9
           | exact hQ0 (fun x => hg1 x.1) _ hG9 hE9)
      · first
        | (exfalso; omega)
        | (refine z_iconst dX9_taboo_31 (by decide) ?_
           refine z_goto (t := 41) dX9_taboo_32 (by rfl) ?_
           refine z_iret dX9_taboo_41 rfl (Nat.le_refl _) (Nat.le_refl _) (zext_rf _) (fun hrr => ?_)
           try rw [show zTbR h0 a b = zTb h0 a b by unfold zTbR; rw [if_neg (by omega)]]
           first
           | exact hQ1 ⟨hg1, hg2⟩ _ hG9 hE9
           | exact hQ0 (fun x => hg2 x.2) _ hG9 hE9
           | exact hQ0 (fun x => hg1 x.1) _ hG9 hE9)
set_option maxRecDepth 4000 in
theorem X9_thrown_ct {l : Launch} {Γ : zC} {h : zM} {Q : Option zV → zC → zM → Prop} (hΓ : zBase Γ) (hQ : Q (some (zI (h 89 0))) Γ h) : zCT l mX9_thrown 0 0 0 Γ [zR 89] h Q := by
  refine zCT_of (by decide) (Nat.le_of_ble_eq_true rfl) (ls := [some (zR 89)]) rfl ?_
  refine z_al0 dX9_thrown_0 (by first | decide | omega | assumption) ?_
  refine z_getI zfX9_128 dX9_thrown_1 (zkB hΓ rfl) rfl ?_
  try simp only [zup_ap, zup_row, ne_eq, not_false_eq_true, zres, Int.toNat_natCast, reduceIte, Nat.reduceEqDiff, Nat.reduceAdd, and_self, and_true, true_and, and_false, false_and]
  refine z_iret dX9_thrown_4 rfl (Nat.le_refl _) (Nat.le_refl _) (zext_rf _) (fun hrr => ?_)
  exact hQ
