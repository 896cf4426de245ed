/-! DATES, DEBTS, AND A BIT, LIKELY; class and reference -/
theorem zFo_b {h : zM} {i n d : Int} (hO : h 89 30 = -1) (hv : 0 ≤ i) : zFo h i n d = zFb h i n d (zTb h i d) := by
  unfold zFo zTbR
  rw [if_neg (by omega)]
def zdt (b : Nat → Int) (k : Int) : Nat → Nat → Int → Int
  | 0, _, n => if k = -1 then n else -1
  | m + 1, a, n => if b a = 0 then (if n + 1 = k then (a : Int) else zdt b k m (a + 1) (n + 1)) else zdt b k m (a + 1) n
theorem zdt_f {b : Nat → Int} {k n : Int} {m a : Nat} (h : b a ≠ 0) : zdt b k (m + 1) a n = zdt b k m (a + 1) n := by rw [zdt, if_neg h]
theorem zdt_u {b : Nat → Int} {k n : Int} {m a : Nat} (h : b a = 0) (h2 : n + 1 ≠ k) : zdt b k (m + 1) a n = zdt b k m (a + 1) (n + 1) := by rw [zdt, if_pos h, if_neg h2]
theorem zdt_y {b : Nat → Int} {k n : Int} {m a : Nat} (h : b a = 0) (h2 : n + 1 = k) : zdt b k (m + 1) a n = (a : Int) := by rw [zdt, if_pos h, if_pos h2]
theorem zdt_0 {b : Nat → Int} {k n : Int} {a : Nat} : zdt b k 0 a n = if k = -1 then n else -1 := rfl
theorem zdt_far {b : Nat → Int} {k : Int} (hk : k ≠ -1) : ∀ (m a : Nat) (n : Int), n + m < k → zdt b k m a n = -1
  | 0, _, _, _ => if_neg hk
  | m + 1, a, n, h => by
    by_cases e : b a = 0
    · rw [zdt_u e (by omega)]; exact zdt_far hk m (a + 1) (n + 1) (by omega)
    · rw [zdt_f e]; exact zdt_far hk m (a + 1) n (by omega)
def zvDate (h : zM) (i k : Int) : Int := if (0 ≤ i ∧ i < h 89 22) ∧ (k = -1 ∨ 1 ≤ k) then zdt (zbF h i (h 89 29)) k 30 1 0 else -1
set_option maxRecDepth 4000 in
theorem X8_date_l {l : Launch} {Γ : zC} {h0 : zM} {Q : Option zV → zC → zM → Prop} {i k V : Int} (hI : zIv Γ h0) (hO : h0 89 30 = -1) (hv : 0 ≤ i ∧ i < h0 89 22) (hQ : ∀ h9, zfr zSS h0 h9 → Q (some (zI V)) Γ h9) : ∀ (m : Nat) (a : Nat) (h : zM) (n : Int), 31 - a < m → 1 ≤ a → a ≤ 31 → zfr zSS h0 h → (0 ≤ n ∧ n < a) → zdt (zbF h0 i (h0 89 29)) k (31 - a) a n = V → zG (zFn l mX8_date 5 0 0 Γ Q) 0 0 Γ h 27 [some (zR 1), some (zI i), some (zI k), some (zI n), some (zI (a : Int))] [] := by
  have hΓ := hI.base
  have hx2 := hI.isl
  intro m
  induction m with
  | zero => intros; omega
  | succ m ih =>
    intro a h n hm ha1 ha2 hF hn hV
    refine z_il4 dX8_date_27 ?_
    refine z_bipush (x := 30) dX8_date_29 (by rfl) (by decide) ?_
    refine z_icmp_gt (t := 64) dX8_date_31 (by rfl) (fun ht31 => ?_) (fun hf31 => ?_)
    · refine z_il2 dX8_date_64 ?_
      refine z_iconst dX8_date_65 (by decide) ?_
      refine z_icmp_ne (t := 73) dX8_date_66 (by rfl) (fun ht66 => ?_) (fun hf66 => ?_)
      · refine z_iconst dX8_date_73 (by decide) ?_
        refine z_iret dX8_date_74 rfl (Nat.le_refl _) (Nat.le_refl _) (zext_rf _) (fun hrr => ?_)
        rw [show 31 - a = 0 by omega, zdt_0] at hV
        first | (rw [if_pos (by omega)] at hV; subst hV; exact hQ _ hF) | (rw [if_neg (by omega)] at hV; subst hV; exact hQ _ hF)
      · refine z_il3 dX8_date_69 ?_
        refine z_goto (t := 74) dX8_date_70 (by rfl) ?_
        refine z_iret dX8_date_74 rfl (Nat.le_refl _) (Nat.le_refl _) (zext_rf _) (fun hrr => ?_)
        rw [show 31 - a = 0 by omega, zdt_0] at hV
        first | (rw [if_pos (by omega)] at hV; subst hV; exact hQ _ hF) | (rw [if_neg (by omega)] at hV; subst hV; exact hQ _ hF)
    · refine z_al0 dX8_date_34 (by first | decide | omega | assumption) ?_
      refine z_getR zfX8_35 dX8_date_35 (zkB hΓ rfl) rfl (zsB hΓ rfl) (zvB hΓ (by decide)) ?_
      refine z_il1 dX8_date_38 ?_
      refine z_il4 dX8_date_39 ?_
      refine zcv2 dX8_date_41 zkX8_187 ziX7_forbidsNow zsX7_forbidsNow (zkB hΓ rfl) (by decide) rfl (Nat.le_of_ble_eq_true rfl) (by decide) (by first | decide | omega) ⟨Nat.le_refl _, Nat.le_refl _⟩ (X7_forbidsNow_ct hI hF hO hv (by omega) (fun h9 hK9 _ => ?_))
      try simp only [zup_ap, zup_row, ne_eq, not_false_eq_true, zres, Int.toNat_natCast, reduceIte, Nat.reduceEqDiff, Nat.reduceAdd, and_self, and_true, true_and, and_false, false_and]
      refine z_if_ne (t := 58) dX8_date_44 (by rfl) (fun ht44 => ?_) (fun hf44 => ?_)
      · refine z_ii4 dX8_date_58 (by omega) (Nat.le_of_ble_eq_true rfl) rfl ?_
        refine z_goto (t := 27) dX8_date_61 (by rfl) ?_
        rw [show 31 - a = (31 - (a + 1)) + 1 by omega] at hV
        first
        | (rw [zdt_f (by show zFo _ _ _ _ ≠ 0; omega)] at hV
           exact ih (a + 1) _ _ (by omega) (by omega) (by omega) (zfr_K hF hK9) (by omega) hV)
        | (rw [zdt_u (by show zFo _ _ _ _ = 0; omega) (by omega)] at hV
           exact ih (a + 1) _ _ (by omega) (by omega) (by omega) (zfr_K hF hK9) (by omega) hV)
      · refine z_ii3 dX8_date_47 (by omega) (Nat.le_of_ble_eq_true rfl) rfl ?_
        refine z_il3 dX8_date_50 ?_
        refine z_il2 dX8_date_51 ?_
        refine z_icmp_ne (t := 58) dX8_date_52 (by rfl) (fun ht52 => ?_) (fun hf52 => ?_)
        · refine z_ii4 dX8_date_58 (by omega) (Nat.le_of_ble_eq_true rfl) rfl ?_
          refine z_goto (t := 27) dX8_date_61 (by rfl) ?_
          rw [show 31 - a = (31 - (a + 1)) + 1 by omega] at hV
          first
          | (rw [zdt_f (by show zFo _ _ _ _ ≠ 0; omega)] at hV
             exact ih (a + 1) _ _ (by omega) (by omega) (by omega) (zfr_K hF hK9) (by omega) hV)
          | (rw [zdt_u (by show zFo _ _ _ _ = 0; omega) (by omega)] at hV
             exact ih (a + 1) _ _ (by omega) (by omega) (by omega) (zfr_K hF hK9) (by omega) hV)
        · refine z_il4 dX8_date_55 ?_
          refine z_iret dX8_date_57 rfl (Nat.le_refl _) (Nat.le_refl _) (zext_rf _) (fun hrr => ?_)
          rw [show 31 - a = (31 - (a + 1)) + 1 by omega] at hV
          rw [zdt_y (by show zFo _ _ _ _ = 0; omega) (by omega)] at hV
          rw [← hV] at hQ
          exact hQ _ (zfr_K hF hK9)
set_option maxRecDepth 4000 in
theorem X8_date_ct {l : Launch} {Γ : zC} {h0 h : zM} {Q : Option zV → zC → zM → Prop} {i k : Int} (hI : zIv Γ h0) (hF : zfr zSS h0 h) (hO : h0 89 30 = -1) (hQ : ∀ h9, zfr zSS h0 h9 → Q (some (zI (zvDate h0 i k))) Γ h9) : zCT l mX8_date 5 0 0 Γ [zR 1, zI i, zI k] h Q := by
  have hΓ := hI.base
  have hx2 := hI.isl
  refine zCT_of (by decide) (Nat.le_of_ble_eq_true rfl) (ls := [some (zR 1), some (zI i), some (zI k), none, none]) rfl ?_
  refine z_al0 dX8_date_0 (by first | decide | omega | assumption) ?_
  refine z_getR zfX8_35 dX8_date_1 (zkB hΓ rfl) rfl (zsB hΓ rfl) (zvB hΓ (by decide)) ?_
  refine z_il1 dX8_date_4 ?_
  refine zcv1 dX8_date_5 zkX8_114 ziX7_isIsle zsX7_isIsle (zkB hΓ rfl) (by decide) rfl (Nat.le_of_ble_eq_true rfl) (by decide) (by first | decide | omega) ⟨Nat.le_refl _, Nat.le_refl _⟩ (X7_isIsle_ct hI hF (fun hg1 _ => ?_) (fun hg1 _ => ?_))
  · try simp only [zup_ap, zup_row, ne_eq, not_false_eq_true, zres, Int.toNat_natCast, reduceIte, Nat.reduceEqDiff, Nat.reduceAdd, and_self, and_true, true_and, and_false, false_and]
    refine z_if_eq (t := 20) dX8_date_8 (by rfl) (fun _ => ?_) (fun hx => absurd hx (by decide))
    refine z_iconst dX8_date_20 (by decide) ?_
    refine z_iret dX8_date_21 rfl (Nat.le_refl _) (Nat.le_refl _) (zext_rf _) (fun hrr => ?_)
    have hw9 := hQ _ hF
    unfold zvDate at hw9
    rw [if_neg (by omega)] at hw9
    exact hw9
  · try simp only [zup_ap, zup_row, ne_eq, not_false_eq_true, zres, Int.toNat_natCast, reduceIte, Nat.reduceEqDiff, Nat.reduceAdd, and_self, and_true, true_and, and_false, false_and]
    refine z_if_eq (t := 20) dX8_date_8 (by rfl) (fun hx => absurd hx (by decide)) (fun _ => ?_)
    refine z_il2 dX8_date_11 ?_
    refine z_iconst dX8_date_12 (by decide) ?_
    refine z_icmp_lt (t := 20) dX8_date_13 (by rfl) (fun ht13 => ?_) (fun hf13 => ?_)
    · refine z_iconst dX8_date_20 (by decide) ?_
      refine z_iret dX8_date_21 rfl (Nat.le_refl _) (Nat.le_refl _) (zext_rf _) (fun hrr => ?_)
      have hw9 := hQ _ hF
      unfold zvDate at hw9
      rw [if_neg (by omega)] at hw9
      exact hw9
    · refine z_il2 dX8_date_16 ?_
      refine z_if_ne (t := 22) dX8_date_17 (by rfl) (fun ht17 => ?_) (fun hf17 => ?_)
      · refine z_iconst dX8_date_22 (by decide) ?_
        refine z_is3 dX8_date_23 (Nat.le_of_ble_eq_true rfl) rfl ?_
        refine z_iconst dX8_date_24 (by decide) ?_
        refine z_is4 dX8_date_25 (Nat.le_of_ble_eq_true rfl) rfl ?_
        unfold zvDate at hQ
        rw [if_pos (by omega)] at hQ
        exact X8_date_l hI hO hg1 hQ _ 1 _ 0 (Nat.lt_succ_self _) (by omega) (by omega) hF (by omega) rfl
      · refine z_iconst dX8_date_20 (by decide) ?_
        refine z_iret dX8_date_21 rfl (Nat.le_refl _) (Nat.le_refl _) (zext_rf _) (fun hrr => ?_)
        have hw9 := hQ _ hF
        unfold zvDate at hw9
        rw [if_neg (by omega)] at hw9
        exact hw9
set_option maxRecDepth 4000 in
theorem X9_date_l {l : Launch} {Γ : zC} {h0 : zM} {Q : Option zV → zC → zM → Prop} {i k V : Int} (hI : zIv Γ h0) (hv : 0 ≤ i ∧ i < h0 89 22) (hQ : ∀ h9, zfr zSS h0 h9 → Q (some (zI V)) Γ h9) : ∀ (m : Nat) (a : Nat) (h : zM) (n : Int), 31 - a < m → 1 ≤ a → a ≤ 31 → zfr zSS h0 h → (0 ≤ n ∧ n < a) → zdt (zbF h0 i (h0 89 29)) k (31 - a) a n = V → zG (zFn l mX9_date 1682 0 0 Γ Q) 0 0 Γ h 37 [some (zR 89), some (zI i), some (zI k), some (zI n), some (zI (a : Int))] [] := by
  have hΓ := hI.base
  have hx2 := hI.isl
  intro m
  induction m with
  | zero => intros; omega
  | succ m ih =>
    intro a h n hm ha1 ha2 hF hn hV
    refine z_il4 dX9_date_37 ?_
    refine z_bipush (x := 30) dX9_date_39 (by rfl) (by decide) ?_
    refine z_icmp_gt (t := 78) dX9_date_41 (by rfl) (fun ht41 => ?_) (fun hf41 => ?_)
    · refine z_il2 dX9_date_78 ?_
      refine z_iconst dX9_date_79 (by decide) ?_
      refine z_icmp_ne (t := 87) dX9_date_80 (by rfl) (fun ht80 => ?_) (fun hf80 => ?_)
      · refine z_iconst dX9_date_87 (by decide) ?_
        refine z_iret dX9_date_88 rfl (Nat.le_refl _) (Nat.le_refl _) (zext_rf _) (fun hrr => ?_)
        rw [show 31 - a = 0 by omega, zdt_0] at hV
        first | (rw [if_pos (by omega)] at hV; subst hV; exact hQ _ hF) | (rw [if_neg (by omega)] at hV; subst hV; exact hQ _ hF)
      · refine z_il3 dX9_date_83 ?_
        refine z_goto (t := 88) dX9_date_84 (by rfl) ?_
        refine z_iret dX9_date_88 rfl (Nat.le_refl _) (Nat.le_refl _) (zext_rf _) (fun hrr => ?_)
        rw [show 31 - a = 0 by omega, zdt_0] at hV
        first | (rw [if_pos (by omega)] at hV; subst hV; exact hQ _ hF) | (rw [if_neg (by omega)] at hV; subst hV; exact hQ _ hF)
    · refine z_al0 dX9_date_44 (by first | decide | omega | assumption) ?_
      refine z_il1 dX9_date_45 ?_
      refine z_il4 dX9_date_46 ?_
      refine z_al0 dX9_date_48 (by first | decide | omega | assumption) ?_
      refine z_getI zfX9_288 dX9_date_49 (zkB hΓ rfl) rfl ?_
      rw [hF 89 29 rfl]
      try simp only [zup_ap, zup_row, ne_eq, not_false_eq_true, zres, Int.toNat_natCast, reduceIte, Nat.reduceEqDiff, Nat.reduceAdd, and_self, and_true, true_and, and_false, false_and]
      refine zcv3 dX9_date_52 zkX9_311 ziX9_isForbidden zsX9_isForbidden (zkB hΓ rfl) (by decide) rfl (Nat.le_of_ble_eq_true rfl) (by decide) (by first | decide | omega) ⟨Nat.le_refl _, Nat.le_refl _⟩ (X9_isForbidden_ct hI hF hv (by omega) (fun h9 hM9 _ => ?_))
      try simp only [zup_ap, zup_row, ne_eq, not_false_eq_true, zres, Int.toNat_natCast, reduceIte, Nat.reduceEqDiff, Nat.reduceAdd, and_self, and_true, true_and, and_false, false_and]
      refine z_if_eq (t := 61) dX9_date_55 (by rfl) (fun ht55 => ?_) (fun hf55 => ?_)
      · refine z_ii3 dX9_date_61 (by omega) (Nat.le_of_ble_eq_true rfl) rfl ?_
        refine z_il3 dX9_date_64 ?_
        refine z_il2 dX9_date_65 ?_
        refine z_icmp_ne (t := 72) dX9_date_66 (by rfl) (fun ht66 => ?_) (fun hf66 => ?_)
        · refine z_ii4 dX9_date_72 (by omega) (Nat.le_of_ble_eq_true rfl) rfl ?_
          refine z_goto (t := 37) dX9_date_75 (by rfl) ?_
          rw [show 31 - a = (31 - (a + 1)) + 1 by omega] at hV
          first
          | (rw [zdt_f (by show zFo _ _ _ _ ≠ 0; omega)] at hV
             exact ih (a + 1) _ _ (by omega) (by omega) (by omega) (zfr_M hF hM9) (by omega) hV)
          | (rw [zdt_u (by show zFo _ _ _ _ = 0; omega) (by omega)] at hV
             exact ih (a + 1) _ _ (by omega) (by omega) (by omega) (zfr_M hF hM9) (by omega) hV)
        · refine z_il4 dX9_date_69 ?_
          refine z_iret dX9_date_71 rfl (Nat.le_refl _) (Nat.le_refl _) (zext_rf _) (fun hrr => ?_)
          rw [show 31 - a = (31 - (a + 1)) + 1 by omega] at hV
          rw [zdt_y (by show zFo _ _ _ _ = 0; omega) (by omega)] at hV
          rw [← hV] at hQ
          exact hQ _ (zfr_M hF hM9)
      · refine z_goto (t := 72) dX9_date_58 (by rfl) ?_
        refine z_ii4 dX9_date_72 (by omega) (Nat.le_of_ble_eq_true rfl) rfl ?_
        refine z_goto (t := 37) dX9_date_75 (by rfl) ?_
        rw [show 31 - a = (31 - (a + 1)) + 1 by omega] at hV
        first
        | (rw [zdt_f (by show zFo _ _ _ _ ≠ 0; omega)] at hV
           exact ih (a + 1) _ _ (by omega) (by omega) (by omega) (zfr_M hF hM9) (by omega) hV)
        | (rw [zdt_u (by show zFo _ _ _ _ = 0; omega) (by omega)] at hV
           exact ih (a + 1) _ _ (by omega) (by omega) (by omega) (zfr_M hF hM9) (by omega) hV)
set_option maxRecDepth 4000 in
theorem X9_date_ct {l : Launch} {Γ : zC} {h0 h : zM} {Q : Option zV → zC → zM → Prop} {i k : Int} (hI : zIv Γ h0) (hF : zfr zSS h0 h) (hQ : ∀ h9, zfr zSS h0 h9 → Q (some (zI (zvDate h0 i k))) Γ h9) : zCT l mX9_date 1682 0 0 Γ [zR 89, zI i, zI k] h Q := by
  have hΓ := hI.base
  have hx2 := hI.isl
  refine zCT_of (by decide) (Nat.le_of_ble_eq_true rfl) (ls := [some (zR 89), some (zI i), some (zI k), none, none]) rfl ?_
  refine z_al0 dX9_date_0 (by first | decide | omega | assumption) ?_
  refine z_iconst dX9_date_1 (by decide) ?_
  refine z_putI zfX9_128 dX9_date_2 (zkB hΓ rfl) rfl rfl ?_
  replace hF : zfr zSS h0 (zup h 89 0 0) := zfr_up hF rfl
  generalize zup h 89 0 0 = h at hF ⊢
  refine z_al0 dX9_date_5 (by first | decide | omega | assumption) ?_
  refine z_il1 dX9_date_6 ?_
  refine zcv1 dX9_date_7 zkX9_299 ziX9_isIsle zsX9_isIsle (zkB hΓ rfl) (by decide) rfl (Nat.le_of_ble_eq_true rfl) (by decide) (by first | decide | omega) ⟨Nat.le_refl _, Nat.le_refl _⟩ (X9_isIsle_ct hI hF (fun hg1 _ => ?_) (fun hg1 _ => ?_))
  · try simp only [zup_ap, zup_row, ne_eq, not_false_eq_true, zres, Int.toNat_natCast, reduceIte, Nat.reduceEqDiff, Nat.reduceAdd, and_self, and_true, true_and, and_false, false_and]
    refine z_if_eq (t := 30) dX9_date_10 (by rfl) (fun _ => ?_) (fun hx => absurd hx (by decide))
    refine z_iconst dX9_date_30 (by decide) ?_
    refine z_iret dX9_date_31 rfl (Nat.le_refl _) (Nat.le_refl _) (zext_rf _) (fun hrr => ?_)
    by_cases e9 : (0 ≤ i ∧ i < h0 89 22) ∧ 30 < k
    · have hw9 := hQ _ hF
      unfold zvDate at hw9
      rw [if_pos (by omega), zdt_far (by omega) _ _ _ (by omega)] at hw9
      exact hw9
    · have hw9 := hQ _ hF
      unfold zvDate at hw9
      rw [if_neg (by omega)] at hw9
      exact hw9
  · try simp only [zup_ap, zup_row, ne_eq, not_false_eq_true, zres, Int.toNat_natCast, reduceIte, Nat.reduceEqDiff, Nat.reduceAdd, and_self, and_true, true_and, and_false, false_and]
    refine z_if_eq (t := 30) dX9_date_10 (by rfl) (fun hx => absurd hx (by decide)) (fun _ => ?_)
    refine z_il2 dX9_date_13 ?_
    refine z_iconst dX9_date_14 (by decide) ?_
    refine z_icmp_eq (t := 32) dX9_date_15 (by rfl) (fun ht15 => ?_) (fun hf15 => ?_)
    · refine z_iconst dX9_date_32 (by decide) ?_
      refine z_is3 dX9_date_33 (Nat.le_of_ble_eq_true rfl) rfl ?_
      refine z_iconst dX9_date_34 (by decide) ?_
      refine z_is4 dX9_date_35 (Nat.le_of_ble_eq_true rfl) rfl ?_
      unfold zvDate at hQ
      rw [if_pos (by omega)] at hQ
      exact X9_date_l hI hg1 hQ _ 1 _ 0 (Nat.lt_succ_self _) (by omega) (by omega) hF (by omega) rfl
    · refine z_il2 dX9_date_18 ?_
      refine z_i2l dX9_date_19 ?_
      refine z_lconst (x := 1) dX9_date_20 (by rfl) (by decide) ?_
      refine z_ldc2 (x := 30) dX9_date_21 zqX9_362 (by decide) ?_
      refine zcs3 dX9_date_24 zkX9_261 ztX9_isIn (Nat.le_of_ble_eq_true rfl) (by decide) (by first | decide | omega) ⟨Nat.le_refl _, Nat.le_refl _⟩ (X9_isIn_ct (fun hg2 _ => ?_) (fun hg2 _ => ?_))
      · try simp only [zup_ap, zup_row, ne_eq, not_false_eq_true, zres, Int.toNat_natCast, reduceIte, Nat.reduceEqDiff, Nat.reduceAdd, and_self, and_true, true_and, and_false, false_and]
        refine z_if_ne (t := 32) dX9_date_27 (by rfl) (fun hx => absurd hx (by decide)) (fun _ => ?_)
        refine z_iconst dX9_date_30 (by decide) ?_
        refine z_iret dX9_date_31 rfl (Nat.le_refl _) (Nat.le_refl _) (zext_rf _) (fun hrr => ?_)
        by_cases e9 : (0 ≤ i ∧ i < h0 89 22) ∧ 30 < k
        · have hw9 := hQ _ hF
          unfold zvDate at hw9
          rw [if_pos (by omega), zdt_far (by omega) _ _ _ (by omega)] at hw9
          exact hw9
        · have hw9 := hQ _ hF
          unfold zvDate at hw9
          rw [if_neg (by omega)] at hw9
          exact hw9
      · try simp only [zup_ap, zup_row, ne_eq, not_false_eq_true, zres, Int.toNat_natCast, reduceIte, Nat.reduceEqDiff, Nat.reduceAdd, and_self, and_true, true_and, and_false, false_and]
        refine z_if_ne (t := 32) dX9_date_27 (by rfl) (fun _ => ?_) (fun hx => absurd hx (by decide))
        refine z_iconst dX9_date_32 (by decide) ?_
        refine z_is3 dX9_date_33 (Nat.le_of_ble_eq_true rfl) rfl ?_
        refine z_iconst dX9_date_34 (by decide) ?_
        refine z_is4 dX9_date_35 (Nat.le_of_ble_eq_true rfl) rfl ?_
        unfold zvDate at hQ
        rw [if_pos (by omega)] at hQ
        exact X9_date_l hI hg1 hQ _ 1 _ 0 (Nat.lt_succ_self _) (by omega) (by omega) hF (by omega) rfl
/-- the first DATE that is there, from one on -/
def zdF (b : Nat → Int) : Nat → Nat → Int
  | 0, _ => -1
  | k + 1, d => if b d = 0 then (d : Int) else zdF b k (d % 30 + 1)
theorem zdF_y {b : Nat → Int} {k d : Nat} (h : b d = 0) : zdF b (k + 1) d = (d : Int) := by rw [zdF, if_pos h]
theorem zdF_n {b : Nat → Int} {k d : Nat} (h : b d ≠ 0) : zdF b (k + 1) d = zdF b k (d % 30 + 1) := by rw [zdF, if_neg h]
theorem zdF_b {b : Nat → Int} : ∀ k d, 1 ≤ d → d ≤ 30 → zdF b k d = -1 ∨ 1 ≤ zdF b k d ∧ zdF b k d ≤ 30 ∧ b (zdF b k d).toNat = 0
  | 0, _, _, _ => Or.inl rfl
  | k + 1, d, h1, h2 => by
    by_cases e : b d = 0
    · rw [zdF_y e]; exact Or.inr ⟨by omega, by omega, by rw [Int.toNat_natCast]; exact e⟩
    · rw [zdF_n e]; exact zdF_b k _ (by omega) (by omega)
def zvDebt (h : zM) (i d j : Int) : Int := if (0 ≤ i ∧ i < h 89 22) ∧ (1 ≤ d ∧ d ≤ 30) ∧ (0 ≤ j ∧ j ≤ 1) then (if zdF (zbF h i (h 89 29)) 30 d.toNat = -1 ∨ j = 0 then zdF (zbF h i (h 89 29)) 30 d.toNat else if zdF (zbF h i (h 89 29)) 30 d.toNat < d then 1 else 0) else -1
set_option maxRecDepth 4000 in
theorem X7_dateFrom_l {l : Launch} {Γ : zC} {h0 : zM} {Q : Option zV → zC → zM → Prop} {i d f V : Int} (hI : zIv Γ h0) (hO : h0 89 30 = -1) (hv : 0 ≤ i ∧ i < h0 89 22) (hQ : ∀ h9, zfr zSS h0 h9 → Q (some (zI V)) Γ h9) : ∀ (m : Nat) (k d9 : Nat) (h : zM), 30 - k < m → k ≤ 30 → (1 ≤ d9 ∧ d9 ≤ 30) → zfr zSS h0 h → zdF (zbF h0 i d) (30 - k) d9 = V → zG (zFn l mX7_dateFrom 3 0 0 Γ Q) 0 0 Γ h 14 [some (zR 15), some (zI i), some (zI d), some (zI f), some (zI (zTb h0 i d)), some (zI (d9 : Int)), some (zI (k : Int))] [] := by
  have hΓ := hI.base
  have hx2 := hI.isl
  intro m
  induction m with
  | zero => intros; omega
  | succ m ih =>
    intro k d9 h hm hk hd9 hF hV
    refine z_il6 dX7_dateFrom_14 ?_
    refine z_bipush (x := 30) dX7_dateFrom_16 (by rfl) (by decide) ?_
    refine z_icmp_ge (t := 52) dX7_dateFrom_18 (by rfl) (fun ht18 => ?_) (fun hf18 => ?_)
    · refine z_iconst dX7_dateFrom_52 (by decide) ?_
      refine z_iret dX7_dateFrom_53 rfl (Nat.le_refl _) (Nat.le_refl _) (zext_rf _) (fun hrr => ?_)
      rw [show 30 - k = 0 by omega] at hV
      have e9 : V = -1 := hV.symm
      subst e9
      exact hQ _ hF
    · refine z_al0 dX7_dateFrom_21 (by first | decide | omega | assumption) ?_
      refine z_il1 dX7_dateFrom_22 ?_
      refine z_il5 dX7_dateFrom_23 ?_
      refine z_il2 dX7_dateFrom_25 ?_
      refine z_il4 dX7_dateFrom_26 ?_
      refine zcv4 dX7_dateFrom_28 zkX7_69 ziX7_forbidsBy zsX7_forbidsBy (zkB hΓ rfl) (by decide) rfl (Nat.le_of_ble_eq_true rfl) (by decide) (by first | decide | omega) ⟨Nat.le_refl _, Nat.le_refl _⟩ (X7_forbidsBy_ct hI hF hv (by omega) (fun h9 hK9 _ => ?_))
      try simp only [zup_ap, zup_row, ne_eq, not_false_eq_true, zres, Int.toNat_natCast, reduceIte, Nat.reduceEqDiff, Nat.reduceAdd, and_self, and_true, true_and, and_false, false_and]
      refine z_if_ne (t := 37) dX7_dateFrom_31 (by rfl) (fun ht31 => ?_) (fun hf31 => ?_)
      · refine z_il5 dX7_dateFrom_37 ?_
        refine z_bipush (x := 30) dX7_dateFrom_39 (by rfl) (by decide) ?_
        refine z_iremp dX7_dateFrom_41 (by omega) (by omega) ?_
        refine z_iconst dX7_dateFrom_42 (by decide) ?_
        refine z_iadd dX7_dateFrom_43 (by omega) ?_
        refine z_is5 dX7_dateFrom_44 (Nat.le_of_ble_eq_true rfl) rfl ?_
        refine z_ii6 dX7_dateFrom_46 (by omega) (Nat.le_of_ble_eq_true rfl) rfl ?_
        refine z_goto (t := 14) dX7_dateFrom_49 (by rfl) ?_
        rw [show 30 - k = (30 - (k + 1)) + 1 by omega] at hV
        rw [zdF_n (by show zFo _ _ _ _ ≠ 0; rw [zFo_b hO hv.1]; omega)] at hV
        rw [show (d9 : Int) % 30 + 1 = ((d9 % 30 + 1 : Nat) : Int) by omega]
        exact ih (k + 1) (d9 % 30 + 1) _ (by omega) (by omega) (by omega) (zfr_K hF hK9) hV
      · refine z_il5 dX7_dateFrom_34 ?_
        refine z_iret dX7_dateFrom_36 rfl (Nat.le_refl _) (Nat.le_refl _) (zext_rf _) (fun hrr => ?_)
        rw [show 30 - k = (30 - (k + 1)) + 1 by omega] at hV
        rw [zdF_y (by show zFo _ _ _ _ = 0; rw [zFo_b hO hv.1]; omega)] at hV
        subst hV
        exact hQ _ (zfr_K hF hK9)
set_option maxRecDepth 4000 in
theorem X7_dateFrom_ct {l : Launch} {Γ : zC} {h0 h : zM} {Q : Option zV → zC → zM → Prop} {i d : Int} {f : Nat} (hI : zIv Γ h0) (hF : zfr zSS h0 h) (hO : h0 89 30 = -1) (hv : 0 ≤ i ∧ i < h0 89 22) (hf : 1 ≤ f ∧ f ≤ 30) (hQ : ∀ h9, zfr zSS h0 h9 → Q (some (zI (zdF (zbF h0 i d) 30 f))) Γ h9) : zCT l mX7_dateFrom 3 0 0 Γ [zR 15, zI i, zI d, zI (f : Int)] h Q := by
  have hΓ := hI.base
  have hx2 := hI.isl
  refine zCT_of (by decide) (Nat.le_of_ble_eq_true rfl) (ls := [some (zR 15), some (zI i), some (zI d), some (zI (f : Int)), none, none, none]) rfl ?_
  refine z_al0 dX7_dateFrom_0 (by first | decide | omega | assumption) ?_
  refine z_il1 dX7_dateFrom_1 ?_
  refine z_il2 dX7_dateFrom_2 ?_
  refine zcv2 dX7_dateFrom_3 zkX7_66 ziX7_tabooOn zsX7_tabooOn (zkB hΓ rfl) (by decide) rfl (Nat.le_of_ble_eq_true rfl) (by decide) (by first | decide | omega) ⟨Nat.le_refl _, Nat.le_refl _⟩ (X7_tabooOn_ct hI hF hv (fun _ => ?_))
  try simp only [zup_ap, zup_row, ne_eq, not_false_eq_true, zres, Int.toNat_natCast, reduceIte, Nat.reduceEqDiff, Nat.reduceAdd, and_self, and_true, true_and, and_false, false_and]
  refine z_is4 dX7_dateFrom_6 (Nat.le_of_ble_eq_true rfl) rfl ?_
  refine z_il3 dX7_dateFrom_8 ?_
  refine z_is5 dX7_dateFrom_9 (Nat.le_of_ble_eq_true rfl) rfl ?_
  refine z_iconst dX7_dateFrom_11 (by decide) ?_
  refine z_is6 dX7_dateFrom_12 (Nat.le_of_ble_eq_true rfl) rfl ?_
  exact X7_dateFrom_l hI hO hv hQ _ 0 f _ (Nat.lt_succ_self _) (by omega) hf hF rfl
set_option maxRecDepth 4000 in
theorem X8_debt_ct {l : Launch} {Γ : zC} {h0 h : zM} {Q : Option zV → zC → zM → Prop} {i d j : Int} (hI : zIv Γ h0) (hF : zfr zSS h0 h) (hO : h0 89 30 = -1) (hQ : ∀ h9, zfr zSS h0 h9 → Q (some (zI (zvDebt h0 i d j))) Γ h9) : zCT l mX8_debt 4 0 0 Γ [zR 1, zI i, zI d, zI j] h Q := by
  have hΓ := hI.base
  have hx2 := hI.isl
  refine zCT_of (by decide) (Nat.le_of_ble_eq_true rfl) (ls := [some (zR 1), some (zI i), some (zI d), some (zI j), none]) rfl ?_
  refine z_al0 dX8_debt_0 (by first | decide | omega | assumption) ?_
  refine z_getR zfX8_35 dX8_debt_1 (zkB hΓ rfl) rfl (zsB hΓ rfl) (zvB hΓ (by decide)) ?_
  refine z_il1 dX8_debt_4 ?_
  refine zcv1 dX8_debt_5 zkX8_114 ziX7_isIsle zsX7_isIsle (zkB hΓ rfl) (by decide) rfl (Nat.le_of_ble_eq_true rfl) (by decide) (by first | decide | omega) ⟨Nat.le_refl _, Nat.le_refl _⟩ (X7_isIsle_ct hI hF (fun hg1 _ => ?_) (fun hg1 _ => ?_))
  · try simp only [zup_ap, zup_row, ne_eq, not_false_eq_true, zres, Int.toNat_natCast, reduceIte, Nat.reduceEqDiff, Nat.reduceAdd, and_self, and_true, true_and, and_false, false_and]
    refine z_if_eq (t := 31) dX8_debt_8 (by rfl) (fun _ => ?_) (fun hx => absurd hx (by decide))
    refine z_iconst dX8_debt_31 (by decide) ?_
    refine z_iret dX8_debt_32 rfl (Nat.le_refl _) (Nat.le_refl _) (zext_rf _) (fun hrr => ?_)
    have hw9 := hQ _ hF
    unfold zvDebt at hw9
    rw [if_neg (by omega)] at hw9
    exact hw9
  · try simp only [zup_ap, zup_row, ne_eq, not_false_eq_true, zres, Int.toNat_natCast, reduceIte, Nat.reduceEqDiff, Nat.reduceAdd, and_self, and_true, true_and, and_false, false_and]
    refine z_if_eq (t := 31) dX8_debt_8 (by rfl) (fun hx => absurd hx (by decide)) (fun _ => ?_)
    refine z_il2 dX8_debt_11 ?_
    refine z_iconst dX8_debt_12 (by decide) ?_
    refine z_icmp_lt (t := 31) dX8_debt_13 (by rfl) (fun ht13 => ?_) (fun hf13 => ?_)
    · refine z_iconst dX8_debt_31 (by decide) ?_
      refine z_iret dX8_debt_32 rfl (Nat.le_refl _) (Nat.le_refl _) (zext_rf _) (fun hrr => ?_)
      have hw9 := hQ _ hF
      unfold zvDebt at hw9
      rw [if_neg (by omega)] at hw9
      exact hw9
    · refine z_il2 dX8_debt_16 ?_
      refine z_bipush (x := 30) dX8_debt_17 (by rfl) (by decide) ?_
      refine z_icmp_gt (t := 31) dX8_debt_19 (by rfl) (fun ht19 => ?_) (fun hf19 => ?_)
      · refine z_iconst dX8_debt_31 (by decide) ?_
        refine z_iret dX8_debt_32 rfl (Nat.le_refl _) (Nat.le_refl _) (zext_rf _) (fun hrr => ?_)
        have hw9 := hQ _ hF
        unfold zvDebt at hw9
        rw [if_neg (by omega)] at hw9
        exact hw9
      · refine z_il3 dX8_debt_22 ?_
        refine z_if_lt (t := 31) dX8_debt_23 (by rfl) (fun ht23 => ?_) (fun hf23 => ?_)
        · refine z_iconst dX8_debt_31 (by decide) ?_
          refine z_iret dX8_debt_32 rfl (Nat.le_refl _) (Nat.le_refl _) (zext_rf _) (fun hrr => ?_)
          have hw9 := hQ _ hF
          unfold zvDebt at hw9
          rw [if_neg (by omega)] at hw9
          exact hw9
        · refine z_il3 dX8_debt_26 ?_
          refine z_iconst dX8_debt_27 (by decide) ?_
          refine z_icmp_le (t := 33) dX8_debt_28 (by rfl) (fun ht28 => ?_) (fun hf28 => ?_)
          · refine z_al0 dX8_debt_33 (by first | decide | omega | assumption) ?_
            refine z_getR zfX8_35 dX8_debt_34 (zkB hΓ rfl) rfl (zsB hΓ rfl) (zvB hΓ (by decide)) ?_
            refine z_il1 dX8_debt_37 ?_
            refine z_al0 dX8_debt_38 (by first | decide | omega | assumption) ?_
            refine z_getR zfX8_35 dX8_debt_39 (zkB hΓ rfl) rfl (zsB hΓ rfl) (zvB hΓ (by decide)) ?_
            refine z_getR zfX8_190 dX8_debt_42 (zkB hΓ rfl) rfl (zsB hΓ rfl) (zvB hΓ (by decide)) ?_
            refine z_getI zfX8_193 dX8_debt_45 (zkB hΓ rfl) rfl ?_
            rw [hF 25 0 rfl, hI.now.1]
            try simp only [zup_ap, zup_row, ne_eq, not_false_eq_true, zres, Int.toNat_natCast, reduceIte, Nat.reduceEqDiff, Nat.reduceAdd, and_self, and_true, true_and, and_false, false_and]
            refine z_il2 dX8_debt_48 ?_
            obtain ⟨d, rfl⟩ := Int.eq_ofNat_of_zero_le (show 0 ≤ d by omega)
            refine zcv3 dX8_debt_49 zkX8_196 ziX7_dateFrom zsX7_dateFrom (zkB hΓ rfl) (by decide) rfl (Nat.le_of_ble_eq_true rfl) (by decide) (by first | decide | omega) ⟨Nat.le_refl _, Nat.le_refl _⟩ (X7_dateFrom_ct hI hF hO hg1 (by omega) (fun h2 hF2 _ => ?_))
            try simp only [zup_ap, zup_row, ne_eq, not_false_eq_true, zres, Int.toNat_natCast, reduceIte, Nat.reduceEqDiff, Nat.reduceAdd, and_self, and_true, true_and, and_false, false_and]
            refine z_is4 dX8_debt_52 (Nat.le_of_ble_eq_true rfl) rfl ?_
            refine z_il4 dX8_debt_54 ?_
            refine z_iconst dX8_debt_56 (by decide) ?_
            refine z_icmp_eq (t := 64) dX8_debt_57 (by rfl) (fun ht57 => ?_) (fun hf57 => ?_)
            · refine z_il4 dX8_debt_64 ?_
              refine z_iret dX8_debt_66 rfl (Nat.le_refl _) (Nat.le_refl _) (zext_rf _) (fun hrr => ?_)
              have hw9 := hQ _ hF2
              unfold zvDebt at hw9
              rw [if_pos (by omega)] at hw9
              rw [Int.toNat_natCast, if_pos (by omega)] at hw9
              exact hw9
            · refine z_il3 dX8_debt_60 ?_
              refine z_if_ne (t := 67) dX8_debt_61 (by rfl) (fun ht61 => ?_) (fun hf61 => ?_)
              · refine z_il4 dX8_debt_67 ?_
                refine z_il2 dX8_debt_69 ?_
                refine z_icmp_ge (t := 77) dX8_debt_70 (by rfl) (fun ht70 => ?_) (fun hf70 => ?_)
                · refine z_iconst dX8_debt_77 (by decide) ?_
                  refine z_iret dX8_debt_78 rfl (Nat.le_refl _) (Nat.le_refl _) (zext_rf _) (fun hrr => ?_)
                  have hw9 := hQ _ hF2
                  unfold zvDebt at hw9
                  rw [if_pos (by omega)] at hw9
                  rw [Int.toNat_natCast, if_neg (by omega)] at hw9
                  first | (rw [if_pos (by omega)] at hw9; exact hw9) | (rw [if_neg (by omega)] at hw9; exact hw9)
                · refine z_iconst dX8_debt_73 (by decide) ?_
                  refine z_goto (t := 78) dX8_debt_74 (by rfl) ?_
                  refine z_iret dX8_debt_78 rfl (Nat.le_refl _) (Nat.le_refl _) (zext_rf _) (fun hrr => ?_)
                  have hw9 := hQ _ hF2
                  unfold zvDebt at hw9
                  rw [if_pos (by omega)] at hw9
                  rw [Int.toNat_natCast, if_neg (by omega)] at hw9
                  first | (rw [if_pos (by omega)] at hw9; exact hw9) | (rw [if_neg (by omega)] at hw9; exact hw9)
              · refine z_il4 dX8_debt_64 ?_
                refine z_iret dX8_debt_66 rfl (Nat.le_refl _) (Nat.le_refl _) (zext_rf _) (fun hrr => ?_)
                have hw9 := hQ _ hF2
                unfold zvDebt at hw9
                rw [if_pos (by omega)] at hw9
                rw [Int.toNat_natCast, if_pos (by omega)] at hw9
                exact hw9
          · refine z_iconst dX8_debt_31 (by decide) ?_
            refine z_iret dX8_debt_32 rfl (Nat.le_refl _) (Nat.le_refl _) (zext_rf _) (fun hrr => ?_)
            have hw9 := hQ _ hF
            unfold zvDebt at hw9
            rw [if_neg (by omega)] at hw9
            exact hw9
set_option maxRecDepth 4000 in
theorem X9_debt_l {l : Launch} {Γ : zC} {h0 : zM} {Q : Option zV → zC → zM → Prop} {i j V : Int} {d : Nat} (hI : zIv Γ h0) (hv : 0 ≤ i ∧ i < h0 89 22) (hd : 1 ≤ d ∧ d ≤ 30) (hj : 0 ≤ j ∧ j ≤ 1) (hQ : ∀ h9, zfr zSS h0 h9 → Q (some (zI (if V = -1 ∨ j = 0 then V else if V < (d : Int) then 1 else 0))) Γ h9) : ∀ (m : Nat) (k d9 : Nat) (h : zM) (y : Option zV), 30 - k < m → k ≤ 30 → (1 ≤ d9 ∧ d9 ≤ 30) → (d - 1 + k) % 30 + 1 = d9 → zfr zSS h0 h → zdF (zbF h0 i (h0 89 29)) (30 - k) d9 = V → zG (zFn l mX9_debt 1682 0 0 Γ Q) 0 0 Γ h 40 [some (zR 89), some (zI i), some (zI (d : Int)), some (zI j), some (zI (k : Int)), y] [] := by
  have hΓ := hI.base
  have hx2 := hI.isl
  intro m
  induction m with
  | zero => intros; omega
  | succ m ih =>
    intro k d9 h y hm hk hd9 he9 hF hV
    refine z_il4 dX9_debt_40 ?_
    refine z_bipush (x := 30) dX9_debt_42 (by rfl) (by decide) ?_
    refine z_icmp_ge (t := 101) dX9_debt_44 (by rfl) (fun ht44 => ?_) (fun hf44 => ?_)
    · refine z_iconst dX9_debt_101 (by decide) ?_
      refine z_iret dX9_debt_102 rfl (Nat.le_refl _) (Nat.le_refl _) (zext_rf _) (fun hrr => ?_)
      rw [show 30 - k = 0 by omega] at hV
      have e9 : V = -1 := hV.symm
      subst e9
      rw [if_pos (Or.inl rfl)] at hQ
      exact hQ _ hF
    · have ed : ((d : Int) - 1 + (k : Int)) % 30 + 1 = (d9 : Int) := by omega
      refine z_il2 dX9_debt_47 ?_
      refine z_iconst dX9_debt_48 (by decide) ?_
      refine z_isub dX9_debt_49 (by omega) ?_
      refine z_il4 dX9_debt_50 ?_
      refine z_iadd dX9_debt_52 (by omega) ?_
      refine z_bipush (x := 30) dX9_debt_53 (by rfl) (by decide) ?_
      refine z_iremp dX9_debt_55 (by omega) (by omega) ?_
      refine z_iconst dX9_debt_56 (by decide) ?_
      refine z_iadd dX9_debt_57 (by omega) ?_
      rw [ed]
      refine z_is5 dX9_debt_58 (Nat.le_of_ble_eq_true rfl) rfl ?_
      refine z_al0 dX9_debt_60 (by first | decide | omega | assumption) ?_
      refine z_il1 dX9_debt_61 ?_
      refine z_il5 dX9_debt_62 ?_
      refine z_al0 dX9_debt_64 (by first | decide | omega | assumption) ?_
      refine z_getI zfX9_288 dX9_debt_65 (zkB hΓ rfl) rfl ?_
      rw [hF 89 29 rfl]
      try simp only [zup_ap, zup_row, ne_eq, not_false_eq_true, zres, Int.toNat_natCast, reduceIte, Nat.reduceEqDiff, Nat.reduceAdd, and_self, and_true, true_and, and_false, false_and]
      refine zcv3 dX9_debt_68 zkX9_311 ziX9_isForbidden zsX9_isForbidden (zkB hΓ rfl) (by decide) rfl (Nat.le_of_ble_eq_true rfl) (by decide) (by first | decide | omega) ⟨Nat.le_refl _, Nat.le_refl _⟩ (X9_isForbidden_ct hI hF hv (by omega) (fun h9 hM9 _ => ?_))
      try simp only [zup_ap, zup_row, ne_eq, not_false_eq_true, zres, Int.toNat_natCast, reduceIte, Nat.reduceEqDiff, Nat.reduceAdd, and_self, and_true, true_and, and_false, false_and]
      refine z_if_ne (t := 95) dX9_debt_71 (by rfl) (fun ht71 => ?_) (fun hf71 => ?_)
      · refine z_ii4 dX9_debt_95 (by omega) (Nat.le_of_ble_eq_true rfl) rfl ?_
        refine z_goto (t := 40) dX9_debt_98 (by rfl) ?_
        rw [show 30 - k = (30 - (k + 1)) + 1 by omega] at hV
        rw [zdF_n (by show zFo _ _ _ _ ≠ 0; omega)] at hV
        exact ih (k + 1) (d9 % 30 + 1) _ _ (by omega) (by omega) (by omega) (by omega) (zfr_M hF hM9) hV
      · refine z_il3 dX9_debt_74 ?_
        refine z_if_ne (t := 83) dX9_debt_75 (by rfl) (fun ht75 => ?_) (fun hf75 => ?_)
        · refine z_il5 dX9_debt_83 ?_
          refine z_il2 dX9_debt_85 ?_
          refine z_icmp_ge (t := 93) dX9_debt_86 (by rfl) (fun ht86 => ?_) (fun hf86 => ?_)
          · refine z_iconst dX9_debt_93 (by decide) ?_
            refine z_iret dX9_debt_94 rfl (Nat.le_refl _) (Nat.le_refl _) (zext_rf _) (fun hrr => ?_)
            rw [show 30 - k = (30 - (k + 1)) + 1 by omega] at hV
            rw [zdF_y (by show zFo _ _ _ _ = 0; omega)] at hV
            subst hV
            first
            | (rw [if_pos (by omega)] at hQ; exact hQ _ (zfr_M hF hM9))
            | (rw [if_neg (by omega), if_pos (by omega)] at hQ; exact hQ _ (zfr_M hF hM9))
            | (rw [if_neg (by omega), if_neg (by omega)] at hQ; exact hQ _ (zfr_M hF hM9))
          · refine z_iconst dX9_debt_89 (by decide) ?_
            refine z_goto (t := 94) dX9_debt_90 (by rfl) ?_
            refine z_iret dX9_debt_94 rfl (Nat.le_refl _) (Nat.le_refl _) (zext_rf _) (fun hrr => ?_)
            rw [show 30 - k = (30 - (k + 1)) + 1 by omega] at hV
            rw [zdF_y (by show zFo _ _ _ _ = 0; omega)] at hV
            subst hV
            first
            | (rw [if_pos (by omega)] at hQ; exact hQ _ (zfr_M hF hM9))
            | (rw [if_neg (by omega), if_pos (by omega)] at hQ; exact hQ _ (zfr_M hF hM9))
            | (rw [if_neg (by omega), if_neg (by omega)] at hQ; exact hQ _ (zfr_M hF hM9))
        · refine z_il5 dX9_debt_78 ?_
          refine z_goto (t := 94) dX9_debt_80 (by rfl) ?_
          refine z_iret dX9_debt_94 rfl (Nat.le_refl _) (Nat.le_refl _) (zext_rf _) (fun hrr => ?_)
          rw [show 30 - k = (30 - (k + 1)) + 1 by omega] at hV
          rw [zdF_y (by show zFo _ _ _ _ = 0; omega)] at hV
          subst hV
          first
          | (rw [if_pos (by omega)] at hQ; exact hQ _ (zfr_M hF hM9))
          | (rw [if_neg (by omega), if_pos (by omega)] at hQ; exact hQ _ (zfr_M hF hM9))
          | (rw [if_neg (by omega), if_neg (by omega)] at hQ; exact hQ _ (zfr_M hF hM9))
set_option maxRecDepth 4000 in
theorem X9_debt_ct {l : Launch} {Γ : zC} {h0 h : zM} {Q : Option zV → zC → zM → Prop} {i d j : Int} (hI : zIv Γ h0) (hF : zfr zSS h0 h) (hQ : ∀ h9, zfr zSS h0 h9 → Q (some (zI (zvDebt h0 i d j))) Γ h9) : zCT l mX9_debt 1682 0 0 Γ [zR 89, zI i, zI d, zI j] h Q := by
  have hΓ := hI.base
  have hx2 := hI.isl
  refine zCT_of (by decide) (Nat.le_of_ble_eq_true rfl) (ls := [some (zR 89), some (zI i), some (zI d), some (zI j), none, none]) rfl ?_
  refine z_al0 dX9_debt_0 (by first | decide | omega | assumption) ?_
  refine z_iconst dX9_debt_1 (by decide) ?_
  refine z_putI zfX9_128 dX9_debt_2 (zkB hΓ rfl) rfl rfl ?_
  replace hF : zfr zSS h0 (zup h 89 0 0) := zfr_up hF rfl
  generalize zup h 89 0 0 = h at hF ⊢
  refine z_al0 dX9_debt_5 (by first | decide | omega | assumption) ?_
  refine z_il1 dX9_debt_6 ?_
  refine zcv1 dX9_debt_7 zkX9_299 ziX9_isIsle zsX9_isIsle (zkB hΓ rfl) (by decide) rfl (Nat.le_of_ble_eq_true rfl) (by decide) (by first | decide | omega) ⟨Nat.le_refl _, Nat.le_refl _⟩ (X9_isIsle_ct hI hF (fun hg1 _ => ?_) (fun hg1 _ => ?_))
  · try simp only [zup_ap, zup_row, ne_eq, not_false_eq_true, zres, Int.toNat_natCast, reduceIte, Nat.reduceEqDiff, Nat.reduceAdd, and_self, and_true, true_and, and_false, false_and]
    refine z_if_eq (t := 35) dX9_debt_10 (by rfl) (fun _ => ?_) (fun hx => absurd hx (by decide))
    refine z_iconst dX9_debt_35 (by decide) ?_
    refine z_iret dX9_debt_36 rfl (Nat.le_refl _) (Nat.le_refl _) (zext_rf _) (fun hrr => ?_)
    have hw9 := hQ _ hF
    unfold zvDebt at hw9
    rw [if_neg (by omega)] at hw9
    exact hw9
  · try simp only [zup_ap, zup_row, ne_eq, not_false_eq_true, zres, Int.toNat_natCast, reduceIte, Nat.reduceEqDiff, Nat.reduceAdd, and_self, and_true, true_and, and_false, false_and]
    refine z_if_eq (t := 35) dX9_debt_10 (by rfl) (fun hx => absurd hx (by decide)) (fun _ => ?_)
    refine z_il2 dX9_debt_13 ?_
    refine z_i2l dX9_debt_14 ?_
    refine z_lconst (x := 1) dX9_debt_15 (by rfl) (by decide) ?_
    refine z_ldc2 (x := 30) dX9_debt_16 zqX9_362 (by decide) ?_
    refine zcs3 dX9_debt_19 zkX9_261 ztX9_isIn (Nat.le_of_ble_eq_true rfl) (by decide) (by first | decide | omega) ⟨Nat.le_refl _, Nat.le_refl _⟩ (X9_isIn_ct (fun hg2 _ => ?_) (fun hg2 _ => ?_))
    · try simp only [zup_ap, zup_row, ne_eq, not_false_eq_true, zres, Int.toNat_natCast, reduceIte, Nat.reduceEqDiff, Nat.reduceAdd, and_self, and_true, true_and, and_false, false_and]
      refine z_if_eq (t := 35) dX9_debt_22 (by rfl) (fun _ => ?_) (fun hx => absurd hx (by decide))
      refine z_iconst dX9_debt_35 (by decide) ?_
      refine z_iret dX9_debt_36 rfl (Nat.le_refl _) (Nat.le_refl _) (zext_rf _) (fun hrr => ?_)
      have hw9 := hQ _ hF
      unfold zvDebt at hw9
      rw [if_neg (by omega)] at hw9
      exact hw9
    · try simp only [zup_ap, zup_row, ne_eq, not_false_eq_true, zres, Int.toNat_natCast, reduceIte, Nat.reduceEqDiff, Nat.reduceAdd, and_self, and_true, true_and, and_false, false_and]
      refine z_if_eq (t := 35) dX9_debt_22 (by rfl) (fun hx => absurd hx (by decide)) (fun _ => ?_)
      refine z_il3 dX9_debt_25 ?_
      refine z_i2l dX9_debt_26 ?_
      refine z_lconst (x := 0) dX9_debt_27 (by rfl) (by decide) ?_
      refine z_lconst (x := 1) dX9_debt_28 (by rfl) (by decide) ?_
      refine zcs3 dX9_debt_29 zkX9_261 ztX9_isIn (Nat.le_of_ble_eq_true rfl) (by decide) (by first | decide | omega) ⟨Nat.le_refl _, Nat.le_refl _⟩ (X9_isIn_ct (fun hg3 _ => ?_) (fun hg3 _ => ?_))
      · try simp only [zup_ap, zup_row, ne_eq, not_false_eq_true, zres, Int.toNat_natCast, reduceIte, Nat.reduceEqDiff, Nat.reduceAdd, and_self, and_true, true_and, and_false, false_and]
        refine z_if_ne (t := 37) dX9_debt_32 (by rfl) (fun hx => absurd hx (by decide)) (fun _ => ?_)
        refine z_iconst dX9_debt_35 (by decide) ?_
        refine z_iret dX9_debt_36 rfl (Nat.le_refl _) (Nat.le_refl _) (zext_rf _) (fun hrr => ?_)
        have hw9 := hQ _ hF
        unfold zvDebt at hw9
        rw [if_neg (by omega)] at hw9
        exact hw9
      · try simp only [zup_ap, zup_row, ne_eq, not_false_eq_true, zres, Int.toNat_natCast, reduceIte, Nat.reduceEqDiff, Nat.reduceAdd, and_self, and_true, true_and, and_false, false_and]
        refine z_if_ne (t := 37) dX9_debt_32 (by rfl) (fun _ => ?_) (fun hx => absurd hx (by decide))
        refine z_iconst dX9_debt_37 (by decide) ?_
        refine z_is4 dX9_debt_38 (Nat.le_of_ble_eq_true rfl) rfl ?_
        obtain ⟨d, rfl⟩ := Int.eq_ofNat_of_zero_le (show 0 ≤ d by omega)
        unfold zvDebt at hQ
        rw [if_pos (by omega), Int.toNat_natCast] at hQ
        exact X9_debt_l hI hg1 (by omega) (by omega) hQ _ 0 d _ _ (Nat.lt_succ_self _) (by omega) (by omega) (by omega) hF rfl
/-- how many behind one another are barred -/
def zbc (b : Nat → Int) : Nat → Nat → Nat
  | 0, _ => 0
  | k + 1, a => if b a = 0 then 0 else zbc b k (a + 1) + 1
theorem zbc_y {b : Nat → Int} {k a : Nat} (h : b a = 0) : zbc b (k + 1) a = 0 := by rw [zbc, if_pos h]
theorem zbc_n {b : Nat → Int} {k a : Nat} (h : b a ≠ 0) : zbc b (k + 1) a = zbc b k (a + 1) + 1 := by rw [zbc, if_neg h]
theorem zbc_b {b : Nat → Int} : ∀ k a, zbc b k a ≤ k
  | 0, _ => Nat.le_refl _
  | k + 1, a => by
    have := zbc_b (b := b) k (a + 1)
    unfold zbc; split <;> omega
def zBs (h : zM) (i m : Int) : Prop := (0 ≤ i ∧ i < h 89 22) ∧ (0 ≤ m ∧ m ≤ 200) ∧ zFo h i m (h 89 29) = 0
def zbtN (h : zM) (i m : Int) : Nat := zbc (zbF h i (h 89 29)) (999 - m.toNat) (m.toNat + 1)
theorem zbtN_b (h : zM) (i m : Int) : zbtN h i m ≤ 999 := by
  have := zbc_b (b := zbF h i (h 89 29)) (999 - m.toNat) (m.toNat + 1)
  unfold zbtN; omega
def zvBit (h : zM) (i m j : Int) : Int := if ((0 ≤ i ∧ i < h 89 22) ∧ (0 ≤ m ∧ m ≤ 200) ∧ zFo h i m (h 89 29) = 0) ∧ -1 ≤ j then (if j = -1 then (zbtN h i m : Int) else if j < (zbtN h i m : Int) then m + 1 + j else -1) else -1
set_option maxRecDepth 4000 in
theorem X8_isBitBase_ct {l : Launch} {Γ : zC} {h0 h : zM} {Q : Option zV → zC → zM → Prop} {i m : Int} (hI : zIv Γ h0) (hF : zfr zSS h0 h) (hO : h0 89 30 = -1) (hQ0 : ¬ ((0 ≤ i ∧ i < h0 89 22) ∧ (0 ≤ m ∧ m ≤ 200) ∧ zFo h0 i m (h0 89 29) = 0) → ∀ h9, zfr zSS h0 h9 → Q (some (zI 0)) Γ h9) (hQ1 : ((0 ≤ i ∧ i < h0 89 22) ∧ (0 ≤ m ∧ m ≤ 200) ∧ zFo h0 i m (h0 89 29) = 0) → ∀ h9, zfr zSS h0 h9 → Q (some (zI 1)) Γ h9) : zCT l mX8_isBitBase 5 0 0 Γ [zR 1, zI i, zI m] h Q := by
  have hΓ := hI.base
  have hx2 := hI.isl
  refine zCT_of (by decide) (Nat.le_of_ble_eq_true rfl) (ls := [some (zR 1), some (zI i), some (zI m)]) rfl ?_
  refine z_al0 dX8_isBitBase_0 (by first | decide | omega | assumption) ?_
  refine z_getR zfX8_35 dX8_isBitBase_1 (zkB hΓ rfl) rfl (zsB hΓ rfl) (zvB hΓ (by decide)) ?_
  refine z_il1 dX8_isBitBase_4 ?_
  refine zcv1 dX8_isBitBase_5 zkX8_114 ziX7_isIsle zsX7_isIsle (zkB hΓ rfl) (by decide) rfl (Nat.le_of_ble_eq_true rfl) (by decide) (by first | decide | omega) ⟨Nat.le_refl _, Nat.le_refl _⟩ (X7_isIsle_ct hI hF (fun hg1 _ => ?_) (fun hg1 _ => ?_))
  · try simp only [zup_ap, zup_row, ne_eq, not_false_eq_true, zres, Int.toNat_natCast, reduceIte, Nat.reduceEqDiff, Nat.reduceAdd, and_self, and_true, true_and, and_false, false_and]
    refine z_if_eq (t := 38) dX8_isBitBase_8 (by rfl) (fun _ => ?_) (fun hx => absurd hx (by decide))
    refine z_iconst dX8_isBitBase_38 (by decide) ?_
    refine z_zret dX8_isBitBase_39 rfl (Nat.le_refl _) (Nat.le_refl _) (zext_rf _) (by first | exact Or.inl rfl | exact Or.inr rfl | omega) ?_
    first | exact hQ0 (by omega) _ hF | exact hQ1 (by omega) _ hF
  · try simp only [zup_ap, zup_row, ne_eq, not_false_eq_true, zres, Int.toNat_natCast, reduceIte, Nat.reduceEqDiff, Nat.reduceAdd, and_self, and_true, true_and, and_false, false_and]
    refine z_if_eq (t := 38) dX8_isBitBase_8 (by rfl) (fun hx => absurd hx (by decide)) (fun _ => ?_)
    refine z_il2 dX8_isBitBase_11 ?_
    refine z_if_lt (t := 38) dX8_isBitBase_12 (by rfl) (fun ht12 => ?_) (fun hf12 => ?_)
    · refine z_iconst dX8_isBitBase_38 (by decide) ?_
      refine z_zret dX8_isBitBase_39 rfl (Nat.le_refl _) (Nat.le_refl _) (zext_rf _) (by first | exact Or.inl rfl | exact Or.inr rfl | omega) ?_
      first | exact hQ0 (by omega) _ hF | exact hQ1 (by omega) _ hF
    · refine z_il2 dX8_isBitBase_15 ?_
      refine z_sipush (x := 200) dX8_isBitBase_16 (by rfl) (by decide) ?_
      refine z_icmp_gt (t := 38) dX8_isBitBase_19 (by rfl) (fun ht19 => ?_) (fun hf19 => ?_)
      · refine z_iconst dX8_isBitBase_38 (by decide) ?_
        refine z_zret dX8_isBitBase_39 rfl (Nat.le_refl _) (Nat.le_refl _) (zext_rf _) (by first | exact Or.inl rfl | exact Or.inr rfl | omega) ?_
        first | exact hQ0 (by omega) _ hF | exact hQ1 (by omega) _ hF
      · refine z_al0 dX8_isBitBase_22 (by first | decide | omega | assumption) ?_
        refine z_getR zfX8_35 dX8_isBitBase_23 (zkB hΓ rfl) rfl (zsB hΓ rfl) (zvB hΓ (by decide)) ?_
        refine z_il1 dX8_isBitBase_26 ?_
        refine z_il2 dX8_isBitBase_27 ?_
        refine zcv2 dX8_isBitBase_28 zkX8_187 ziX7_forbidsNow zsX7_forbidsNow (zkB hΓ rfl) (by decide) rfl (Nat.le_of_ble_eq_true rfl) (by decide) (by first | decide | omega) ⟨Nat.le_refl _, Nat.le_refl _⟩ (X7_forbidsNow_ct hI hF hO hg1 (by omega) (fun h9 hK9 _ => ?_))
        try simp only [zup_ap, zup_row, ne_eq, not_false_eq_true, zres, Int.toNat_natCast, reduceIte, Nat.reduceEqDiff, Nat.reduceAdd, and_self, and_true, true_and, and_false, false_and]
        replace hF := zfr_K hF hK9
        refine z_if_ne (t := 38) dX8_isBitBase_31 (by rfl) (fun ht31 => ?_) (fun hf31 => ?_)
        · refine z_iconst dX8_isBitBase_38 (by decide) ?_
          refine z_zret dX8_isBitBase_39 rfl (Nat.le_refl _) (Nat.le_refl _) (zext_rf _) (by first | exact Or.inl rfl | exact Or.inr rfl | omega) ?_
          first | exact hQ0 (by omega) _ hF | exact hQ1 (by omega) _ hF
        · refine z_iconst dX8_isBitBase_34 (by decide) ?_
          refine z_goto (t := 39) dX8_isBitBase_35 (by rfl) ?_
          refine z_zret dX8_isBitBase_39 rfl (Nat.le_refl _) (Nat.le_refl _) (zext_rf _) (by first | exact Or.inl rfl | exact Or.inr rfl | omega) ?_
          first | exact hQ0 (by omega) _ hF | exact hQ1 (by omega) _ hF
set_option maxRecDepth 4000 in
theorem X9_isBit_ct {l : Launch} {Γ : zC} {h0 h : zM} {Q : Option zV → zC → zM → Prop} {i m : Int} (hI : zIv Γ h0) (hF : zfr zSS h0 h) (hQ0 : ¬ ((0 ≤ i ∧ i < h0 89 22) ∧ (0 ≤ m ∧ m ≤ 200) ∧ zFo h0 i m (h0 89 29) = 0) → ∀ h9, zfr zSS h0 h9 → Q (some (zI 0)) Γ h9) (hQ1 : ((0 ≤ i ∧ i < h0 89 22) ∧ (0 ≤ m ∧ m ≤ 200) ∧ zFo h0 i m (h0 89 29) = 0) → ∀ h9, zfr zSS h0 h9 → Q (some (zI 1)) Γ h9) : zCT l mX9_isBit 1682 0 0 Γ [zR 89, zI i, zI m] h Q := by
  have hΓ := hI.base
  have hx2 := hI.isl
  refine zCT_of (by decide) (Nat.le_of_ble_eq_true rfl) (ls := [some (zR 89), some (zI i), some (zI m)]) rfl ?_
  refine z_al0 dX9_isBit_0 (by first | decide | omega | assumption) ?_
  refine z_il1 dX9_isBit_1 ?_
  refine zcv1 dX9_isBit_2 zkX9_299 ziX9_isIsle zsX9_isIsle (zkB hΓ rfl) (by decide) rfl (Nat.le_of_ble_eq_true rfl) (by decide) (by first | decide | omega) ⟨Nat.le_refl _, Nat.le_refl _⟩ (X9_isIsle_ct hI hF (fun hg1 _ => ?_) (fun hg1 _ => ?_))
  · try simp only [zup_ap, zup_row, ne_eq, not_false_eq_true, zres, Int.toNat_natCast, reduceIte, Nat.reduceEqDiff, Nat.reduceAdd, and_self, and_true, true_and, and_false, false_and]
    refine z_if_eq (t := 37) dX9_isBit_5 (by rfl) (fun _ => ?_) (fun hx => absurd hx (by decide))
    refine z_iconst dX9_isBit_37 (by decide) ?_
    refine z_zret dX9_isBit_38 rfl (Nat.le_refl _) (Nat.le_refl _) (zext_rf _) (by first | exact Or.inl rfl | exact Or.inr rfl | omega) ?_
    first | exact hQ0 (by omega) _ hF | exact hQ1 (by omega) _ hF
  · try simp only [zup_ap, zup_row, ne_eq, not_false_eq_true, zres, Int.toNat_natCast, reduceIte, Nat.reduceEqDiff, Nat.reduceAdd, and_self, and_true, true_and, and_false, false_and]
    refine z_if_eq (t := 37) dX9_isBit_5 (by rfl) (fun hx => absurd hx (by decide)) (fun _ => ?_)
    refine z_il2 dX9_isBit_8 ?_
    refine z_i2l dX9_isBit_9 ?_
    refine z_lconst (x := 0) dX9_isBit_10 (by rfl) (by decide) ?_
    refine z_ldc2 (x := 200) dX9_isBit_11 zqX9_332 (by decide) ?_
    refine zcs3 dX9_isBit_14 zkX9_261 ztX9_isIn (Nat.le_of_ble_eq_true rfl) (by decide) (by first | decide | omega) ⟨Nat.le_refl _, Nat.le_refl _⟩ (X9_isIn_ct (fun hg2 _ => ?_) (fun hg2 _ => ?_))
    · try simp only [zup_ap, zup_row, ne_eq, not_false_eq_true, zres, Int.toNat_natCast, reduceIte, Nat.reduceEqDiff, Nat.reduceAdd, and_self, and_true, true_and, and_false, false_and]
      refine z_if_eq (t := 37) dX9_isBit_17 (by rfl) (fun _ => ?_) (fun hx => absurd hx (by decide))
      refine z_iconst dX9_isBit_37 (by decide) ?_
      refine z_zret dX9_isBit_38 rfl (Nat.le_refl _) (Nat.le_refl _) (zext_rf _) (by first | exact Or.inl rfl | exact Or.inr rfl | omega) ?_
      first | exact hQ0 (by omega) _ hF | exact hQ1 (by omega) _ hF
    · try simp only [zup_ap, zup_row, ne_eq, not_false_eq_true, zres, Int.toNat_natCast, reduceIte, Nat.reduceEqDiff, Nat.reduceAdd, and_self, and_true, true_and, and_false, false_and]
      refine z_if_eq (t := 37) dX9_isBit_17 (by rfl) (fun hx => absurd hx (by decide)) (fun _ => ?_)
      refine z_al0 dX9_isBit_20 (by first | decide | omega | assumption) ?_
      refine z_il1 dX9_isBit_21 ?_
      refine z_il2 dX9_isBit_22 ?_
      refine z_al0 dX9_isBit_23 (by first | decide | omega | assumption) ?_
      refine z_getI zfX9_288 dX9_isBit_24 (zkB hΓ rfl) rfl ?_
      rw [hF 89 29 rfl]
      try simp only [zup_ap, zup_row, ne_eq, not_false_eq_true, zres, Int.toNat_natCast, reduceIte, Nat.reduceEqDiff, Nat.reduceAdd, and_self, and_true, true_and, and_false, false_and]
      refine zcv3 dX9_isBit_27 zkX9_311 ziX9_isForbidden zsX9_isForbidden (zkB hΓ rfl) (by decide) rfl (Nat.le_of_ble_eq_true rfl) (by decide) (by first | decide | omega) ⟨Nat.le_refl _, Nat.le_refl _⟩ (X9_isForbidden_ct hI hF hg1 (by omega) (fun h9 hM9 _ => ?_))
      try simp only [zup_ap, zup_row, ne_eq, not_false_eq_true, zres, Int.toNat_natCast, reduceIte, Nat.reduceEqDiff, Nat.reduceAdd, and_self, and_true, true_and, and_false, false_and]
      replace hF := zfr_M hF hM9
      refine z_if_ne (t := 37) dX9_isBit_30 (by rfl) (fun ht30 => ?_) (fun hf30 => ?_)
      · refine z_iconst dX9_isBit_37 (by decide) ?_
        refine z_zret dX9_isBit_38 rfl (Nat.le_refl _) (Nat.le_refl _) (zext_rf _) (by first | exact Or.inl rfl | exact Or.inr rfl | omega) ?_
        first | exact hQ0 (by omega) _ hF | exact hQ1 (by omega) _ hF
      · refine z_iconst dX9_isBit_33 (by decide) ?_
        refine z_goto (t := 38) dX9_isBit_34 (by rfl) ?_
        refine z_zret dX9_isBit_38 rfl (Nat.le_refl _) (Nat.le_refl _) (zext_rf _) (by first | exact Or.inl rfl | exact Or.inr rfl | omega) ?_
        first | exact hQ0 (by omega) _ hF | exact hQ1 (by omega) _ hF
set_option maxRecDepth 4000 in
theorem X8_fB_l {l : Launch} {Γ : zC} {h0 : zM} {Q : Option zV → zC → zM → Prop} {i m : Int} (hI : zIv Γ h0) (hO : h0 89 30 = -1) (hv : 0 ≤ i ∧ i < h0 89 22) (hm0 : 0 ≤ m ∧ m ≤ 200) {V : Nat} (hQ : ∀ h9, zfr zSS h0 h9 → Q (some (zI (V : Int))) Γ h9) : ∀ (mm : Nat) (a : Nat) (n9 : Int) (h : zM), 1000 - a < mm → (m < a ∧ a ≤ 1000) → n9 = a - 1 - m → zfr zSS h0 h → m.toNat + 1 + V = a + zbc (zbF h0 i (h0 89 29)) (1000 - a) a → zG (zFn l mX8_forbiddenBehind 5 0 0 Γ Q) 0 0 Γ h 7 [some (zR 1), some (zI i), some (zI m), some (zI n9), some (zI (a : Int))] [] := by
  have hΓ := hI.base
  have hx2 := hI.isl
  intro mm
  induction mm with
  | zero => intros; omega
  | succ mm ih =>
    intro a n9 h hm ha hn9 hF hV
    refine z_il4 dX8_forbiddenBehind_7 ?_
    refine z_sipush (x := 999) dX8_forbiddenBehind_9 (by rfl) (by decide) ?_
    refine z_icmp_gt (t := 39) dX8_forbiddenBehind_12 (by rfl) (fun ht12 => ?_) (fun hf12 => ?_)
    · refine z_il3 dX8_forbiddenBehind_39 ?_
      refine z_iret dX8_forbiddenBehind_40 rfl (Nat.le_refl _) (Nat.le_refl _) (zext_rf _) (fun hrr => ?_)
      rw [show 1000 - a = 0 by omega] at hV
      have hV2 : m.toNat + 1 + V = a := by rw [hV]; rfl
      have hw9 := hQ _ hF
      rw [show (V : Int) = n9 by omega] at hw9
      exact hw9
    · refine z_al0 dX8_forbiddenBehind_15 (by first | decide | omega | assumption) ?_
      refine z_getR zfX8_35 dX8_forbiddenBehind_16 (zkB hΓ rfl) rfl (zsB hΓ rfl) (zvB hΓ (by decide)) ?_
      refine z_il1 dX8_forbiddenBehind_19 ?_
      refine z_il4 dX8_forbiddenBehind_20 ?_
      refine zcv2 dX8_forbiddenBehind_22 zkX8_187 ziX7_forbidsNow zsX7_forbidsNow (zkB hΓ rfl) (by decide) rfl (Nat.le_of_ble_eq_true rfl) (by decide) (by first | decide | omega) ⟨Nat.le_refl _, Nat.le_refl _⟩ (X7_forbidsNow_ct hI hF hO hv (by omega) (fun h9 hK9 _ => ?_))
      try simp only [zup_ap, zup_row, ne_eq, not_false_eq_true, zres, Int.toNat_natCast, reduceIte, Nat.reduceEqDiff, Nat.reduceAdd, and_self, and_true, true_and, and_false, false_and]
      refine z_if_ne (t := 30) dX8_forbiddenBehind_25 (by rfl) (fun ht25 => ?_) (fun hf25 => ?_)
      · refine z_ii3 dX8_forbiddenBehind_30 (by omega) (Nat.le_of_ble_eq_true rfl) rfl ?_
        refine z_ii4 dX8_forbiddenBehind_33 (by omega) (Nat.le_of_ble_eq_true rfl) rfl ?_
        refine z_goto (t := 7) dX8_forbiddenBehind_36 (by rfl) ?_
        rw [show 1000 - a = (1000 - (a + 1)) + 1 by omega] at hV
        rw [zbc_n (by show zFo _ _ _ _ ≠ 0; omega)] at hV
        exact ih (a + 1) _ _ (by omega) (by omega) (by omega) (zfr_K hF hK9) (by omega)
      · refine z_il3 dX8_forbiddenBehind_28 ?_
        refine z_iret dX8_forbiddenBehind_29 rfl (Nat.le_refl _) (Nat.le_refl _) (zext_rf _) (fun hrr => ?_)
        rw [show 1000 - a = (1000 - (a + 1)) + 1 by omega] at hV
        rw [zbc_y (by show zFo _ _ _ _ = 0; omega)] at hV
        have hw9 := hQ _ (zfr_K hF hK9)
        rw [show (V : Int) = n9 by omega] at hw9
        exact hw9
set_option maxRecDepth 4000 in
theorem X8_forbiddenBehind_ct {l : Launch} {Γ : zC} {h0 h : zM} {Q : Option zV → zC → zM → Prop} {i m : Int} (hI : zIv Γ h0) (hF : zfr zSS h0 h) (hO : h0 89 30 = -1) (hv : 0 ≤ i ∧ i < h0 89 22) (hm0 : 0 ≤ m ∧ m ≤ 200) (hQ : ∀ h9, zfr zSS h0 h9 → Q (some (zI ((zbtN h0 i m : Nat)))) Γ h9) : zCT l mX8_forbiddenBehind 5 0 0 Γ [zR 1, zI i, zI m] h Q := by
  have hΓ := hI.base
  have hx2 := hI.isl
  refine zCT_of (by decide) (Nat.le_of_ble_eq_true rfl) (ls := [some (zR 1), some (zI i), some (zI m), none, none]) rfl ?_
  refine z_iconst dX8_forbiddenBehind_0 (by decide) ?_
  refine z_is3 dX8_forbiddenBehind_1 (Nat.le_of_ble_eq_true rfl) rfl ?_
  refine z_il2 dX8_forbiddenBehind_2 ?_
  refine z_iconst dX8_forbiddenBehind_3 (by decide) ?_
  refine z_iadd dX8_forbiddenBehind_4 (by omega) ?_
  refine z_is4 dX8_forbiddenBehind_5 (Nat.le_of_ble_eq_true rfl) rfl ?_
  obtain ⟨m9, rfl⟩ := Int.eq_ofNat_of_zero_le (show 0 ≤ m by omega)
  exact X8_fB_l hI hO hv hm0 hQ _ (m9 + 1) _ h (Nat.lt_succ_self _) (by omega) (by omega) hF (by unfold zbtN; rw [Int.toNat_natCast, show 1000 - (m9 + 1) = 999 - m9 by omega])
set_option maxRecDepth 4000 in
theorem X9_bO_l {l : Launch} {Γ : zC} {h0 : zM} {Q : Option zV → zC → zM → Prop} {i m : Int} (hI : zIv Γ h0) (hv : 0 ≤ i ∧ i < h0 89 22) (hm0 : 0 ≤ m ∧ m ≤ 200) {V : Nat} (hQ : ∀ h9, zfr zSS h0 h9 → Q (some (zI (V : Int))) Γ h9) : ∀ (mm : Nat) (n : Nat) (h : zM), 1000 - n < mm → m + n ≤ 999 → zfr zSS h0 h → V = n + zbc (zbF h0 i (h0 89 29)) (999 - m.toNat - n) (m.toNat + n + 1) → zG (zFn l mX9_bitsOf 1682 0 0 Γ Q) 0 0 Γ h 2 [some (zR 89), some (zI i), some (zI m), some (zI (n : Int))] [] := by
  have hΓ := hI.base
  have hx2 := hI.isl
  intro mm
  induction mm with
  | zero => intros; omega
  | succ mm ih =>
    intro n h hm hn hF hV
    refine z_il2 dX9_bitsOf_2 ?_
    refine z_il3 dX9_bitsOf_3 ?_
    refine z_iadd dX9_bitsOf_4 (by omega) ?_
    refine z_iconst dX9_bitsOf_5 (by decide) ?_
    refine z_iadd dX9_bitsOf_6 (by omega) ?_
    refine z_sipush (x := 999) dX9_bitsOf_7 (by rfl) (by decide) ?_
    refine z_icmp_gt (t := 36) dX9_bitsOf_10 (by rfl) (fun ht10 => ?_) (fun hf10 => ?_)
    · refine z_il3 dX9_bitsOf_36 ?_
      refine z_iret dX9_bitsOf_37 rfl (Nat.le_refl _) (Nat.le_refl _) (zext_rf _) (fun hrr => ?_)
      first
      | (rw [show 999 - m.toNat - n = 0 by omega] at hV
         have hV2 : V = n := hV
         subst hV2
         exact hQ _ hF)
      | (rw [show 999 - m.toNat - n = (999 - m.toNat - (n + 1)) + 1 by omega, zbc_y (by show zFo _ _ _ _ = 0; omega)] at hV
         have hV2 : V = n := hV
         subst hV2
         exact hQ _ (zfr_M hF hM9))
    · refine z_al0 dX9_bitsOf_13 (by first | decide | omega | assumption) ?_
      refine z_il1 dX9_bitsOf_14 ?_
      refine z_il2 dX9_bitsOf_15 ?_
      refine z_il3 dX9_bitsOf_16 ?_
      refine z_iadd dX9_bitsOf_17 (by omega) ?_
      refine z_iconst dX9_bitsOf_18 (by decide) ?_
      refine z_iadd dX9_bitsOf_19 (by omega) ?_
      refine z_al0 dX9_bitsOf_20 (by first | decide | omega | assumption) ?_
      refine z_getI zfX9_288 dX9_bitsOf_21 (zkB hΓ rfl) rfl ?_
      rw [hF 89 29 rfl]
      try simp only [zup_ap, zup_row, ne_eq, not_false_eq_true, zres, Int.toNat_natCast, reduceIte, Nat.reduceEqDiff, Nat.reduceAdd, and_self, and_true, true_and, and_false, false_and]
      rw [show m + (n : Int) + 1 = ((m.toNat + n + 1 : Nat) : Int) by omega]
      refine zcv3 dX9_bitsOf_24 zkX9_311 ziX9_isForbidden zsX9_isForbidden (zkB hΓ rfl) (by decide) rfl (Nat.le_of_ble_eq_true rfl) (by decide) (by first | decide | omega) ⟨Nat.le_refl _, Nat.le_refl _⟩ (X9_isForbidden_ct hI hF hv (by omega) (fun h9 hM9 _ => ?_))
      try simp only [zup_ap, zup_row, ne_eq, not_false_eq_true, zres, Int.toNat_natCast, reduceIte, Nat.reduceEqDiff, Nat.reduceAdd, and_self, and_true, true_and, and_false, false_and]
      refine z_if_eq (t := 36) dX9_bitsOf_27 (by rfl) (fun ht27 => ?_) (fun hf27 => ?_)
      · refine z_il3 dX9_bitsOf_36 ?_
        refine z_iret dX9_bitsOf_37 rfl (Nat.le_refl _) (Nat.le_refl _) (zext_rf _) (fun hrr => ?_)
        first
        | (rw [show 999 - m.toNat - n = 0 by omega] at hV
           have hV2 : V = n := hV
           subst hV2
           exact hQ _ hF)
        | (rw [show 999 - m.toNat - n = (999 - m.toNat - (n + 1)) + 1 by omega, zbc_y (by show zFo _ _ _ _ = 0; omega)] at hV
           have hV2 : V = n := hV
           subst hV2
           exact hQ _ (zfr_M hF hM9))
      · refine z_ii3 dX9_bitsOf_30 (by omega) (Nat.le_of_ble_eq_true rfl) rfl ?_
        refine z_goto (t := 2) dX9_bitsOf_33 (by rfl) ?_
        rw [show 999 - m.toNat - n = (999 - m.toNat - (n + 1)) + 1 by omega, zbc_n (by show zFo _ _ _ _ ≠ 0; omega)] at hV
        exact ih (n + 1) _ (by omega) (by omega) (zfr_M hF hM9) (by rw [show m.toNat + (n + 1) + 1 = m.toNat + n + 1 + 1 by omega]; omega)
set_option maxRecDepth 4000 in
theorem X9_bitsOf_ct {l : Launch} {Γ : zC} {h0 h : zM} {Q : Option zV → zC → zM → Prop} {i m : Int} (hI : zIv Γ h0) (hF : zfr zSS h0 h) (hv : 0 ≤ i ∧ i < h0 89 22) (hm0 : 0 ≤ m ∧ m ≤ 200) (hQ : ∀ h9, zfr zSS h0 h9 → Q (some (zI ((zbtN h0 i m : Nat)))) Γ h9) : zCT l mX9_bitsOf 1682 0 0 Γ [zR 89, zI i, zI m] h Q := by
  have hΓ := hI.base
  have hx2 := hI.isl
  refine zCT_of (by decide) (Nat.le_of_ble_eq_true rfl) (ls := [some (zR 89), some (zI i), some (zI m), none]) rfl ?_
  refine z_iconst dX9_bitsOf_0 (by decide) ?_
  refine z_is3 dX9_bitsOf_1 (Nat.le_of_ble_eq_true rfl) rfl ?_
  exact X9_bO_l hI hv hm0 hQ _ 0 h (Nat.lt_succ_self _) (by omega) hF (by unfold zbtN; rw [Nat.zero_add, Nat.sub_zero, Nat.add_zero])
set_option maxRecDepth 4000 in
theorem X8_bit_ct {l : Launch} {Γ : zC} {h0 h : zM} {Q : Option zV → zC → zM → Prop} {i m j : Int} (hI : zIv Γ h0) (hF : zfr zSS h0 h) (hO : h0 89 30 = -1) (hQ : ∀ h9, zfr zSS h0 h9 → Q (some (zI (zvBit h0 i m j))) Γ h9) : zCT l mX8_bit 6 0 0 Γ [zR 1, zI i, zI m, zI j] h Q := by
  have hΓ := hI.base
  have hx2 := hI.isl
  have hbn := zbtN_b h0 i m
  refine zCT_of (by decide) (Nat.le_of_ble_eq_true rfl) (ls := [some (zR 1), some (zI i), some (zI m), some (zI j), none]) rfl ?_
  refine z_al0 dX8_bit_0 (by first | decide | omega | assumption) ?_
  refine z_il1 dX8_bit_1 ?_
  refine z_il2 dX8_bit_2 ?_
  refine zcv2 dX8_bit_3 zkX8_200 ziX8_isBitBase zsX8_isBitBase (zkB hΓ rfl) (by decide) rfl (Nat.le_of_ble_eq_true rfl) (by decide) (by first | decide | omega) ⟨Nat.le_refl _, Nat.le_refl _⟩ (X8_isBitBase_ct hI hF hO (fun hg1 h2 hF2 _ => ?_) (fun hg1 h2 hF2 _ => ?_))
  · try simp only [zup_ap, zup_row, ne_eq, not_false_eq_true, zres, Int.toNat_natCast, reduceIte, Nat.reduceEqDiff, Nat.reduceAdd, and_self, and_true, true_and, and_false, false_and]
    replace hF := hF2
    refine z_if_eq (t := 14) dX8_bit_6 (by rfl) (fun _ => ?_) (fun hx => absurd hx (by decide))
    refine z_iconst dX8_bit_14 (by decide) ?_
    refine z_iret dX8_bit_15 rfl (Nat.le_refl _) (Nat.le_refl _) (zext_rf _) (fun hrr => ?_)
    have hw9 := hQ _ hF
    unfold zvBit at hw9
    rw [if_neg (by omega)] at hw9
    exact hw9
  · try simp only [zup_ap, zup_row, ne_eq, not_false_eq_true, zres, Int.toNat_natCast, reduceIte, Nat.reduceEqDiff, Nat.reduceAdd, and_self, and_true, true_and, and_false, false_and]
    replace hF := hF2
    refine z_if_eq (t := 14) dX8_bit_6 (by rfl) (fun hx => absurd hx (by decide)) (fun _ => ?_)
    refine z_il3 dX8_bit_9 ?_
    refine z_iconst dX8_bit_10 (by decide) ?_
    refine z_icmp_ge (t := 16) dX8_bit_11 (by rfl) (fun ht11 => ?_) (fun hf11 => ?_)
    · refine z_al0 dX8_bit_16 (by first | decide | omega | assumption) ?_
      refine z_il1 dX8_bit_17 ?_
      refine z_il2 dX8_bit_18 ?_
      refine zcv2 dX8_bit_19 zkX8_203 ziX8_forbiddenBehind zsX8_forbiddenBehind (zkB hΓ rfl) (by decide) rfl (Nat.le_of_ble_eq_true rfl) (by decide) (by first | decide | omega) ⟨Nat.le_refl _, Nat.le_refl _⟩ (X8_forbiddenBehind_ct hI hF hO hg1.1 hg1.2.1 (fun h3 hF3 _ => ?_))
      try simp only [zup_ap, zup_row, ne_eq, not_false_eq_true, zres, Int.toNat_natCast, reduceIte, Nat.reduceEqDiff, Nat.reduceAdd, and_self, and_true, true_and, and_false, false_and]
      refine z_is4 dX8_bit_22 (Nat.le_of_ble_eq_true rfl) rfl ?_
      refine z_il3 dX8_bit_24 ?_
      refine z_iconst dX8_bit_25 (by decide) ?_
      refine z_icmp_ne (t := 32) dX8_bit_26 (by rfl) (fun ht26 => ?_) (fun hf26 => ?_)
      · refine z_il3 dX8_bit_32 ?_
        refine z_il4 dX8_bit_33 ?_
        refine z_icmp_ge (t := 46) dX8_bit_35 (by rfl) (fun ht35 => ?_) (fun hf35 => ?_)
        · refine z_iconst dX8_bit_46 (by decide) ?_
          refine z_iret dX8_bit_47 rfl (Nat.le_refl _) (Nat.le_refl _) (zext_rf _) (fun hrr => ?_)
          have hw9 := hQ _ hF3
          unfold zvBit at hw9
          rw [if_pos (by omega)] at hw9
          first
          | (rw [if_pos (by omega)] at hw9; exact hw9)
          | (rw [if_neg (by omega), if_pos (by omega)] at hw9; exact hw9)
          | (rw [if_neg (by omega), if_neg (by omega)] at hw9; exact hw9)
        · refine z_il2 dX8_bit_38 ?_
          refine z_iconst dX8_bit_39 (by decide) ?_
          refine z_iadd dX8_bit_40 (by omega) ?_
          refine z_il3 dX8_bit_41 ?_
          refine z_iadd dX8_bit_42 (by omega) ?_
          refine z_goto (t := 47) dX8_bit_43 (by rfl) ?_
          refine z_iret dX8_bit_47 rfl (Nat.le_refl _) (Nat.le_refl _) (zext_rf _) (fun hrr => ?_)
          have hw9 := hQ _ hF3
          unfold zvBit at hw9
          rw [if_pos (by omega)] at hw9
          first
          | (rw [if_pos (by omega)] at hw9; exact hw9)
          | (rw [if_neg (by omega), if_pos (by omega)] at hw9; exact hw9)
          | (rw [if_neg (by omega), if_neg (by omega)] at hw9; exact hw9)
      · refine z_il4 dX8_bit_29 ?_
        refine z_iret dX8_bit_31 rfl (Nat.le_refl _) (Nat.le_refl _) (zext_rf _) (fun hrr => ?_)
        have hw9 := hQ _ hF3
        unfold zvBit at hw9
        rw [if_pos (by omega)] at hw9
        first
        | (rw [if_pos (by omega)] at hw9; exact hw9)
        | (rw [if_neg (by omega), if_pos (by omega)] at hw9; exact hw9)
        | (rw [if_neg (by omega), if_neg (by omega)] at hw9; exact hw9)
    · refine z_iconst dX8_bit_14 (by decide) ?_
      refine z_iret dX8_bit_15 rfl (Nat.le_refl _) (Nat.le_refl _) (zext_rf _) (fun hrr => ?_)
      have hw9 := hQ _ hF
      unfold zvBit at hw9
      rw [if_neg (by omega)] at hw9
      exact hw9
set_option maxRecDepth 4000 in
theorem X9_bit_ct {l : Launch} {Γ : zC} {h0 h : zM} {Q : Option zV → zC → zM → Prop} {i m j : Int} (hI : zIv Γ h0) (hF : zfr zSS h0 h) (hQ : ∀ h9, zfr zSS h0 h9 → Q (some (zI (zvBit h0 i m j))) Γ h9) : zCT l mX9_bit 1683 0 0 Γ [zR 89, zI i, zI m, zI j] h Q := by
  have hΓ := hI.base
  have hx2 := hI.isl
  have hbn := zbtN_b h0 i m
  refine zCT_of (by decide) (Nat.le_of_ble_eq_true rfl) (ls := [some (zR 89), some (zI i), some (zI m), some (zI j), none]) rfl ?_
  refine z_al0 dX9_bit_0 (by first | decide | omega | assumption) ?_
  refine z_iconst dX9_bit_1 (by decide) ?_
  refine z_putI zfX9_128 dX9_bit_2 (zkB hΓ rfl) rfl rfl ?_
  replace hF : zfr zSS h0 (zup h 89 0 0) := zfr_up hF rfl
  generalize zup h 89 0 0 = h at hF ⊢
  refine z_al0 dX9_bit_5 (by first | decide | omega | assumption) ?_
  refine z_il1 dX9_bit_6 ?_
  refine z_il2 dX9_bit_7 ?_
  refine zcv2 dX9_bit_8 zkX9_368 ziX9_isBit zsX9_isBit (zkB hΓ rfl) (by decide) rfl (Nat.le_of_ble_eq_true rfl) (by decide) (by first | decide | omega) ⟨Nat.le_refl _, Nat.le_refl _⟩ (X9_isBit_ct hI hF (fun hg1 h2 hF2 _ => ?_) (fun hg1 h2 hF2 _ => ?_))
  · try simp only [zup_ap, zup_row, ne_eq, not_false_eq_true, zres, Int.toNat_natCast, reduceIte, Nat.reduceEqDiff, Nat.reduceAdd, and_self, and_true, true_and, and_false, false_and]
    replace hF := hF2
    refine z_if_eq (t := 19) dX9_bit_11 (by rfl) (fun _ => ?_) (fun hx => absurd hx (by decide))
    refine z_iconst dX9_bit_19 (by decide) ?_
    refine z_iret dX9_bit_20 rfl (Nat.le_refl _) (Nat.le_refl _) (zext_rf _) (fun hrr => ?_)
    have hw9 := hQ _ hF
    unfold zvBit at hw9
    rw [if_neg (by omega)] at hw9
    exact hw9
  · try simp only [zup_ap, zup_row, ne_eq, not_false_eq_true, zres, Int.toNat_natCast, reduceIte, Nat.reduceEqDiff, Nat.reduceAdd, and_self, and_true, true_and, and_false, false_and]
    replace hF := hF2
    refine z_if_eq (t := 19) dX9_bit_11 (by rfl) (fun hx => absurd hx (by decide)) (fun _ => ?_)
    refine z_il3 dX9_bit_14 ?_
    refine z_iconst dX9_bit_15 (by decide) ?_
    refine z_icmp_ge (t := 21) dX9_bit_16 (by rfl) (fun ht16 => ?_) (fun hf16 => ?_)
    · refine z_al0 dX9_bit_21 (by first | decide | omega | assumption) ?_
      refine z_il1 dX9_bit_22 ?_
      refine z_il2 dX9_bit_23 ?_
      refine zcv2 dX9_bit_24 zkX9_371 ziX9_bitsOf zsX9_bitsOf (zkB hΓ rfl) (by decide) rfl (Nat.le_of_ble_eq_true rfl) (by decide) (by first | decide | omega) ⟨Nat.le_refl _, Nat.le_refl _⟩ (X9_bitsOf_ct hI hF hg1.1 hg1.2.1 (fun h3 hF3 _ => ?_))
      try simp only [zup_ap, zup_row, ne_eq, not_false_eq_true, zres, Int.toNat_natCast, reduceIte, Nat.reduceEqDiff, Nat.reduceAdd, and_self, and_true, true_and, and_false, false_and]
      refine z_is4 dX9_bit_27 (Nat.le_of_ble_eq_true rfl) rfl ?_
      refine z_il3 dX9_bit_29 ?_
      refine z_iconst dX9_bit_30 (by decide) ?_
      refine z_icmp_ne (t := 39) dX9_bit_31 (by rfl) (fun ht31 => ?_) (fun hf31 => ?_)
      · refine z_il3 dX9_bit_39 ?_
        refine z_il4 dX9_bit_40 ?_
        refine z_icmp_ge (t := 53) dX9_bit_42 (by rfl) (fun ht42 => ?_) (fun hf42 => ?_)
        · refine z_iconst dX9_bit_53 (by decide) ?_
          refine z_iret dX9_bit_54 rfl (Nat.le_refl _) (Nat.le_refl _) (zext_rf _) (fun hrr => ?_)
          have hw9 := hQ _ hF3
          unfold zvBit at hw9
          rw [if_pos (by omega)] at hw9
          first
          | (rw [if_pos (by omega)] at hw9; exact hw9)
          | (rw [if_neg (by omega), if_pos (by omega)] at hw9; exact hw9)
          | (rw [if_neg (by omega), if_neg (by omega)] at hw9; exact hw9)
        · refine z_il2 dX9_bit_45 ?_
          refine z_iconst dX9_bit_46 (by decide) ?_
          refine z_iadd dX9_bit_47 (by omega) ?_
          refine z_il3 dX9_bit_48 ?_
          refine z_iadd dX9_bit_49 (by omega) ?_
          refine z_goto (t := 54) dX9_bit_50 (by rfl) ?_
          refine z_iret dX9_bit_54 rfl (Nat.le_refl _) (Nat.le_refl _) (zext_rf _) (fun hrr => ?_)
          have hw9 := hQ _ hF3
          unfold zvBit at hw9
          rw [if_pos (by omega)] at hw9
          first
          | (rw [if_pos (by omega)] at hw9; exact hw9)
          | (rw [if_neg (by omega), if_pos (by omega)] at hw9; exact hw9)
          | (rw [if_neg (by omega), if_neg (by omega)] at hw9; exact hw9)
      · refine z_il4 dX9_bit_34 ?_
        refine z_goto (t := 54) dX9_bit_36 (by rfl) ?_
        refine z_iret dX9_bit_54 rfl (Nat.le_refl _) (Nat.le_refl _) (zext_rf _) (fun hrr => ?_)
        have hw9 := hQ _ hF3
        unfold zvBit at hw9
        rw [if_pos (by omega)] at hw9
        first
        | (rw [if_pos (by omega)] at hw9; exact hw9)
        | (rw [if_neg (by omega), if_pos (by omega)] at hw9; exact hw9)
        | (rw [if_neg (by omega), if_neg (by omega)] at hw9; exact hw9)
    · refine z_iconst dX9_bit_19 (by decide) ?_
      refine z_iret dX9_bit_20 rfl (Nat.le_refl _) (Nat.le_refl _) (zext_rf _) (fun hrr => ?_)
      have hw9 := hQ _ hF
      unfold zvBit at hw9
      rw [if_neg (by omega)] at hw9
      exact hw9
