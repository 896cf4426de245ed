/-! LIKELY; ways, what is forbidden; what was said; SAFE, SPOKEN; class and reference -/
def zwt (h : zM) (n : Int) : Int := if n < 100 ∧ h 106 n.toNat ≠ 0 then h 106 n.toNat - 1 else 1
theorem zwt_b {Γ : zC} {h : zM} (hI : zIv Γ h) {n : Int} (hn : 1 ≤ n) : 0 ≤ zwt h n ∧ zwt h n ≤ 99 := by
  unfold zwt
  split
  · have := (hI.wts n.toNat (by omega) (by omega)).1
    omega
  · omega
theorem zsm_le {f : Nat → Int} {B : Int} : ∀ m, (∀ p, 1 ≤ p → p ≤ m → 0 ≤ f p ∧ f p ≤ B) → 0 ≤ zsm f m ∧ zsm f m ≤ B * (m : Int)
  | 0, _ => ⟨Int.le_refl _, by show (0 : Int) ≤ B * 0; omega⟩
  | m + 1, h => by
    have h1 := zsm_le (f := f) (B := B) m (fun p a b => h p a (by omega))
    have h2 := h (m + 1) (by omega) (Nat.le_refl _)
    rw [zsm, show ((m + 1 : Nat) : Int) = (m : Int) + 1 by omega, Int.mul_add, Int.mul_one]
    omega
def zlw (h : zM) (m : Int) (k : Nat) : Int := zsm (fun p => zwt h (m + (p : Int))) k
theorem zlw_b {Γ : zC} {h : zM} (hI : zIv Γ h) {m : Int} (hm : 0 ≤ m) (k : Nat) : 0 ≤ zlw h m k ∧ zlw h m k ≤ 99 * (k : Int) := zsm_le k (fun p a _ => zwt_b hI (by omega))
theorem zlw_s (h : zM) (m : Int) (k : Nat) : zlw h m (k + 1) = zlw h m k + zwt h (m + ((k + 1 : Nat) : Int)) := rfl
def zvLikely (h : zM) (i m j : Int) : Int := if ((0 ≤ i ∧ i < h 89 22) ∧ (0 ≤ m ∧ m ≤ 200) ∧ zFo h i m (h 89 29) = 0) ∧ 0 ≤ j then (if j < (zbtN h i m : Int) ∧ zlw h m (zbtN h i m) ≠ 0 then zwt h (m + 1 + j) * 1000000 / zlw h m (zbtN h i m) else -1) else -1
set_option maxRecDepth 4000 in
theorem X8_weightOf_ct {l : Launch} {Γ : zC} {h0 h : zM} {Q : Option zV → zC → zM → Prop} {n : Int} (hI : zIv Γ h0) (hF : zfr zSS h0 h) (hn : 1 ≤ n) (hQ : Q (some (zI (zwt h0 n))) Γ h) : zCT l mX8_weightOf 0 0 0 Γ [zR 1, zI n] h Q := by
  have hΓ := hI.base
  have hx2 := hI.isl
  refine zCT_of (by decide) (Nat.le_of_ble_eq_true rfl) (ls := [some (zR 1), some (zI n)]) rfl ?_
  refine z_il1 dX8_weightOf_0 ?_
  refine z_iconst dX8_weightOf_1 (by decide) ?_
  refine z_icmp_lt (t := 20) dX8_weightOf_2 (by rfl) (fun ht2 => ?_) (fun hf2 => ?_)
  · refine z_iconst dX8_weightOf_20 (by decide) ?_
    refine z_iret dX8_weightOf_21 rfl (Nat.le_refl _) (Nat.le_refl _) (zext_rf _) (fun hrr => ?_)
    refine zQi hQ ?_ rfl
    unfold zwt
    (repeat' split) <;> first | rfl | (exfalso; omega) | omega
  · refine z_il1 dX8_weightOf_5 ?_
    refine z_bipush (x := 99) dX8_weightOf_6 (by rfl) (by decide) ?_
    refine z_icmp_gt (t := 20) dX8_weightOf_8 (by rfl) (fun ht8 => ?_) (fun hf8 => ?_)
    · refine z_iconst dX8_weightOf_20 (by decide) ?_
      refine z_iret dX8_weightOf_21 rfl (Nat.le_refl _) (Nat.le_refl _) (zext_rf _) (fun hrr => ?_)
      refine zQi hQ ?_ rfl
      unfold zwt
      (repeat' split) <;> first | rfl | (exfalso; omega) | omega
    · refine z_al0 dX8_weightOf_11 (by first | decide | omega | assumption) ?_
      refine z_getR zfX8_62 dX8_weightOf_12 (zkB hΓ rfl) rfl (zsB hΓ rfl) (zvB hΓ (by decide)) ?_
      refine z_il1 dX8_weightOf_15 ?_
      refine z_iald dX8_weightOf_16 (zkB hΓ rfl) (by omega) (by omega) ?_
      rw [hF 86 _ rfl, (hI.wts _ (by omega) (by omega)).2]
      try simp only [zup_ap, zup_row, ne_eq, not_false_eq_true, zres, Int.toNat_natCast, reduceIte, Nat.reduceEqDiff, Nat.reduceAdd, and_self, and_true, true_and, and_false, false_and]
      refine z_goto (t := 21) dX8_weightOf_17 (by rfl) ?_
      refine z_iret dX8_weightOf_21 rfl (Nat.le_refl _) (Nat.le_refl _) (zext_rf _) (fun hrr => ?_)
      refine zQi hQ ?_ rfl
      unfold zwt
      (repeat' split) <;> first | rfl | (exfalso; omega) | omega
set_option maxRecDepth 4000 in
theorem X9_weightOf_ct {l : Launch} {Γ : zC} {h0 h : zM} {Q : Option zV → zC → zM → Prop} {n : Int} (hI : zIv Γ h0) (hF : zfr zSS h0 h) (hn : 1 ≤ n) (hQ : Q (some (zI (zwt h0 n))) Γ h) : zCT l mX9_weightOf 0 0 0 Γ [zR 89, zI n] h Q := by
  have hΓ := hI.base
  have hx2 := hI.isl
  refine zCT_of (by decide) (Nat.le_of_ble_eq_true rfl) (ls := [some (zR 89), some (zI n)]) rfl ?_
  refine z_il1 dX9_weightOf_0 ?_
  refine z_bipush (x := 100) dX9_weightOf_1 (by rfl) (by decide) ?_
  refine z_icmp_ge (t := 15) dX9_weightOf_3 (by rfl) (fun ht3 => ?_) (fun hf3 => ?_)
  · refine z_iconst dX9_weightOf_15 (by decide) ?_
    refine z_goto (t := 27) dX9_weightOf_16 (by rfl) ?_
    refine z_iret dX9_weightOf_27 rfl (Nat.le_refl _) (Nat.le_refl _) (zext_rf _) (fun hrr => ?_)
    refine zQi hQ ?_ rfl
    unfold zwt
    (repeat' split) <;> first | rfl | (exfalso; omega) | omega
  · refine z_al0 dX9_weightOf_6 (by first | decide | omega | assumption) ?_
    refine z_getR zfX9_82 dX9_weightOf_7 (zkB hΓ rfl) rfl (zsB hΓ rfl) (zvB hΓ (by decide)) ?_
    refine z_il1 dX9_weightOf_10 ?_
    refine z_iald dX9_weightOf_11 (zkB hΓ rfl) (by omega) (by omega) ?_
    rw [hF 106 _ rfl]
    try simp only [zup_ap, zup_row, ne_eq, not_false_eq_true, zres, Int.toNat_natCast, reduceIte, Nat.reduceEqDiff, Nat.reduceAdd, and_self, and_true, true_and, and_false, false_and]
    refine z_if_ne (t := 19) dX9_weightOf_12 (by rfl) (fun ht12 => ?_) (fun hf12 => ?_)
    · refine z_al0 dX9_weightOf_19 (by first | decide | omega | assumption) ?_
      refine z_getR zfX9_82 dX9_weightOf_20 (zkB hΓ rfl) rfl (zsB hΓ rfl) (zvB hΓ (by decide)) ?_
      refine z_il1 dX9_weightOf_23 ?_
      refine z_iald dX9_weightOf_24 (zkB hΓ rfl) (by omega) (by omega) ?_
      rw [hF 106 _ rfl]
      try simp only [zup_ap, zup_row, ne_eq, not_false_eq_true, zres, Int.toNat_natCast, reduceIte, Nat.reduceEqDiff, Nat.reduceAdd, and_self, and_true, true_and, and_false, false_and]
      refine z_iconst dX9_weightOf_25 (by decide) ?_
      refine z_isub dX9_weightOf_26 (by have := (hI.wts n.toNat (by omega) (by omega)).1; omega) ?_
      refine z_iret dX9_weightOf_27 rfl (Nat.le_refl _) (Nat.le_refl _) (zext_rf _) (fun hrr => ?_)
      refine zQi hQ ?_ rfl
      unfold zwt
      (repeat' split) <;> first | rfl | (exfalso; omega) | omega
    · refine z_iconst dX9_weightOf_15 (by decide) ?_
      refine z_goto (t := 27) dX9_weightOf_16 (by rfl) ?_
      refine z_iret dX9_weightOf_27 rfl (Nat.le_refl _) (Nat.le_refl _) (zext_rf _) (fun hrr => ?_)
      refine zQi hQ ?_ rfl
      unfold zwt
      (repeat' split) <;> first | rfl | (exfalso; omega) | omega
set_option maxRecDepth 4000 in
theorem X8_lk_l {l : Launch} {Γ : zC} {h0 h : zM} {Q : Option zV → zC → zM → Prop} {i m j : Int} {N : Nat} (hI : zIv Γ h0) (hF : zfr zSS h0 h) (hm0 : 0 ≤ m) (hN : N ≤ 999) (hm9 : m ≤ 200) (hK : ∀ y : Int, zG (zFn l mX8_likely 6 0 0 Γ Q) 0 0 Γ h 55 [some (zR 1), some (zI i), some (zI m), some (zI j), some (zI (N : Int)), some (zI (zlw h0 m N)), some (zI y)] []) : ∀ (mm : Nat) (k : Nat), N - k < mm → k ≤ N → zG (zFn l mX8_likely 6 0 0 Γ Q) 0 0 Γ h 29 [some (zR 1), some (zI i), some (zI m), some (zI j), some (zI (N : Int)), some (zI (zlw h0 m k)), some (zI ((k + 1 : Nat) : Int))] [] := by
  have hΓ := hI.base
  have hx2 := hI.isl
  intro mm
  induction mm with
  | zero => intros; omega
  | succ mm ih =>
    intro k hm hk
    have hb1 := zlw_b hI hm0 k
    have hb2 := zlw_b hI hm0 (k + 1)
    have hb3 := zwt_b hI (n := m + ((k + 1 : Nat) : Int)) (by omega)
    have hb4 := zlw_s h0 m k
    refine z_il6 dX8_likely_29 ?_
    refine z_il4 dX8_likely_31 ?_
    refine z_icmp_gt (t := 55) dX8_likely_33 (by rfl) (fun ht33 => ?_) (fun hf33 => ?_)
    · have ek : k = N := by omega
      subst ek
      exact hK _
    · refine z_il5 dX8_likely_36 ?_
      refine z_al0 dX8_likely_38 (by first | decide | omega | assumption) ?_
      refine z_il2 dX8_likely_39 ?_
      refine z_il6 dX8_likely_40 ?_
      refine z_iadd dX8_likely_42 (by omega) ?_
      refine zcv1 dX8_likely_43 zkX8_206 ziX8_weightOf zsX8_weightOf (zkB hΓ rfl) (by decide) rfl (Nat.le_of_ble_eq_true rfl) (by decide) (by first | decide | omega) ⟨Nat.le_refl _, Nat.le_refl _⟩ (X8_weightOf_ct hI hF (by omega) (fun _ => ?_))
      try simp only [zup_ap, zup_row, ne_eq, not_false_eq_true, zres, Int.toNat_natCast, reduceIte, Nat.reduceEqDiff, Nat.reduceAdd, and_self, and_true, true_and, and_false, false_and]
      refine z_iadd dX8_likely_46 (by omega) ?_
      refine z_is5 dX8_likely_47 (Nat.le_of_ble_eq_true rfl) rfl ?_
      refine z_ii6 dX8_likely_49 (by omega) (Nat.le_of_ble_eq_true rfl) rfl ?_
      refine z_goto (t := 29) dX8_likely_52 (by rfl) ?_
      exact ih (k + 1) (by omega) (by omega)
set_option maxRecDepth 4000 in
theorem X8_likely_ct {l : Launch} {Γ : zC} {h0 h : zM} {Q : Option zV → zC → zM → Prop} {i m j : Int} (hI : zIv Γ h0) (hF : zfr zSS h0 h) (hO : h0 89 30 = -1) (hQ : ∀ h9, zfr zSS h0 h9 → Q (some (zI (zvLikely h0 i m j))) Γ h9) : zCT l mX8_likely 6 0 0 Γ [zR 1, zI i, zI m, zI j] h Q := by
  have hΓ := hI.base
  have hx2 := hI.isl
  refine zCT_of (by decide) (Nat.le_of_ble_eq_true rfl) (ls := [some (zR 1), some (zI i), some (zI m), some (zI j), none, none, none]) rfl ?_
  refine z_al0 dX8_likely_0 (by first | decide | omega | assumption) ?_
  refine z_il1 dX8_likely_1 ?_
  refine z_il2 dX8_likely_2 ?_
  refine zcv2 dX8_likely_3 zkX8_200 ziX8_isBitBase zsX8_isBitBase (zkB hΓ rfl) (by decide) rfl (Nat.le_of_ble_eq_true rfl) (by decide) (by first | decide | omega) ⟨Nat.le_refl _, Nat.le_refl _⟩ (X8_isBitBase_ct hI hF hO (fun hg1 h2 hF2 _ => ?_) (fun hg1 h2 hF2 _ => ?_))
  · try simp only [zup_ap, zup_row, ne_eq, not_false_eq_true, zres, Int.toNat_natCast, reduceIte, Nat.reduceEqDiff, Nat.reduceAdd, and_self, and_true, true_and, and_false, false_and]
    replace hF := hF2
    refine z_if_eq (t := 13) dX8_likely_6 (by rfl) (fun _ => ?_) (fun hx => absurd hx (by decide))
    refine z_iconst dX8_likely_13 (by decide) ?_
    refine z_iret dX8_likely_14 rfl (Nat.le_refl _) (Nat.le_refl _) (zext_rf _) (fun hrr => ?_)
    have hw9 := hQ _ hF
    unfold zvLikely at hw9
    rw [if_neg (by omega)] at hw9
    exact hw9
  · try simp only [zup_ap, zup_row, ne_eq, not_false_eq_true, zres, Int.toNat_natCast, reduceIte, Nat.reduceEqDiff, Nat.reduceAdd, and_self, and_true, true_and, and_false, false_and]
    replace hF := hF2
    refine z_if_eq (t := 13) dX8_likely_6 (by rfl) (fun hx => absurd hx (by decide)) (fun _ => ?_)
    refine z_il3 dX8_likely_9 ?_
    refine z_if_ge (t := 15) dX8_likely_10 (by rfl) (fun ht10 => ?_) (fun hf10 => ?_)
    · refine z_al0 dX8_likely_15 (by first | decide | omega | assumption) ?_
      refine z_il1 dX8_likely_16 ?_
      refine z_il2 dX8_likely_17 ?_
      refine zcv2 dX8_likely_18 zkX8_203 ziX8_forbiddenBehind zsX8_forbiddenBehind (zkB hΓ rfl) (by decide) rfl (Nat.le_of_ble_eq_true rfl) (by decide) (by first | decide | omega) ⟨Nat.le_refl _, Nat.le_refl _⟩ (X8_forbiddenBehind_ct hI hF hO hg1.1 hg1.2.1 (fun h3 hF3 _ => ?_))
      try simp only [zup_ap, zup_row, ne_eq, not_false_eq_true, zres, Int.toNat_natCast, reduceIte, Nat.reduceEqDiff, Nat.reduceAdd, and_self, and_true, true_and, and_false, false_and]
      refine z_is4 dX8_likely_21 (Nat.le_of_ble_eq_true rfl) rfl ?_
      refine z_iconst dX8_likely_23 (by decide) ?_
      refine z_is5 dX8_likely_24 (Nat.le_of_ble_eq_true rfl) rfl ?_
      refine z_iconst dX8_likely_26 (by decide) ?_
      refine z_is6 dX8_likely_27 (Nat.le_of_ble_eq_true rfl) rfl ?_
      replace hF := hF3
      have hbn := zbtN_b h0 i m
      refine X8_lk_l hI hF hg1.2.1.1 hbn hg1.2.1.2 (fun y => ?_) _ 0 (Nat.lt_succ_self _) (Nat.zero_le _)
      refine z_il3 dX8_likely_55 ?_
      refine z_il4 dX8_likely_56 ?_
      refine z_icmp_ge (t := 66) dX8_likely_58 (by rfl) (fun ht58 => ?_) (fun hf58 => ?_)
      · refine z_iconst dX8_likely_66 (by decide) ?_
        refine z_iret dX8_likely_67 rfl (Nat.le_refl _) (Nat.le_refl _) (zext_rf _) (fun hrr => ?_)
        have hw9 := hQ _ hF
        unfold zvLikely at hw9
        rw [if_pos (by omega)] at hw9
        rw [if_neg (by omega)] at hw9
        exact hw9
      · refine z_il5 dX8_likely_61 ?_
        refine z_if_ne (t := 68) dX8_likely_63 (by rfl) (fun ht63 => ?_) (fun hf63 => ?_)
        · have hb1 := zlw_b hI hg1.2.1.1 (zbtN h0 i m)
          have hb3 := zwt_b hI (n := m + 1 + j) (by omega)
          refine z_al0 dX8_likely_68 (by first | decide | omega | assumption) ?_
          refine z_il2 dX8_likely_69 ?_
          refine z_iconst dX8_likely_70 (by decide) ?_
          refine z_iadd dX8_likely_71 (by omega) ?_
          refine z_il3 dX8_likely_72 ?_
          refine z_iadd dX8_likely_73 (by omega) ?_
          refine zcv1 dX8_likely_74 zkX8_206 ziX8_weightOf zsX8_weightOf (zkB hΓ rfl) (by decide) rfl (Nat.le_of_ble_eq_true rfl) (by decide) (by first | decide | omega) ⟨Nat.le_refl _, Nat.le_refl _⟩ (X8_weightOf_ct hI hF (by omega) (fun _ => ?_))
          try simp only [zup_ap, zup_row, ne_eq, not_false_eq_true, zres, Int.toNat_natCast, reduceIte, Nat.reduceEqDiff, Nat.reduceAdd, and_self, and_true, true_and, and_false, false_and]
          refine z_ldc (x := 1000000) dX8_likely_77 zqX8_209 (by decide) ?_
          refine z_imul dX8_likely_79 (by omega) ?_
          refine z_il5 dX8_likely_80 ?_
          refine z_idivp dX8_likely_82 (by omega) (by omega) ?_
          refine z_iret dX8_likely_83 rfl (Nat.le_refl _) (Nat.le_refl _) (zext_rf _) (fun hrr => ?_)
          have hw9 := hQ _ hF
          unfold zvLikely at hw9
          rw [if_pos (by omega)] at hw9
          rw [if_pos (by omega)] at hw9
          exact hw9
        · refine z_iconst dX8_likely_66 (by decide) ?_
          refine z_iret dX8_likely_67 rfl (Nat.le_refl _) (Nat.le_refl _) (zext_rf _) (fun hrr => ?_)
          have hw9 := hQ _ hF
          unfold zvLikely at hw9
          rw [if_pos (by omega)] at hw9
          rw [if_neg (by omega)] at hw9
          exact hw9
    · refine z_iconst dX8_likely_13 (by decide) ?_
      refine z_iret dX8_likely_14 rfl (Nat.le_refl _) (Nat.le_refl _) (zext_rf _) (fun hrr => ?_)
      have hw9 := hQ _ hF
      unfold zvLikely at hw9
      rw [if_neg (by omega)] at hw9
      exact hw9
set_option maxRecDepth 4000 in
theorem X9_lk_l {l : Launch} {Γ : zC} {h0 h : zM} {Q : Option zV → zC → zM → Prop} {i m j : Int} {N : Nat} (hI : zIv Γ h0) (hF : zfr zSS h0 h) (hm0 : 0 ≤ m) (hN : N ≤ 999) (hm9 : m ≤ 200) (hK : ∀ y : Int, zG (zFn l mX9_likely 1683 0 0 Γ Q) 0 0 Γ h 59 [some (zR 89), some (zI i), some (zI m), some (zI j), some (zI (N : Int)), some (zL (zlw h0 m N)), none, some (zI y)] []) : ∀ (mm : Nat) (k : Nat), N - k < mm → k ≤ N → zG (zFn l mX9_likely 1683 0 0 Γ Q) 0 0 Γ h 30 [some (zR 89), some (zI i), some (zI m), some (zI j), some (zI (N : Int)), some (zL (zlw h0 m k)), none, some (zI (k : Int))] [] := by
  have hΓ := hI.base
  have hx2 := hI.isl
  intro mm
  induction mm with
  | zero => intros; omega
  | succ mm ih =>
    intro k hm hk
    have hb1 := zlw_b hI hm0 k
    have hb2 := zlw_b hI hm0 (k + 1)
    have hb3 := zwt_b hI (n := m + ((k + 1 : Nat) : Int)) (by omega)
    have hb4 := zlw_s h0 m k
    refine z_il7 dX9_likely_30 ?_
    refine z_il4 dX9_likely_32 ?_
    refine z_icmp_ge (t := 59) dX9_likely_34 (by rfl) (fun ht34 => ?_) (fun hf34 => ?_)
    · have ek : k = N := by omega
      subst ek
      exact hK _
    · refine z_ll5 dX9_likely_37 ?_
      refine z_al0 dX9_likely_39 (by first | decide | omega | assumption) ?_
      refine z_il2 dX9_likely_40 ?_
      refine z_iconst dX9_likely_41 (by decide) ?_
      refine z_iadd dX9_likely_42 (by omega) ?_
      refine z_il7 dX9_likely_43 ?_
      refine z_iadd dX9_likely_45 (by omega) ?_
      rw [show m + 1 + (k : Int) = m + ((k + 1 : Nat) : Int) by omega]
      refine zcv1 dX9_likely_46 zkX9_374 ziX9_weightOf zsX9_weightOf (zkB hΓ rfl) (by decide) rfl (Nat.le_of_ble_eq_true rfl) (by decide) (by first | decide | omega) ⟨Nat.le_refl _, Nat.le_refl _⟩ (X9_weightOf_ct hI hF (by omega) (fun _ => ?_))
      try simp only [zup_ap, zup_row, ne_eq, not_false_eq_true, zres, Int.toNat_natCast, reduceIte, Nat.reduceEqDiff, Nat.reduceAdd, and_self, and_true, true_and, and_false, false_and]
      refine z_i2l dX9_likely_49 ?_
      refine z_ladd dX9_likely_50 (by show zo64 _; unfold zo64; omega) ?_
      refine z_ls5 dX9_likely_51 (Nat.le_of_ble_eq_true rfl) rfl ?_
      refine z_ii7 dX9_likely_53 (by omega) (Nat.le_of_ble_eq_true rfl) rfl ?_
      refine z_goto (t := 30) dX9_likely_56 (by rfl) ?_
      exact ih (k + 1) (by omega) (by omega)
set_option maxRecDepth 4000 in
theorem X9_likely_ct {l : Launch} {Γ : zC} {h0 h : zM} {Q : Option zV → zC → zM → Prop} {i m j : Int} (hI : zIv Γ h0) (hF : zfr zSS h0 h) (hQ : ∀ h9, zfr zSS h0 h9 → Q (some (zI (zvLikely h0 i m j))) Γ h9) : zCT l mX9_likely 1683 0 0 Γ [zR 89, zI i, zI m, zI j] h Q := by
  have hΓ := hI.base
  have hx2 := hI.isl
  refine zCT_of (by decide) (Nat.le_of_ble_eq_true rfl) (ls := [some (zR 89), some (zI i), some (zI m), some (zI j), none, none, none, none]) rfl ?_
  refine z_al0 dX9_likely_0 (by first | decide | omega | assumption) ?_
  refine z_iconst dX9_likely_1 (by decide) ?_
  refine z_putI zfX9_128 dX9_likely_2 (zkB hΓ rfl) rfl rfl ?_
  replace hF : zfr zSS h0 (zup h 89 0 0) := zfr_up hF rfl
  generalize zup h 89 0 0 = h at hF ⊢
  refine z_al0 dX9_likely_5 (by first | decide | omega | assumption) ?_
  refine z_il1 dX9_likely_6 ?_
  refine z_il2 dX9_likely_7 ?_
  refine zcv2 dX9_likely_8 zkX9_368 ziX9_isBit zsX9_isBit (zkB hΓ rfl) (by decide) rfl (Nat.le_of_ble_eq_true rfl) (by decide) (by first | decide | omega) ⟨Nat.le_refl _, Nat.le_refl _⟩ (X9_isBit_ct hI hF (fun hg1 h2 hF2 _ => ?_) (fun hg1 h2 hF2 _ => ?_))
  · try simp only [zup_ap, zup_row, ne_eq, not_false_eq_true, zres, Int.toNat_natCast, reduceIte, Nat.reduceEqDiff, Nat.reduceAdd, and_self, and_true, true_and, and_false, false_and]
    replace hF := hF2
    refine z_if_ne (t := 16) dX9_likely_11 (by rfl) (fun hx => absurd hx (by decide)) (fun _ => ?_)
    refine z_iconst dX9_likely_14 (by decide) ?_
    refine z_iret dX9_likely_15 rfl (Nat.le_refl _) (Nat.le_refl _) (zext_rf _) (fun hrr => ?_)
    have hw9 := hQ _ hF
    unfold zvLikely at hw9
    rw [if_neg (by omega)] at hw9
    exact hw9
  · try simp only [zup_ap, zup_row, ne_eq, not_false_eq_true, zres, Int.toNat_natCast, reduceIte, Nat.reduceEqDiff, Nat.reduceAdd, and_self, and_true, true_and, and_false, false_and]
    replace hF := hF2
    refine z_if_ne (t := 16) dX9_likely_11 (by rfl) (fun _ => ?_) (fun hx => absurd hx (by decide))
    refine z_al0 dX9_likely_16 (by first | decide | omega | assumption) ?_
    refine z_il1 dX9_likely_17 ?_
    refine z_il2 dX9_likely_18 ?_
    refine zcv2 dX9_likely_19 zkX9_371 ziX9_bitsOf zsX9_bitsOf (zkB hΓ rfl) (by decide) rfl (Nat.le_of_ble_eq_true rfl) (by decide) (by first | decide | omega) ⟨Nat.le_refl _, Nat.le_refl _⟩ (X9_bitsOf_ct hI hF hg1.1 hg1.2.1 (fun h3 hF3 _ => ?_))
    try simp only [zup_ap, zup_row, ne_eq, not_false_eq_true, zres, Int.toNat_natCast, reduceIte, Nat.reduceEqDiff, Nat.reduceAdd, and_self, and_true, true_and, and_false, false_and]
    refine z_is4 dX9_likely_22 (Nat.le_of_ble_eq_true rfl) rfl ?_
    refine z_lconst (x := 0) dX9_likely_24 (by rfl) (by decide) ?_
    refine z_ls5 dX9_likely_25 (Nat.le_of_ble_eq_true rfl) rfl ?_
    refine z_iconst dX9_likely_27 (by decide) ?_
    refine z_is7 dX9_likely_28 (Nat.le_of_ble_eq_true rfl) rfl ?_
    replace hF := hF3
    have hbn := zbtN_b h0 i m
    refine X9_lk_l hI hF hg1.2.1.1 hbn hg1.2.1.2 (fun y => ?_) _ 0 (Nat.lt_succ_self _) (Nat.zero_le _)
    refine z_il3 dX9_likely_59 ?_
    refine z_i2l dX9_likely_60 ?_
    refine z_lconst (x := 0) dX9_likely_61 (by rfl) (by decide) ?_
    have hb1 := zlw_b hI hg1.2.1.1 (zbtN h0 i m)
    refine z_il4 dX9_likely_62 ?_
    refine z_iconst dX9_likely_64 (by decide) ?_
    refine z_isub dX9_likely_65 (by omega) ?_
    refine z_i2l dX9_likely_66 ?_
    refine zcs3 dX9_likely_67 zkX9_261 ztX9_isIn (Nat.le_of_ble_eq_true rfl) (by decide) (by first | decide | omega) ⟨Nat.le_refl _, Nat.le_refl _⟩ (X9_isIn_ct (fun hg2 _ => ?_) (fun hg2 _ => ?_))
    · try simp only [zup_ap, zup_row, ne_eq, not_false_eq_true, zres, Int.toNat_natCast, reduceIte, Nat.reduceEqDiff, Nat.reduceAdd, and_self, and_true, true_and, and_false, false_and]
      refine z_if_eq (t := 80) dX9_likely_70 (by rfl) (fun _ => ?_) (fun hx => absurd hx (by decide))
      refine z_iconst dX9_likely_80 (by decide) ?_
      refine z_goto (t := 102) dX9_likely_81 (by rfl) ?_
      refine z_iret dX9_likely_102 rfl (Nat.le_refl _) (Nat.le_refl _) (zext_rf _) (fun hrr => ?_)
      first
      | (have hw9 := hQ _ hF
         unfold zvLikely at hw9
         rw [if_neg (by omega)] at hw9
         exact hw9)
      | (have hw9 := hQ _ hF
         unfold zvLikely at hw9
         rw [if_pos (by omega)] at hw9
         simp only [zcmp_0] at *
         rw [if_neg (by omega)] at hw9
         exact hw9)
      | (have hw9 := hQ _ hF
         unfold zvLikely at hw9
         rw [if_pos (by omega)] at hw9
         rw [if_pos (by omega), Int.mul_comm] at hw9
         exact hw9)
      | (by_cases ej : 0 ≤ j
         · have hw9 := hQ _ hF
           unfold zvLikely at hw9
           rw [if_pos (by omega)] at hw9
           rw [if_neg (by omega)] at hw9
           exact hw9
         · have hw9 := hQ _ hF
           unfold zvLikely at hw9
           rw [if_neg (by omega)] at hw9
           exact hw9)
    · try simp only [zup_ap, zup_row, ne_eq, not_false_eq_true, zres, Int.toNat_natCast, reduceIte, Nat.reduceEqDiff, Nat.reduceAdd, and_self, and_true, true_and, and_false, false_and]
      refine z_if_eq (t := 80) dX9_likely_70 (by rfl) (fun hx => absurd hx (by decide)) (fun _ => ?_)
      refine z_ll5 dX9_likely_73 ?_
      refine z_lconst (x := 0) dX9_likely_75 (by rfl) (by decide) ?_
      refine z_lcmp dX9_likely_76 ?_
      refine z_if_ne (t := 84) dX9_likely_77 (by rfl) (fun ht77 => ?_) (fun hf77 => ?_)
      · have hb3 := zwt_b hI (n := m + 1 + j) (by omega)
        simp only [zcmp_0] at *
        refine z_ldc2 (x := 1000000) dX9_likely_84 zqX9_175 (by decide) ?_
        refine z_al0 dX9_likely_87 (by first | decide | omega | assumption) ?_
        refine z_il2 dX9_likely_88 ?_
        refine z_iconst dX9_likely_89 (by decide) ?_
        refine z_iadd dX9_likely_90 (by omega) ?_
        refine z_il3 dX9_likely_91 ?_
        refine z_iadd dX9_likely_92 (by omega) ?_
        refine zcv1 dX9_likely_93 zkX9_374 ziX9_weightOf zsX9_weightOf (zkB hΓ rfl) (by decide) rfl (Nat.le_of_ble_eq_true rfl) (by decide) (by first | decide | omega) ⟨Nat.le_refl _, Nat.le_refl _⟩ (X9_weightOf_ct hI hF (by omega) (fun _ => ?_))
        try simp only [zup_ap, zup_row, ne_eq, not_false_eq_true, zres, Int.toNat_natCast, reduceIte, Nat.reduceEqDiff, Nat.reduceAdd, and_self, and_true, true_and, and_false, false_and]
        refine z_i2l dX9_likely_96 ?_
        refine z_lmul dX9_likely_97 (by show zo64 _; unfold zo64; omega) ?_
        refine z_ll5 dX9_likely_98 ?_
        refine z_ldivp dX9_likely_100 (by omega) (by omega) ?_
        have hb5 := Int.ediv_nonneg (a := 1000000 * zwt h0 (m + 1 + j)) (b := zlw h0 m (zbtN h0 i m)) (by omega) (by omega)
        have hb6 := Int.ediv_le_self (a := 1000000 * zwt h0 (m + 1 + j)) (zlw h0 m (zbtN h0 i m)) (by omega)
        refine z_l2i dX9_likely_101 (by show zo32 _; unfold zo32; omega) ?_
        refine z_iret dX9_likely_102 rfl (Nat.le_refl _) (Nat.le_refl _) (zext_rf _) (fun hrr => ?_)
        first
        | (have hw9 := hQ _ hF
           unfold zvLikely at hw9
           rw [if_neg (by omega)] at hw9
           exact hw9)
        | (have hw9 := hQ _ hF
           unfold zvLikely at hw9
           rw [if_pos (by omega)] at hw9
           simp only [zcmp_0] at *
           rw [if_neg (by omega)] at hw9
           exact hw9)
        | (have hw9 := hQ _ hF
           unfold zvLikely at hw9
           rw [if_pos (by omega)] at hw9
           rw [if_pos (by omega), Int.mul_comm] at hw9
           exact hw9)
        | (by_cases ej : 0 ≤ j
           · have hw9 := hQ _ hF
             unfold zvLikely at hw9
             rw [if_pos (by omega)] at hw9
             rw [if_neg (by omega)] at hw9
             exact hw9
           · have hw9 := hQ _ hF
             unfold zvLikely at hw9
             rw [if_neg (by omega)] at hw9
             exact hw9)
      · refine z_iconst dX9_likely_80 (by decide) ?_
        refine z_goto (t := 102) dX9_likely_81 (by rfl) ?_
        refine z_iret dX9_likely_102 rfl (Nat.le_refl _) (Nat.le_refl _) (zext_rf _) (fun hrr => ?_)
        first
        | (have hw9 := hQ _ hF
           unfold zvLikely at hw9
           rw [if_neg (by omega)] at hw9
           exact hw9)
        | (have hw9 := hQ _ hF
           unfold zvLikely at hw9
           rw [if_pos (by omega)] at hw9
           simp only [zcmp_0] at *
           rw [if_neg (by omega)] at hw9
           exact hw9)
        | (have hw9 := hQ _ hF
           unfold zvLikely at hw9
           rw [if_pos (by omega)] at hw9
           rw [if_pos (by omega), Int.mul_comm] at hw9
           exact hw9)
        | (by_cases ej : 0 ≤ j
           · have hw9 := hQ _ hF
             unfold zvLikely at hw9
             rw [if_pos (by omega)] at hw9
             rw [if_neg (by omega)] at hw9
             exact hw9
           · have hw9 := hQ _ hF
             unfold zvLikely at hw9
             rw [if_neg (by omega)] at hw9
             exact hw9)
theorem zks19 {Γ : zC} (hΓ : zBase Γ) {j : Nat} (h : j < 6) : zkd Γ (19 + j) = some (.inr (0, 6)) := by
  have key : ∀ k : Fin 6, zkb0 (19 + k.val) = some (.inr (0, 6)) := by decide +kernel
  exact zkB hΓ (key ⟨j, h⟩)
theorem zsr18 {Γ : zC} (hΓ : zBase Γ) {j : Nat} (h : j < 6) : zsr Γ 18 j = some (19 + j) := by
  rw [hΓ.1]; unfold zsrG
  rw [if_neg (by decide), if_pos rfl, if_pos h]
theorem zSS19 {j : Nat} (h : j < 6) (q : Nat) : zSS (19 + j) q = false := by
  rcases (show j = 0 ∨ j = 1 ∨ j = 2 ∨ j = 3 ∨ j = 4 ∨ j = 5 by omega) with rfl | rfl | rfl | rfl | rfl | rfl <;> rfl
def zvWay (h : zM) (a b : Int) : Int := if ((0 ≤ a ∧ a < h 89 22) ∧ (0 ≤ b ∧ b < h 89 22)) ∧ 0 < h 96 (6 * a + b).toNat then h 96 (6 * a + b).toNat else -1
set_option maxRecDepth 4000 in
theorem X8_way_ct {l : Launch} {Γ : zC} {h0 h : zM} {Q : Option zV → zC → zM → Prop} {a b : Int} (hI : zIv Γ h0) (hF : zfr zSS h0 h) (hQ : ∀ h9, zfr zSS h0 h9 → Q (some (zI (zvWay h0 a b))) Γ h9) : zCT l mX8_way 1 0 0 Γ [zR 1, zI a, zI b] h Q := by
  have hΓ := hI.base
  have hx2 := hI.isl
  refine zCT_of (by decide) (Nat.le_of_ble_eq_true rfl) (ls := [some (zR 1), some (zI a), some (zI b), none]) rfl ?_
  refine z_al0 dX8_way_0 (by first | decide | omega | assumption) ?_
  refine z_getR zfX8_35 dX8_way_1 (zkB hΓ rfl) rfl (zsB hΓ rfl) (zvB hΓ (by decide)) ?_
  refine z_il1 dX8_way_4 ?_
  refine zcv1 dX8_way_5 zkX8_114 ziX7_isIsle zsX7_isIsle (zkB hΓ rfl) (by decide) rfl (Nat.le_of_ble_eq_true rfl) (by decide) (by first | decide | omega) ⟨Nat.le_refl _, Nat.le_refl _⟩ (X7_isIsle_ct hI hF (fun hg1 _ => ?_) (fun hg1 _ => ?_))
  · try simp only [zup_ap, zup_row, ne_eq, not_false_eq_true, zres, Int.toNat_natCast, reduceIte, Nat.reduceEqDiff, Nat.reduceAdd, and_self, and_true, true_and, and_false, false_and]
    refine z_if_eq (t := 22) dX8_way_8 (by rfl) (fun _ => ?_) (fun hx => absurd hx (by decide))
    refine z_iconst dX8_way_22 (by decide) ?_
    refine z_iret dX8_way_23 rfl (Nat.le_refl _) (Nat.le_refl _) (zext_rf _) (fun hrr => ?_)
    have hw9 := hQ _ hF
    unfold zvWay at hw9
    first
    | (rw [if_neg (by omega)] at hw9; exact hw9)
    | (rw [show (6 * (a : Int) + (b : Int)).toNat = 6 * a + b by omega] at hw9
       first | (rw [if_pos (by omega)] at hw9; exact hw9) | (rw [if_neg (by omega)] at hw9; exact hw9))
  · try simp only [zup_ap, zup_row, ne_eq, not_false_eq_true, zres, Int.toNat_natCast, reduceIte, Nat.reduceEqDiff, Nat.reduceAdd, and_self, and_true, true_and, and_false, false_and]
    refine z_if_eq (t := 22) dX8_way_8 (by rfl) (fun hx => absurd hx (by decide)) (fun _ => ?_)
    refine z_al0 dX8_way_11 (by first | decide | omega | assumption) ?_
    refine z_getR zfX8_35 dX8_way_12 (zkB hΓ rfl) rfl (zsB hΓ rfl) (zvB hΓ (by decide)) ?_
    refine z_il2 dX8_way_15 ?_
    refine zcv1 dX8_way_16 zkX8_114 ziX7_isIsle zsX7_isIsle (zkB hΓ rfl) (by decide) rfl (Nat.le_of_ble_eq_true rfl) (by decide) (by first | decide | omega) ⟨Nat.le_refl _, Nat.le_refl _⟩ (X7_isIsle_ct hI hF (fun hg2 _ => ?_) (fun hg2 _ => ?_))
    · try simp only [zup_ap, zup_row, ne_eq, not_false_eq_true, zres, Int.toNat_natCast, reduceIte, Nat.reduceEqDiff, Nat.reduceAdd, and_self, and_true, true_and, and_false, false_and]
      refine z_if_ne (t := 24) dX8_way_19 (by rfl) (fun hx => absurd hx (by decide)) (fun _ => ?_)
      refine z_iconst dX8_way_22 (by decide) ?_
      refine z_iret dX8_way_23 rfl (Nat.le_refl _) (Nat.le_refl _) (zext_rf _) (fun hrr => ?_)
      have hw9 := hQ _ hF
      unfold zvWay at hw9
      first
      | (rw [if_neg (by omega)] at hw9; exact hw9)
      | (rw [show (6 * (a : Int) + (b : Int)).toNat = 6 * a + b by omega] at hw9
         first | (rw [if_pos (by omega)] at hw9; exact hw9) | (rw [if_neg (by omega)] at hw9; exact hw9))
    · try simp only [zup_ap, zup_row, ne_eq, not_false_eq_true, zres, Int.toNat_natCast, reduceIte, Nat.reduceEqDiff, Nat.reduceAdd, and_self, and_true, true_and, and_false, false_and]
      refine z_if_ne (t := 24) dX8_way_19 (by rfl) (fun _ => ?_) (fun hx => absurd hx (by decide))
      obtain ⟨a, rfl⟩ := Int.eq_ofNat_of_zero_le (show 0 ≤ a by omega)
      obtain ⟨b, rfl⟩ := Int.eq_ofNat_of_zero_le (show 0 ≤ b by omega)
      have hd9 := hI.day a b (by omega) (by omega)
      refine z_al0 dX8_way_24 (by first | decide | omega | assumption) ?_
      refine z_getR zfX8_35 dX8_way_25 (zkB hΓ rfl) rfl (zsB hΓ rfl) (zvB hΓ (by decide)) ?_
      refine z_getR zfX8_132 dX8_way_28 (zkB hΓ rfl) rfl (zsB hΓ rfl) (zvB hΓ (by decide)) ?_
      refine z_getR zfX8_135 dX8_way_31 (zkB hΓ rfl) rfl (zsB hΓ rfl) (zvB hΓ (by decide)) ?_
      refine z_il1 dX8_way_34 ?_
      refine z_aald dX8_way_35 (zkB hΓ rfl) (Or.inl rfl) (by omega) (by omega) (q := 19 + a) (by rw [show (a : Int).toNat = a from Int.toNat_natCast a, zsr18 hΓ (by omega)]; rfl) (fun _ => zvB hΓ (Or.inl (by omega))) ?_
      refine z_il2 dX8_way_36 ?_
      refine z_iald dX8_way_37 (zks19 hΓ (by omega)) (by omega) (by omega) ?_
      try simp only [zup_ap, zup_row, ne_eq, not_false_eq_true, zres, Int.toNat_natCast, reduceIte, Nat.reduceEqDiff, Nat.reduceAdd, and_self, and_true, true_and, and_false, false_and]
      try simp only [Int.toNat_natCast]
      rw [hF (19 + a) _ (zSS19 (by omega) _), hd9.1]
      refine z_is3 dX8_way_38 (Nat.le_of_ble_eq_true rfl) rfl ?_
      refine z_il3 dX8_way_39 ?_
      refine z_if_le (t := 47) dX8_way_40 (by rfl) (fun ht40 => ?_) (fun hf40 => ?_)
      · refine z_iconst dX8_way_47 (by decide) ?_
        refine z_iret dX8_way_48 rfl (Nat.le_refl _) (Nat.le_refl _) (zext_rf _) (fun hrr => ?_)
        have hw9 := hQ _ hF
        unfold zvWay at hw9
        first
        | (rw [if_neg (by omega)] at hw9; exact hw9)
        | (rw [show (6 * (a : Int) + (b : Int)).toNat = 6 * a + b by omega] at hw9
           first | (rw [if_pos (by omega)] at hw9; exact hw9) | (rw [if_neg (by omega)] at hw9; exact hw9))
      · refine z_il3 dX8_way_43 ?_
        refine z_goto (t := 48) dX8_way_44 (by rfl) ?_
        refine z_iret dX8_way_48 rfl (Nat.le_refl _) (Nat.le_refl _) (zext_rf _) (fun hrr => ?_)
        have hw9 := hQ _ hF
        unfold zvWay at hw9
        first
        | (rw [if_neg (by omega)] at hw9; exact hw9)
        | (rw [show (6 * (a : Int) + (b : Int)).toNat = 6 * a + b by omega] at hw9
           first | (rw [if_pos (by omega)] at hw9; exact hw9) | (rw [if_neg (by omega)] at hw9; exact hw9))
set_option maxRecDepth 4000 in
theorem X9_way_ct {l : Launch} {Γ : zC} {h0 h : zM} {Q : Option zV → zC → zM → Prop} {a b : Int} (hI : zIv Γ h0) (hF : zfr zSS h0 h) (hQ : ∀ h9, zfr zSS h0 h9 → Q (some (zI (zvWay h0 a b))) Γ h9) : zCT l mX9_way 1 0 0 Γ [zR 89, zI a, zI b] h Q := by
  have hΓ := hI.base
  have hx2 := hI.isl
  refine zCT_of (by decide) (Nat.le_of_ble_eq_true rfl) (ls := [some (zR 89), some (zI a), some (zI b)]) rfl ?_
  refine z_al0 dX9_way_0 (by first | decide | omega | assumption) ?_
  refine z_iconst dX9_way_1 (by decide) ?_
  refine z_putI zfX9_128 dX9_way_2 (zkB hΓ rfl) rfl rfl ?_
  replace hF : zfr zSS h0 (zup h 89 0 0) := zfr_up hF rfl
  generalize zup h 89 0 0 = h at hF ⊢
  refine z_al0 dX9_way_5 (by first | decide | omega | assumption) ?_
  refine z_il1 dX9_way_6 ?_
  refine zcv1 dX9_way_7 zkX9_299 ziX9_isIsle zsX9_isIsle (zkB hΓ rfl) (by decide) rfl (Nat.le_of_ble_eq_true rfl) (by decide) (by first | decide | omega) ⟨Nat.le_refl _, Nat.le_refl _⟩ (X9_isIsle_ct hI hF (fun hg1 _ => ?_) (fun hg1 _ => ?_))
  · try simp only [zup_ap, zup_row, ne_eq, not_false_eq_true, zres, Int.toNat_natCast, reduceIte, Nat.reduceEqDiff, Nat.reduceAdd, and_self, and_true, true_and, and_false, false_and]
    refine z_if_eq (t := 49) dX9_way_10 (by rfl) (fun _ => ?_) (fun hx => absurd hx (by decide))
    refine z_iconst dX9_way_49 (by decide) ?_
    refine z_iret dX9_way_50 rfl (Nat.le_refl _) (Nat.le_refl _) (zext_rf _) (fun hrr => ?_)
    have hw9 := hQ _ hF
    unfold zvWay at hw9
    first
    | (rw [if_neg (by omega)] at hw9; exact hw9)
    | (rw [if_pos (by omega)] at hw9; exact hw9)
  · try simp only [zup_ap, zup_row, ne_eq, not_false_eq_true, zres, Int.toNat_natCast, reduceIte, Nat.reduceEqDiff, Nat.reduceAdd, and_self, and_true, true_and, and_false, false_and]
    refine z_if_eq (t := 49) dX9_way_10 (by rfl) (fun hx => absurd hx (by decide)) (fun _ => ?_)
    refine z_al0 dX9_way_13 (by first | decide | omega | assumption) ?_
    refine z_il2 dX9_way_14 ?_
    refine zcv1 dX9_way_15 zkX9_299 ziX9_isIsle zsX9_isIsle (zkB hΓ rfl) (by decide) rfl (Nat.le_of_ble_eq_true rfl) (by decide) (by first | decide | omega) ⟨Nat.le_refl _, Nat.le_refl _⟩ (X9_isIsle_ct hI hF (fun hg2 _ => ?_) (fun hg2 _ => ?_))
    · try simp only [zup_ap, zup_row, ne_eq, not_false_eq_true, zres, Int.toNat_natCast, reduceIte, Nat.reduceEqDiff, Nat.reduceAdd, and_self, and_true, true_and, and_false, false_and]
      refine z_if_eq (t := 49) dX9_way_18 (by rfl) (fun _ => ?_) (fun hx => absurd hx (by decide))
      refine z_iconst dX9_way_49 (by decide) ?_
      refine z_iret dX9_way_50 rfl (Nat.le_refl _) (Nat.le_refl _) (zext_rf _) (fun hrr => ?_)
      have hw9 := hQ _ hF
      unfold zvWay at hw9
      first
      | (rw [if_neg (by omega)] at hw9; exact hw9)
      | (rw [if_pos (by omega)] at hw9; exact hw9)
    · try simp only [zup_ap, zup_row, ne_eq, not_false_eq_true, zres, Int.toNat_natCast, reduceIte, Nat.reduceEqDiff, Nat.reduceAdd, and_self, and_true, true_and, and_false, false_and]
      refine z_if_eq (t := 49) dX9_way_18 (by rfl) (fun hx => absurd hx (by decide)) (fun _ => ?_)
      refine z_al0 dX9_way_21 (by first | decide | omega | assumption) ?_
      refine z_getR zfX9_43 dX9_way_22 (zkB hΓ rfl) rfl (zsB hΓ rfl) (zvB hΓ (by decide)) ?_
      refine z_bipush (x := 6) dX9_way_25 (by rfl) (by decide) ?_
      refine z_il1 dX9_way_27 ?_
      refine z_imul dX9_way_28 (by omega) ?_
      refine z_il2 dX9_way_29 ?_
      refine z_iadd dX9_way_30 (by omega) ?_
      refine z_iald dX9_way_31 (zkB hΓ rfl) (by omega) (by omega) ?_
      rw [hF 96 _ rfl]
      try simp only [zup_ap, zup_row, ne_eq, not_false_eq_true, zres, Int.toNat_natCast, reduceIte, Nat.reduceEqDiff, Nat.reduceAdd, and_self, and_true, true_and, and_false, false_and]
      refine z_if_le (t := 49) dX9_way_32 (by rfl) (fun ht32 => ?_) (fun hf32 => ?_)
      · refine z_iconst dX9_way_49 (by decide) ?_
        refine z_iret dX9_way_50 rfl (Nat.le_refl _) (Nat.le_refl _) (zext_rf _) (fun hrr => ?_)
        have hw9 := hQ _ hF
        unfold zvWay at hw9
        first
        | (rw [if_neg (by omega)] at hw9; exact hw9)
        | (rw [if_pos (by omega)] at hw9; exact hw9)
      · refine z_al0 dX9_way_35 (by first | decide | omega | assumption) ?_
        refine z_getR zfX9_43 dX9_way_36 (zkB hΓ rfl) rfl (zsB hΓ rfl) (zvB hΓ (by decide)) ?_
        refine z_bipush (x := 6) dX9_way_39 (by rfl) (by decide) ?_
        refine z_il1 dX9_way_41 ?_
        refine z_imul dX9_way_42 (by omega) ?_
        refine z_il2 dX9_way_43 ?_
        refine z_iadd dX9_way_44 (by omega) ?_
        refine z_iald dX9_way_45 (zkB hΓ rfl) (by omega) (by omega) ?_
        rw [hF 96 _ rfl]
        try simp only [zup_ap, zup_row, ne_eq, not_false_eq_true, zres, Int.toNat_natCast, reduceIte, Nat.reduceEqDiff, Nat.reduceAdd, and_self, and_true, true_and, and_false, false_and]
        refine z_goto (t := 50) dX9_way_46 (by rfl) ?_
        refine z_iret dX9_way_50 rfl (Nat.le_refl _) (Nat.le_refl _) (zext_rf _) (fun hrr => ?_)
        have hw9 := hQ _ hF
        unfold zvWay at hw9
        first
        | (rw [if_neg (by omega)] at hw9; exact hw9)
        | (rw [if_pos (by omega)] at hw9; exact hw9)
def zvForb (h : zM) (i n d : Int) : Int := if (0 ≤ i ∧ i < h 89 22) ∧ (0 ≤ n ∧ n ≤ 999) ∧ (0 ≤ d ∧ d ≤ 99) then zFo h i n d else -1
set_option maxRecDepth 4000 in
theorem X8_forbidden_ct {l : Launch} {Γ : zC} {h0 h : zM} {Q : Option zV → zC → zM → Prop} {i n d : Int} (hI : zIv Γ h0) (hF : zfr zSS h0 h) (hO : h0 89 30 = -1) (hQ : ∀ h9, zfr zSS h0 h9 → Q (some (zI (zvForb h0 i n d))) Γ h9) : zCT l mX8_forbidden 4 0 0 Γ [zR 1, zI i, zI n, zI d] h Q := by
  have hΓ := hI.base
  have hx2 := hI.isl
  refine zCT_of (by decide) (Nat.le_of_ble_eq_true rfl) (ls := [some (zR 1), some (zI i), some (zI n), some (zI d)]) rfl ?_
  refine z_al0 dX8_forbidden_0 (by first | decide | omega | assumption) ?_
  refine z_getR zfX8_35 dX8_forbidden_1 (zkB hΓ rfl) rfl (zsB hΓ rfl) (zvB hΓ (by decide)) ?_
  refine z_il1 dX8_forbidden_4 ?_
  refine zcv1 dX8_forbidden_5 zkX8_114 ziX7_isIsle zsX7_isIsle (zkB hΓ rfl) (by decide) rfl (Nat.le_of_ble_eq_true rfl) (by decide) (by first | decide | omega) ⟨Nat.le_refl _, Nat.le_refl _⟩ (X7_isIsle_ct hI hF (fun hg1 _ => ?_) (fun hg1 _ => ?_))
  · try simp only [zup_ap, zup_row, ne_eq, not_false_eq_true, zres, Int.toNat_natCast, reduceIte, Nat.reduceEqDiff, Nat.reduceAdd, and_self, and_true, true_and, and_false, false_and]
    refine z_if_eq (t := 25) dX8_forbidden_8 (by rfl) (fun _ => ?_) (fun hx => absurd hx (by decide))
    refine z_iconst dX8_forbidden_25 (by decide) ?_
    refine z_iret dX8_forbidden_26 rfl (Nat.le_refl _) (Nat.le_refl _) (zext_rf _) (fun hrr => ?_)
    have hw9 := hQ _ hF
    unfold zvForb at hw9
    rw [if_neg (by omega)] at hw9
    exact hw9
  · try simp only [zup_ap, zup_row, ne_eq, not_false_eq_true, zres, Int.toNat_natCast, reduceIte, Nat.reduceEqDiff, Nat.reduceAdd, and_self, and_true, true_and, and_false, false_and]
    refine z_if_eq (t := 25) dX8_forbidden_8 (by rfl) (fun hx => absurd hx (by decide)) (fun _ => ?_)
    refine z_il2 dX8_forbidden_11 ?_
    refine zcs1 dX8_forbidden_12 zkX8_142 ztX8_isNumber (Nat.le_of_ble_eq_true rfl) (by decide) (by first | decide | omega) ⟨Nat.le_refl _, Nat.le_refl _⟩ (X8_isNumber_ct (fun hg2 _ => ?_) (fun hg2 _ => ?_))
    · try simp only [zup_ap, zup_row, ne_eq, not_false_eq_true, zres, Int.toNat_natCast, reduceIte, Nat.reduceEqDiff, Nat.reduceAdd, and_self, and_true, true_and, and_false, false_and]
      refine z_if_eq (t := 25) dX8_forbidden_15 (by rfl) (fun _ => ?_) (fun hx => absurd hx (by decide))
      refine z_iconst dX8_forbidden_25 (by decide) ?_
      refine z_iret dX8_forbidden_26 rfl (Nat.le_refl _) (Nat.le_refl _) (zext_rf _) (fun hrr => ?_)
      have hw9 := hQ _ hF
      unfold zvForb at hw9
      rw [if_neg (by omega)] at hw9
      exact hw9
    · try simp only [zup_ap, zup_row, ne_eq, not_false_eq_true, zres, Int.toNat_natCast, reduceIte, Nat.reduceEqDiff, Nat.reduceAdd, and_self, and_true, true_and, and_false, false_and]
      refine z_if_eq (t := 25) dX8_forbidden_15 (by rfl) (fun hx => absurd hx (by decide)) (fun _ => ?_)
      refine z_il3 dX8_forbidden_18 ?_
      refine zcs1 dX8_forbidden_19 zkX8_118 ztX8_isDay (Nat.le_of_ble_eq_true rfl) (by decide) (by first | decide | omega) ⟨Nat.le_refl _, Nat.le_refl _⟩ (X8_isDay_ct (fun hg3 _ => ?_) (fun hg3 _ => ?_))
      · try simp only [zup_ap, zup_row, ne_eq, not_false_eq_true, zres, Int.toNat_natCast, reduceIte, Nat.reduceEqDiff, Nat.reduceAdd, and_self, and_true, true_and, and_false, false_and]
        refine z_if_ne (t := 27) dX8_forbidden_22 (by rfl) (fun hx => absurd hx (by decide)) (fun _ => ?_)
        refine z_iconst dX8_forbidden_25 (by decide) ?_
        refine z_iret dX8_forbidden_26 rfl (Nat.le_refl _) (Nat.le_refl _) (zext_rf _) (fun hrr => ?_)
        have hw9 := hQ _ hF
        unfold zvForb at hw9
        rw [if_neg (by omega)] at hw9
        exact hw9
      · try simp only [zup_ap, zup_row, ne_eq, not_false_eq_true, zres, Int.toNat_natCast, reduceIte, Nat.reduceEqDiff, Nat.reduceAdd, and_self, and_true, true_and, and_false, false_and]
        refine z_if_ne (t := 27) dX8_forbidden_22 (by rfl) (fun _ => ?_) (fun hx => absurd hx (by decide))
        refine z_al0 dX8_forbidden_27 (by first | decide | omega | assumption) ?_
        refine z_getR zfX8_35 dX8_forbidden_28 (zkB hΓ rfl) rfl (zsB hΓ rfl) (zvB hΓ (by decide)) ?_
        refine z_il1 dX8_forbidden_31 ?_
        refine z_il2 dX8_forbidden_32 ?_
        refine z_il3 dX8_forbidden_33 ?_
        refine zcv3 dX8_forbidden_34 zkX8_145 ziX7_forbids zsX7_forbids (zkB hΓ rfl) (by decide) rfl (Nat.le_of_ble_eq_true rfl) (by decide) (by first | decide | omega) ⟨Nat.le_refl _, Nat.le_refl _⟩ (X7_forbids_ct hI hF hO hg1 (by omega) (fun h9 hK9 _ => ?_))
        try simp only [zup_ap, zup_row, ne_eq, not_false_eq_true, zres, Int.toNat_natCast, reduceIte, Nat.reduceEqDiff, Nat.reduceAdd, and_self, and_true, true_and, and_false, false_and]
        refine z_if_eq (t := 44) dX8_forbidden_37 (by rfl) (fun ht37 => ?_) (fun hf37 => ?_)
        · refine z_iconst dX8_forbidden_44 (by decide) ?_
          refine z_iret dX8_forbidden_45 rfl (Nat.le_refl _) (Nat.le_refl _) (zext_rf _) (fun hrr => ?_)
          have h01 := zFo_01 h0 i n d
          have hw9 := hQ _ (zfr_K hF hK9)
          unfold zvForb at hw9
          rw [if_pos (by omega)] at hw9
          first
          | (rw [show zFo h0 i n d = 1 by omega] at hw9; exact hw9)
          | (rw [show zFo h0 i n d = 0 by omega] at hw9; exact hw9)
        · refine z_iconst dX8_forbidden_40 (by decide) ?_
          refine z_goto (t := 45) dX8_forbidden_41 (by rfl) ?_
          refine z_iret dX8_forbidden_45 rfl (Nat.le_refl _) (Nat.le_refl _) (zext_rf _) (fun hrr => ?_)
          have h01 := zFo_01 h0 i n d
          have hw9 := hQ _ (zfr_K hF hK9)
          unfold zvForb at hw9
          rw [if_pos (by omega)] at hw9
          first
          | (rw [show zFo h0 i n d = 1 by omega] at hw9; exact hw9)
          | (rw [show zFo h0 i n d = 0 by omega] at hw9; exact hw9)
set_option maxRecDepth 4000 in
theorem X9_forbidden_ct {l : Launch} {Γ : zC} {h0 h : zM} {Q : Option zV → zC → zM → Prop} {i n d : Int} (hI : zIv Γ h0) (hF : zfr zSS h0 h) (hQ : ∀ h9, zfr zSS h0 h9 → Q (some (zI (zvForb h0 i n d))) Γ h9) : zCT l mX9_forbidden 1682 0 0 Γ [zR 89, zI i, zI n, zI d] h Q := by
  have hΓ := hI.base
  have hx2 := hI.isl
  refine zCT_of (by decide) (Nat.le_of_ble_eq_true rfl) (ls := [some (zR 89), some (zI i), some (zI n), some (zI d)]) rfl ?_
  refine z_al0 dX9_forbidden_0 (by first | decide | omega | assumption) ?_
  refine z_iconst dX9_forbidden_1 (by decide) ?_
  refine z_putI zfX9_128 dX9_forbidden_2 (zkB hΓ rfl) rfl rfl ?_
  replace hF : zfr zSS h0 (zup h 89 0 0) := zfr_up hF rfl
  generalize zup h 89 0 0 = h at hF ⊢
  refine z_al0 dX9_forbidden_5 (by first | decide | omega | assumption) ?_
  refine z_il1 dX9_forbidden_6 ?_
  refine zcv1 dX9_forbidden_7 zkX9_299 ziX9_isIsle zsX9_isIsle (zkB hΓ rfl) (by decide) rfl (Nat.le_of_ble_eq_true rfl) (by decide) (by first | decide | omega) ⟨Nat.le_refl _, Nat.le_refl _⟩ (X9_isIsle_ct hI hF (fun hg1 _ => ?_) (fun hg1 _ => ?_))
  · try simp only [zup_ap, zup_row, ne_eq, not_false_eq_true, zres, Int.toNat_natCast, reduceIte, Nat.reduceEqDiff, Nat.reduceAdd, and_self, and_true, true_and, and_false, false_and]
    refine z_if_eq (t := 32) dX9_forbidden_10 (by rfl) (fun _ => ?_) (fun hx => absurd hx (by decide))
    refine z_iconst dX9_forbidden_32 (by decide) ?_
    refine z_goto (t := 51) dX9_forbidden_33 (by rfl) ?_
    refine z_iret dX9_forbidden_51 rfl (Nat.le_refl _) (Nat.le_refl _) (zext_rf _) (fun hrr => ?_)
    first
    | (have hw9 := hQ _ hF
       unfold zvForb at hw9
       rw [if_neg (by omega)] at hw9
       exact hw9)
    | (have h01 := zFo_01 h0 i n d
       have hw9 := hQ _ (zfr_M hF hM9)
       unfold zvForb at hw9
       rw [if_pos (by omega)] at hw9
       first
       | (rw [show zFo h0 i n d = 1 by omega] at hw9; exact hw9)
       | (rw [show zFo h0 i n d = 0 by omega] at hw9; exact hw9))
  · try simp only [zup_ap, zup_row, ne_eq, not_false_eq_true, zres, Int.toNat_natCast, reduceIte, Nat.reduceEqDiff, Nat.reduceAdd, and_self, and_true, true_and, and_false, false_and]
    refine z_if_eq (t := 32) dX9_forbidden_10 (by rfl) (fun hx => absurd hx (by decide)) (fun _ => ?_)
    refine z_il2 dX9_forbidden_13 ?_
    refine z_i2l dX9_forbidden_14 ?_
    refine z_lconst (x := 0) dX9_forbidden_15 (by rfl) (by decide) ?_
    refine z_ldc2 (x := 999) dX9_forbidden_16 zqX9_309 (by decide) ?_
    refine zcs3 dX9_forbidden_19 zkX9_261 ztX9_isIn (Nat.le_of_ble_eq_true rfl) (by decide) (by first | decide | omega) ⟨Nat.le_refl _, Nat.le_refl _⟩ (X9_isIn_ct (fun hg2 _ => ?_) (fun hg2 _ => ?_))
    · try simp only [zup_ap, zup_row, ne_eq, not_false_eq_true, zres, Int.toNat_natCast, reduceIte, Nat.reduceEqDiff, Nat.reduceAdd, and_self, and_true, true_and, and_false, false_and]
      refine z_if_eq (t := 32) dX9_forbidden_22 (by rfl) (fun _ => ?_) (fun hx => absurd hx (by decide))
      refine z_iconst dX9_forbidden_32 (by decide) ?_
      refine z_goto (t := 51) dX9_forbidden_33 (by rfl) ?_
      refine z_iret dX9_forbidden_51 rfl (Nat.le_refl _) (Nat.le_refl _) (zext_rf _) (fun hrr => ?_)
      first
      | (have hw9 := hQ _ hF
         unfold zvForb at hw9
         rw [if_neg (by omega)] at hw9
         exact hw9)
      | (have h01 := zFo_01 h0 i n d
         have hw9 := hQ _ (zfr_M hF hM9)
         unfold zvForb at hw9
         rw [if_pos (by omega)] at hw9
         first
         | (rw [show zFo h0 i n d = 1 by omega] at hw9; exact hw9)
         | (rw [show zFo h0 i n d = 0 by omega] at hw9; exact hw9))
    · try simp only [zup_ap, zup_row, ne_eq, not_false_eq_true, zres, Int.toNat_natCast, reduceIte, Nat.reduceEqDiff, Nat.reduceAdd, and_self, and_true, true_and, and_false, false_and]
      refine z_if_eq (t := 32) dX9_forbidden_22 (by rfl) (fun hx => absurd hx (by decide)) (fun _ => ?_)
      refine z_il3 dX9_forbidden_25 ?_
      refine zcs1 dX9_forbidden_26 zkX9_302 ztX9_isDay (Nat.le_of_ble_eq_true rfl) (by decide) (by first | decide | omega) ⟨Nat.le_refl _, Nat.le_refl _⟩ (X9_isDay_ct (fun hg3 _ => ?_) (fun hg3 _ => ?_))
      · try simp only [zup_ap, zup_row, ne_eq, not_false_eq_true, zres, Int.toNat_natCast, reduceIte, Nat.reduceEqDiff, Nat.reduceAdd, and_self, and_true, true_and, and_false, false_and]
        refine z_if_ne (t := 36) dX9_forbidden_29 (by rfl) (fun hx => absurd hx (by decide)) (fun _ => ?_)
        refine z_iconst dX9_forbidden_32 (by decide) ?_
        refine z_goto (t := 51) dX9_forbidden_33 (by rfl) ?_
        refine z_iret dX9_forbidden_51 rfl (Nat.le_refl _) (Nat.le_refl _) (zext_rf _) (fun hrr => ?_)
        first
        | (have hw9 := hQ _ hF
           unfold zvForb at hw9
           rw [if_neg (by omega)] at hw9
           exact hw9)
        | (have h01 := zFo_01 h0 i n d
           have hw9 := hQ _ (zfr_M hF hM9)
           unfold zvForb at hw9
           rw [if_pos (by omega)] at hw9
           first
           | (rw [show zFo h0 i n d = 1 by omega] at hw9; exact hw9)
           | (rw [show zFo h0 i n d = 0 by omega] at hw9; exact hw9))
      · try simp only [zup_ap, zup_row, ne_eq, not_false_eq_true, zres, Int.toNat_natCast, reduceIte, Nat.reduceEqDiff, Nat.reduceAdd, and_self, and_true, true_and, and_false, false_and]
        refine z_if_ne (t := 36) dX9_forbidden_29 (by rfl) (fun _ => ?_) (fun hx => absurd hx (by decide))
        refine z_al0 dX9_forbidden_36 (by first | decide | omega | assumption) ?_
        refine z_il1 dX9_forbidden_37 ?_
        refine z_il2 dX9_forbidden_38 ?_
        refine z_il3 dX9_forbidden_39 ?_
        refine zcv3 dX9_forbidden_40 zkX9_311 ziX9_isForbidden zsX9_isForbidden (zkB hΓ rfl) (by decide) rfl (Nat.le_of_ble_eq_true rfl) (by decide) (by first | decide | omega) ⟨Nat.le_refl _, Nat.le_refl _⟩ (X9_isForbidden_ct hI hF hg1 (by omega) (fun h9 hM9 _ => ?_))
        try simp only [zup_ap, zup_row, ne_eq, not_false_eq_true, zres, Int.toNat_natCast, reduceIte, Nat.reduceEqDiff, Nat.reduceAdd, and_self, and_true, true_and, and_false, false_and]
        refine z_if_eq (t := 50) dX9_forbidden_43 (by rfl) (fun ht43 => ?_) (fun hf43 => ?_)
        · refine z_iconst dX9_forbidden_50 (by decide) ?_
          refine z_iret dX9_forbidden_51 rfl (Nat.le_refl _) (Nat.le_refl _) (zext_rf _) (fun hrr => ?_)
          first
          | (have hw9 := hQ _ hF
             unfold zvForb at hw9
             rw [if_neg (by omega)] at hw9
             exact hw9)
          | (have h01 := zFo_01 h0 i n d
             have hw9 := hQ _ (zfr_M hF hM9)
             unfold zvForb at hw9
             rw [if_pos (by omega)] at hw9
             first
             | (rw [show zFo h0 i n d = 1 by omega] at hw9; exact hw9)
             | (rw [show zFo h0 i n d = 0 by omega] at hw9; exact hw9))
        · refine z_iconst dX9_forbidden_46 (by decide) ?_
          refine z_goto (t := 51) dX9_forbidden_47 (by rfl) ?_
          refine z_iret dX9_forbidden_51 rfl (Nat.le_refl _) (Nat.le_refl _) (zext_rf _) (fun hrr => ?_)
          first
          | (have hw9 := hQ _ hF
             unfold zvForb at hw9
             rw [if_neg (by omega)] at hw9
             exact hw9)
          | (have h01 := zFo_01 h0 i n d
             have hw9 := hQ _ (zfr_M hF hM9)
             unfold zvForb at hw9
             rw [if_pos (by omega)] at hw9
             first
             | (rw [show zFo h0 i n d = 1 by omega] at hw9; exact hw9)
             | (rw [show zFo h0 i n d = 0 by omega] at hw9; exact hw9))
def zvCount (h : zM) (k : Int) : Int := if k = 0 then h 89 22 else if k = 1 then h 89 7 else if k = 2 then h 89 6 else if k = 3 then h 89 29 else if k = 4 then h 89 28 else if k = 5 then h 89 51 else if k = 6 then h 89 39 else if k = 7 then h 89 32 else -1000000
set_option maxRecDepth 4000 in
theorem X8_count_ct {l : Launch} {Γ : zC} {h0 h : zM} {Q : Option zV → zC → zM → Prop} {k : Int} (hI : zIv Γ h0) (hF : zfr zSS h0 h) (hQ : ∀ h9, zfr zSS h0 h9 → Q (some (zI (zvCount h0 k))) Γ h9) : zCT l mX8_count 0 0 0 Γ [zR 1, zI k] h Q := by
  have hΓ := hI.base
  have hx2 := hI.isl
  refine zCT_of (by decide) (Nat.le_of_ble_eq_true rfl) (ls := [some (zR 1), some (zI k)]) rfl ?_
  refine z_il1 dX8_count_0 ?_
  have hk9 : (k < 0 ∨ 7 < k) ∨ (k = 0 ∨ k = 1 ∨ k = 2 ∨ k = 3 ∨ k = 4 ∨ k = 5 ∨ k = 6 ∨ k = 7) := by omega
  rcases hk9 with hk | rfl | rfl | rfl | rfl | rfl | rfl | rfl | rfl
  · refine z_tabOut (t := 121) dX8_count_1 (by omega) (by rfl) ?_
    refine z_ldc (x := -1000000) dX8_count_121 zqX8_228 (by decide) ?_
    refine z_iret dX8_count_123 rfl (Nat.le_refl _) (Nat.le_refl _) (zext_rf _) (fun hrr => ?_)
    have hw9 := hQ _ hF
    unfold zvCount at hw9
    first
    | (simp only [reduceIte, Int.reduceEq, show ¬ (1 : Int) = 0 by decide] at hw9; exact hw9)
    | exact hw9
    | (rw [if_neg (by omega), if_neg (by omega), if_neg (by omega), if_neg (by omega), if_neg (by omega), if_neg (by omega), if_neg (by omega), if_neg (by omega)] at hw9; exact hw9)
  · refine z_tabIn (t := 48) dX8_count_1 (by decide) (by decide) (by rfl) (by rfl) ?_
    refine z_al0 dX8_count_48 (by first | decide | omega | assumption) ?_
    refine z_getR zfX8_35 dX8_count_49 (zkB hΓ rfl) rfl (zsB hΓ rfl) (zvB hΓ (by decide)) ?_
    refine z_getR zfX8_132 dX8_count_52 (zkB hΓ rfl) rfl (zsB hΓ rfl) (zvB hΓ (by decide)) ?_
    refine z_getI zfX8_210 dX8_count_55 (zkB hΓ rfl) rfl ?_
    rw [hF 16 0 rfl, hI.cisl]
    try simp only [zup_ap, zup_row, ne_eq, not_false_eq_true, zres, Int.toNat_natCast, reduceIte, Nat.reduceEqDiff, Nat.reduceAdd, and_self, and_true, true_and, and_false, false_and]
    refine z_iret dX8_count_58 rfl (Nat.le_refl _) (Nat.le_refl _) (zext_rf _) (fun hrr => ?_)
    have hw9 := hQ _ hF
    unfold zvCount at hw9
    first
    | (simp only [reduceIte, Int.reduceEq, show ¬ (1 : Int) = 0 by decide] at hw9; exact hw9)
    | exact hw9
    | (rw [if_neg (by omega), if_neg (by omega), if_neg (by omega), if_neg (by omega), if_neg (by omega), if_neg (by omega), if_neg (by omega), if_neg (by omega)] at hw9; exact hw9)
  · refine z_tabIn (t := 59) dX8_count_1 (by decide) (by decide) (by rfl) (by rfl) ?_
    refine z_al0 dX8_count_59 (by first | decide | omega | assumption) ?_
    refine z_getR zfX8_35 dX8_count_60 (zkB hΓ rfl) rfl (zsB hΓ rfl) (zvB hΓ (by decide)) ?_
    refine z_getI zfX8_108 dX8_count_63 (zkB hΓ rfl) rfl ?_
    rw [hF 15 3 rfl, hI.cus.1]
    try simp only [zup_ap, zup_row, ne_eq, not_false_eq_true, zres, Int.toNat_natCast, reduceIte, Nat.reduceEqDiff, Nat.reduceAdd, and_self, and_true, true_and, and_false, false_and]
    refine z_iret dX8_count_66 rfl (Nat.le_refl _) (Nat.le_refl _) (zext_rf _) (fun hrr => ?_)
    have hw9 := hQ _ hF
    unfold zvCount at hw9
    first
    | (simp only [reduceIte, Int.reduceEq, show ¬ (1 : Int) = 0 by decide] at hw9; exact hw9)
    | exact hw9
    | (rw [if_neg (by omega), if_neg (by omega), if_neg (by omega), if_neg (by omega), if_neg (by omega), if_neg (by omega), if_neg (by omega), if_neg (by omega)] at hw9; exact hw9)
  · refine z_tabIn (t := 67) dX8_count_1 (by decide) (by decide) (by rfl) (by rfl) ?_
    refine z_al0 dX8_count_67 (by first | decide | omega | assumption) ?_
    refine z_getR zfX8_10 dX8_count_68 (zkB hΓ rfl) rfl (zsB hΓ rfl) (zvB hΓ (by decide)) ?_
    refine z_getI zfX8_87 dX8_count_71 (zkB hΓ rfl) rfl ?_
    rw [hF 2 1 rfl, hI.tln]
    try simp only [zup_ap, zup_row, ne_eq, not_false_eq_true, zres, Int.toNat_natCast, reduceIte, Nat.reduceEqDiff, Nat.reduceAdd, and_self, and_true, true_and, and_false, false_and]
    refine z_iret dX8_count_74 rfl (Nat.le_refl _) (Nat.le_refl _) (zext_rf _) (fun hrr => ?_)
    have hw9 := hQ _ hF
    unfold zvCount at hw9
    first
    | (simp only [reduceIte, Int.reduceEq, show ¬ (1 : Int) = 0 by decide] at hw9; exact hw9)
    | exact hw9
    | (rw [if_neg (by omega), if_neg (by omega), if_neg (by omega), if_neg (by omega), if_neg (by omega), if_neg (by omega), if_neg (by omega), if_neg (by omega)] at hw9; exact hw9)
  · refine z_tabIn (t := 75) dX8_count_1 (by decide) (by decide) (by rfl) (by rfl) ?_
    refine z_al0 dX8_count_75 (by first | decide | omega | assumption) ?_
    refine z_getR zfX8_35 dX8_count_76 (zkB hΓ rfl) rfl (zsB hΓ rfl) (zvB hΓ (by decide)) ?_
    refine z_getR zfX8_190 dX8_count_79 (zkB hΓ rfl) rfl (zsB hΓ rfl) (zvB hΓ (by decide)) ?_
    refine z_getI zfX8_193 dX8_count_82 (zkB hΓ rfl) rfl ?_
    rw [hF 25 0 rfl, hI.now.1]
    try simp only [zup_ap, zup_row, ne_eq, not_false_eq_true, zres, Int.toNat_natCast, reduceIte, Nat.reduceEqDiff, Nat.reduceAdd, and_self, and_true, true_and, and_false, false_and]
    refine z_iret dX8_count_85 rfl (Nat.le_refl _) (Nat.le_refl _) (zext_rf _) (fun hrr => ?_)
    have hw9 := hQ _ hF
    unfold zvCount at hw9
    first
    | (simp only [reduceIte, Int.reduceEq, show ¬ (1 : Int) = 0 by decide] at hw9; exact hw9)
    | exact hw9
    | (rw [if_neg (by omega), if_neg (by omega), if_neg (by omega), if_neg (by omega), if_neg (by omega), if_neg (by omega), if_neg (by omega), if_neg (by omega)] at hw9; exact hw9)
  · refine z_tabIn (t := 86) dX8_count_1 (by decide) (by decide) (by rfl) (by rfl) ?_
    refine z_al0 dX8_count_86 (by first | decide | omega | assumption) ?_
    refine z_getR zfX8_35 dX8_count_87 (zkB hΓ rfl) rfl (zsB hΓ rfl) (zvB hΓ (by decide)) ?_
    refine z_getR zfX8_190 dX8_count_90 (zkB hΓ rfl) rfl (zsB hΓ rfl) (zvB hΓ (by decide)) ?_
    refine z_getI zfX8_242 dX8_count_93 (zkB hΓ rfl) rfl ?_
    rw [hF 25 1 rfl, hI.chn.1]
    try simp only [zup_ap, zup_row, ne_eq, not_false_eq_true, zres, Int.toNat_natCast, reduceIte, Nat.reduceEqDiff, Nat.reduceAdd, and_self, and_true, true_and, and_false, false_and]
    refine z_iret dX8_count_96 rfl (Nat.le_refl _) (Nat.le_refl _) (zext_rf _) (fun hrr => ?_)
    have hw9 := hQ _ hF
    unfold zvCount at hw9
    first
    | (simp only [reduceIte, Int.reduceEq, show ¬ (1 : Int) = 0 by decide] at hw9; exact hw9)
    | exact hw9
    | (rw [if_neg (by omega), if_neg (by omega), if_neg (by omega), if_neg (by omega), if_neg (by omega), if_neg (by omega), if_neg (by omega), if_neg (by omega)] at hw9; exact hw9)
  · refine z_tabIn (t := 97) dX8_count_1 (by decide) (by decide) (by rfl) (by rfl) ?_
    refine z_al0 dX8_count_97 (by first | decide | omega | assumption) ?_
    refine z_getR zfX8_35 dX8_count_98 (zkB hΓ rfl) rfl (zsB hΓ rfl) (zvB hΓ (by decide)) ?_
    refine z_getR zfX8_190 dX8_count_101 (zkB hΓ rfl) rfl (zsB hΓ rfl) (zvB hΓ (by decide)) ?_
    refine z_getI zfX8_252 dX8_count_104 (zkB hΓ rfl) rfl ?_
    rw [hF 25 2 rfl, hI.sdn.1]
    try simp only [zup_ap, zup_row, ne_eq, not_false_eq_true, zres, Int.toNat_natCast, reduceIte, Nat.reduceEqDiff, Nat.reduceAdd, and_self, and_true, true_and, and_false, false_and]
    refine z_iret dX8_count_107 rfl (Nat.le_refl _) (Nat.le_refl _) (zext_rf _) (fun hrr => ?_)
    have hw9 := hQ _ hF
    unfold zvCount at hw9
    first
    | (simp only [reduceIte, Int.reduceEq, show ¬ (1 : Int) = 0 by decide] at hw9; exact hw9)
    | exact hw9
    | (rw [if_neg (by omega), if_neg (by omega), if_neg (by omega), if_neg (by omega), if_neg (by omega), if_neg (by omega), if_neg (by omega), if_neg (by omega)] at hw9; exact hw9)
  · refine z_tabIn (t := 108) dX8_count_1 (by decide) (by decide) (by rfl) (by rfl) ?_
    refine z_al0 dX8_count_108 (by first | decide | omega | assumption) ?_
    refine z_getR zfX8_58 dX8_count_109 (zkB hΓ rfl) rfl (zsB hΓ rfl) (zvB hΓ (by decide)) ?_
    refine z_getI zfX8_307 dX8_count_112 (zkB hΓ rfl) rfl ?_
    rw [hF 77 2 rfl, hI.gds.1]
    try simp only [zup_ap, zup_row, ne_eq, not_false_eq_true, zres, Int.toNat_natCast, reduceIte, Nat.reduceEqDiff, Nat.reduceAdd, and_self, and_true, true_and, and_false, false_and]
    refine z_iret dX8_count_115 rfl (Nat.le_refl _) (Nat.le_refl _) (zext_rf _) (fun hrr => ?_)
    have hw9 := hQ _ hF
    unfold zvCount at hw9
    first
    | (simp only [reduceIte, Int.reduceEq, show ¬ (1 : Int) = 0 by decide] at hw9; exact hw9)
    | exact hw9
    | (rw [if_neg (by omega), if_neg (by omega), if_neg (by omega), if_neg (by omega), if_neg (by omega), if_neg (by omega), if_neg (by omega), if_neg (by omega)] at hw9; exact hw9)
  · refine z_tabIn (t := 116) dX8_count_1 (by decide) (by decide) (by rfl) (by rfl) ?_
    refine z_al0 dX8_count_116 (by first | decide | omega | assumption) ?_
    refine z_getI zfX8_79 dX8_count_117 (zkB hΓ rfl) rfl ?_
    rw [hF 1 11 rfl, hI.hnd.1]
    try simp only [zup_ap, zup_row, ne_eq, not_false_eq_true, zres, Int.toNat_natCast, reduceIte, Nat.reduceEqDiff, Nat.reduceAdd, and_self, and_true, true_and, and_false, false_and]
    refine z_iret dX8_count_120 rfl (Nat.le_refl _) (Nat.le_refl _) (zext_rf _) (fun hrr => ?_)
    have hw9 := hQ _ hF
    unfold zvCount at hw9
    first
    | (simp only [reduceIte, Int.reduceEq, show ¬ (1 : Int) = 0 by decide] at hw9; exact hw9)
    | exact hw9
    | (rw [if_neg (by omega), if_neg (by omega), if_neg (by omega), if_neg (by omega), if_neg (by omega), if_neg (by omega), if_neg (by omega), if_neg (by omega)] at hw9; exact hw9)
set_option maxRecDepth 4000 in
theorem X9_count_ct {l : Launch} {Γ : zC} {h0 h : zM} {Q : Option zV → zC → zM → Prop} {k : Int} (hI : zIv Γ h0) (hF : zfr zSS h0 h) (hQ : ∀ h9, zfr zSS h0 h9 → Q (some (zI (zvCount h0 k))) Γ h9) : zCT l mX9_count 0 0 0 Γ [zR 89, zI k] h Q := by
  have hΓ := hI.base
  have hx2 := hI.isl
  refine zCT_of (by decide) (Nat.le_of_ble_eq_true rfl) (ls := [some (zR 89), some (zI k)]) rfl ?_
  refine z_al0 dX9_count_0 (by first | decide | omega | assumption) ?_
  refine z_iconst dX9_count_1 (by decide) ?_
  refine z_putI zfX9_128 dX9_count_2 (zkB hΓ rfl) rfl rfl ?_
  replace hF : zfr zSS h0 (zup h 89 0 0) := zfr_up hF rfl
  generalize zup h 89 0 0 = h at hF ⊢
  refine z_il1 dX9_count_5 ?_
  have hk9 : (k < 0 ∨ 7 < k) ∨ (k = 0 ∨ k = 1 ∨ k = 2 ∨ k = 3 ∨ k = 4 ∨ k = 5 ∨ k = 6 ∨ k = 7) := by omega
  rcases hk9 with hk | rfl | rfl | rfl | rfl | rfl | rfl | rfl | rfl
  · refine z_tabOut (t := 92) dX9_count_6 (by omega) (by rfl) ?_
    refine z_ldcw (x := -1000000) dX9_count_92 zqX9_411 (by decide) ?_
    refine z_iret dX9_count_95 rfl (Nat.le_refl _) (Nat.le_refl _) (zext_rf _) (fun hrr => ?_)
    have hw9 := hQ _ hF
    unfold zvCount at hw9
    first
    | (simp only [reduceIte, Int.reduceEq, show ¬ (1 : Int) = 0 by decide] at hw9; exact hw9)
    | exact hw9
    | (rw [if_neg (by omega), if_neg (by omega), if_neg (by omega), if_neg (by omega), if_neg (by omega), if_neg (by omega), if_neg (by omega), if_neg (by omega)] at hw9; exact hw9)
  · refine z_tabIn (t := 52) dX9_count_6 (by decide) (by decide) (by rfl) (by rfl) ?_
    refine z_al0 dX9_count_52 (by first | decide | omega | assumption) ?_
    refine z_getI zfX9_276 dX9_count_53 (zkB hΓ rfl) rfl ?_
    rw [hF 89 22 rfl]
    try simp only [zup_ap, zup_row, ne_eq, not_false_eq_true, zres, Int.toNat_natCast, reduceIte, Nat.reduceEqDiff, Nat.reduceAdd, and_self, and_true, true_and, and_false, false_and]
    refine z_iret dX9_count_56 rfl (Nat.le_refl _) (Nat.le_refl _) (zext_rf _) (fun hrr => ?_)
    have hw9 := hQ _ hF
    unfold zvCount at hw9
    first
    | (simp only [reduceIte, Int.reduceEq, show ¬ (1 : Int) = 0 by decide] at hw9; exact hw9)
    | exact hw9
    | (rw [if_neg (by omega), if_neg (by omega), if_neg (by omega), if_neg (by omega), if_neg (by omega), if_neg (by omega), if_neg (by omega), if_neg (by omega)] at hw9; exact hw9)
  · refine z_tabIn (t := 57) dX9_count_6 (by decide) (by decide) (by rfl) (by rfl) ?_
    refine z_al0 dX9_count_57 (by first | decide | omega | assumption) ?_
    refine z_getI zfX9_271 dX9_count_58 (zkB hΓ rfl) rfl ?_
    rw [hF 89 7 rfl]
    try simp only [zup_ap, zup_row, ne_eq, not_false_eq_true, zres, Int.toNat_natCast, reduceIte, Nat.reduceEqDiff, Nat.reduceAdd, and_self, and_true, true_and, and_false, false_and]
    refine z_iret dX9_count_61 rfl (Nat.le_refl _) (Nat.le_refl _) (zext_rf _) (fun hrr => ?_)
    have hw9 := hQ _ hF
    unfold zvCount at hw9
    first
    | (simp only [reduceIte, Int.reduceEq, show ¬ (1 : Int) = 0 by decide] at hw9; exact hw9)
    | exact hw9
    | (rw [if_neg (by omega), if_neg (by omega), if_neg (by omega), if_neg (by omega), if_neg (by omega), if_neg (by omega), if_neg (by omega), if_neg (by omega)] at hw9; exact hw9)
  · refine z_tabIn (t := 62) dX9_count_6 (by decide) (by decide) (by rfl) (by rfl) ?_
    refine z_al0 dX9_count_62 (by first | decide | omega | assumption) ?_
    refine z_getI zfX9_141 dX9_count_63 (zkB hΓ rfl) rfl ?_
    rw [hF 89 6 rfl]
    try simp only [zup_ap, zup_row, ne_eq, not_false_eq_true, zres, Int.toNat_natCast, reduceIte, Nat.reduceEqDiff, Nat.reduceAdd, and_self, and_true, true_and, and_false, false_and]
    refine z_iret dX9_count_66 rfl (Nat.le_refl _) (Nat.le_refl _) (zext_rf _) (fun hrr => ?_)
    have hw9 := hQ _ hF
    unfold zvCount at hw9
    first
    | (simp only [reduceIte, Int.reduceEq, show ¬ (1 : Int) = 0 by decide] at hw9; exact hw9)
    | exact hw9
    | (rw [if_neg (by omega), if_neg (by omega), if_neg (by omega), if_neg (by omega), if_neg (by omega), if_neg (by omega), if_neg (by omega), if_neg (by omega)] at hw9; exact hw9)
  · refine z_tabIn (t := 67) dX9_count_6 (by decide) (by decide) (by rfl) (by rfl) ?_
    refine z_al0 dX9_count_67 (by first | decide | omega | assumption) ?_
    refine z_getI zfX9_288 dX9_count_68 (zkB hΓ rfl) rfl ?_
    rw [hF 89 29 rfl]
    try simp only [zup_ap, zup_row, ne_eq, not_false_eq_true, zres, Int.toNat_natCast, reduceIte, Nat.reduceEqDiff, Nat.reduceAdd, and_self, and_true, true_and, and_false, false_and]
    refine z_iret dX9_count_71 rfl (Nat.le_refl _) (Nat.le_refl _) (zext_rf _) (fun hrr => ?_)
    have hw9 := hQ _ hF
    unfold zvCount at hw9
    first
    | (simp only [reduceIte, Int.reduceEq, show ¬ (1 : Int) = 0 by decide] at hw9; exact hw9)
    | exact hw9
    | (rw [if_neg (by omega), if_neg (by omega), if_neg (by omega), if_neg (by omega), if_neg (by omega), if_neg (by omega), if_neg (by omega), if_neg (by omega)] at hw9; exact hw9)
  · refine z_tabIn (t := 72) dX9_count_6 (by decide) (by decide) (by rfl) (by rfl) ?_
    refine z_al0 dX9_count_72 (by first | decide | omega | assumption) ?_
    refine z_getI zfX9_282 dX9_count_73 (zkB hΓ rfl) rfl ?_
    rw [hF 89 28 rfl]
    try simp only [zup_ap, zup_row, ne_eq, not_false_eq_true, zres, Int.toNat_natCast, reduceIte, Nat.reduceEqDiff, Nat.reduceAdd, and_self, and_true, true_and, and_false, false_and]
    refine z_iret dX9_count_76 rfl (Nat.le_refl _) (Nat.le_refl _) (zext_rf _) (fun hrr => ?_)
    have hw9 := hQ _ hF
    unfold zvCount at hw9
    first
    | (simp only [reduceIte, Int.reduceEq, show ¬ (1 : Int) = 0 by decide] at hw9; exact hw9)
    | exact hw9
    | (rw [if_neg (by omega), if_neg (by omega), if_neg (by omega), if_neg (by omega), if_neg (by omega), if_neg (by omega), if_neg (by omega), if_neg (by omega)] at hw9; exact hw9)
  · refine z_tabIn (t := 77) dX9_count_6 (by decide) (by decide) (by rfl) (by rfl) ?_
    refine z_al0 dX9_count_77 (by first | decide | omega | assumption) ?_
    refine z_getI zfX9_285 dX9_count_78 (zkB hΓ rfl) rfl ?_
    rw [hF 89 51 rfl]
    try simp only [zup_ap, zup_row, ne_eq, not_false_eq_true, zres, Int.toNat_natCast, reduceIte, Nat.reduceEqDiff, Nat.reduceAdd, and_self, and_true, true_and, and_false, false_and]
    refine z_iret dX9_count_81 rfl (Nat.le_refl _) (Nat.le_refl _) (zext_rf _) (fun hrr => ?_)
    have hw9 := hQ _ hF
    unfold zvCount at hw9
    first
    | (simp only [reduceIte, Int.reduceEq, show ¬ (1 : Int) = 0 by decide] at hw9; exact hw9)
    | exact hw9
    | (rw [if_neg (by omega), if_neg (by omega), if_neg (by omega), if_neg (by omega), if_neg (by omega), if_neg (by omega), if_neg (by omega), if_neg (by omega)] at hw9; exact hw9)
  · refine z_tabIn (t := 82) dX9_count_6 (by decide) (by decide) (by rfl) (by rfl) ?_
    refine z_al0 dX9_count_82 (by first | decide | omega | assumption) ?_
    refine z_getI zfX9_279 dX9_count_83 (zkB hΓ rfl) rfl ?_
    rw [hF 89 39 rfl]
    try simp only [zup_ap, zup_row, ne_eq, not_false_eq_true, zres, Int.toNat_natCast, reduceIte, Nat.reduceEqDiff, Nat.reduceAdd, and_self, and_true, true_and, and_false, false_and]
    refine z_iret dX9_count_86 rfl (Nat.le_refl _) (Nat.le_refl _) (zext_rf _) (fun hrr => ?_)
    have hw9 := hQ _ hF
    unfold zvCount at hw9
    first
    | (simp only [reduceIte, Int.reduceEq, show ¬ (1 : Int) = 0 by decide] at hw9; exact hw9)
    | exact hw9
    | (rw [if_neg (by omega), if_neg (by omega), if_neg (by omega), if_neg (by omega), if_neg (by omega), if_neg (by omega), if_neg (by omega), if_neg (by omega)] at hw9; exact hw9)
  · refine z_tabIn (t := 87) dX9_count_6 (by decide) (by decide) (by rfl) (by rfl) ?_
    refine z_al0 dX9_count_87 (by first | decide | omega | assumption) ?_
    refine z_getI zfX9_65 dX9_count_88 (zkB hΓ rfl) rfl ?_
    rw [hF 89 32 rfl]
    try simp only [zup_ap, zup_row, ne_eq, not_false_eq_true, zres, Int.toNat_natCast, reduceIte, Nat.reduceEqDiff, Nat.reduceAdd, and_self, and_true, true_and, and_false, false_and]
    refine z_iret dX9_count_91 rfl (Nat.le_refl _) (Nat.le_refl _) (zext_rf _) (fun hrr => ?_)
    have hw9 := hQ _ hF
    unfold zvCount at hw9
    first
    | (simp only [reduceIte, Int.reduceEq, show ¬ (1 : Int) = 0 by decide] at hw9; exact hw9)
    | exact hw9
    | (rw [if_neg (by omega), if_neg (by omega), if_neg (by omega), if_neg (by omega), if_neg (by omega), if_neg (by omega), if_neg (by omega), if_neg (by omega)] at hw9; exact hw9)
/-- whether one of what was said was forbidden -/
def zbr (h : zM) (k : Nat) : Int := zFo h (h 113 k) (h 114 k) (h 115 k)
theorem zbr_01 (h : zM) (k : Nat) : zbr h k = 0 ∨ zbr h k = 1 := zFo_01 _ _ _ _
def zvBreach (h : zM) (i : Int) : Int := if h 89 22 ≠ 0 ∧ -1 ≤ i then zsc (fun k => decide (zbr h k ≠ 0)) i (h 89 51).toNat 0 0 else -1
set_option maxRecDepth 4000 in
theorem X7_isBreach_ct {l : Launch} {Γ : zC} {h0 h : zM} {Q : Option zV → zC → zM → Prop} {k : Nat} (hI : zIv Γ h0) (hF : zfr zSS h0 h) (hO : h0 89 30 = -1) (hk : (k : Int) < h0 89 51) (hQ : ∀ h9, zfK h h9 → Q (some (zI (zbr h0 k))) Γ h9) : zCT l mX7_isBreach 4 0 0 Γ [zR 15, zI (k : Int)] h Q := by
  have hΓ := hI.base
  have hx2 := hI.isl
  have hx5 := hI.sdn
  have hx6 := hI.sdv
  have hv := hx6 k hk
  refine zCT_of (by decide) (Nat.le_of_ble_eq_true rfl) (ls := [some (zR 15), some (zI (k : Int))]) rfl ?_
  refine z_il1 dX7_isBreach_0 ?_
  refine z_if_lt (t := 21) dX7_isBreach_1 (by rfl) (fun ht1 => ?_) (fun hf1 => ?_)
  · refine z_iconst dX7_isBreach_21 (by decide) ?_
    refine z_zret dX7_isBreach_22 rfl (Nat.le_refl _) (Nat.le_refl _) (zext_rf _) (by first | exact Or.inl rfl | exact Or.inr rfl | omega) ?_
    exfalso; omega
  · refine z_il1 dX7_isBreach_4 ?_
    refine z_al0 dX7_isBreach_5 (by first | decide | omega | assumption) ?_
    refine z_getR zfX7_21 dX7_isBreach_6 (zkB hΓ rfl) rfl (zsB hΓ rfl) (zvB hΓ (by decide)) ?_
    refine z_getI zfX7_84 dX7_isBreach_9 (zkB hΓ rfl) rfl ?_
    rw [hF 25 2 rfl, hI.sdn.1]
    try simp only [zup_ap, zup_row, ne_eq, not_false_eq_true, zres, Int.toNat_natCast, reduceIte, Nat.reduceEqDiff, Nat.reduceAdd, and_self, and_true, true_and, and_false, false_and]
    refine z_icmp_ge (t := 21) dX7_isBreach_12 (by rfl) (fun ht12 => ?_) (fun hf12 => ?_)
    · refine z_iconst dX7_isBreach_21 (by decide) ?_
      refine z_zret dX7_isBreach_22 rfl (Nat.le_refl _) (Nat.le_refl _) (zext_rf _) (by first | exact Or.inl rfl | exact Or.inr rfl | omega) ?_
      exfalso; omega
    · refine z_il1 dX7_isBreach_15 ?_
      refine z_bipush (x := 40) dX7_isBreach_16 (by rfl) (by decide) ?_
      refine z_icmp_lt (t := 23) dX7_isBreach_18 (by rfl) (fun ht18 => ?_) (fun hf18 => ?_)
      · refine z_al0 dX7_isBreach_23 (by first | decide | omega | assumption) ?_
        refine z_al0 dX7_isBreach_24 (by first | decide | omega | assumption) ?_
        refine z_getR zfX7_21 dX7_isBreach_25 (zkB hΓ rfl) rfl (zsB hΓ rfl) (zvB hΓ (by decide)) ?_
        refine z_getR zfX7_87 dX7_isBreach_28 (zkB hΓ rfl) rfl (zsB hΓ rfl) (zvB hΓ (by decide)) ?_
        refine z_il1 dX7_isBreach_31 ?_
        refine z_iald dX7_isBreach_32 (zkB hΓ rfl) (by omega) (by omega) ?_
        rw [hF 29 _ rfl, (hI.sdr _ (by omega)).1]
        try simp only [zup_ap, zup_row, ne_eq, not_false_eq_true, zres, Int.toNat_natCast, reduceIte, Nat.reduceEqDiff, Nat.reduceAdd, and_self, and_true, true_and, and_false, false_and]
        refine z_al0 dX7_isBreach_33 (by first | decide | omega | assumption) ?_
        refine z_getR zfX7_21 dX7_isBreach_34 (zkB hΓ rfl) rfl (zsB hΓ rfl) (zvB hΓ (by decide)) ?_
        refine z_getR zfX7_90 dX7_isBreach_37 (zkB hΓ rfl) rfl (zsB hΓ rfl) (zvB hΓ (by decide)) ?_
        refine z_il1 dX7_isBreach_40 ?_
        refine z_iald dX7_isBreach_41 (zkB hΓ rfl) (by omega) (by omega) ?_
        rw [hF 30 _ rfl, (hI.sdr _ (by omega)).2.1]
        try simp only [zup_ap, zup_row, ne_eq, not_false_eq_true, zres, Int.toNat_natCast, reduceIte, Nat.reduceEqDiff, Nat.reduceAdd, and_self, and_true, true_and, and_false, false_and]
        refine z_al0 dX7_isBreach_42 (by first | decide | omega | assumption) ?_
        refine z_getR zfX7_21 dX7_isBreach_43 (zkB hΓ rfl) rfl (zsB hΓ rfl) (zvB hΓ (by decide)) ?_
        refine z_getR zfX7_93 dX7_isBreach_46 (zkB hΓ rfl) rfl (zsB hΓ rfl) (zvB hΓ (by decide)) ?_
        refine z_il1 dX7_isBreach_49 ?_
        refine z_iald dX7_isBreach_50 (zkB hΓ rfl) (by omega) (by omega) ?_
        rw [hF 31 _ rfl, (hI.sdr _ (by omega)).2.2]
        try simp only [zup_ap, zup_row, ne_eq, not_false_eq_true, zres, Int.toNat_natCast, reduceIte, Nat.reduceEqDiff, Nat.reduceAdd, and_self, and_true, true_and, and_false, false_and]
        refine zcv3 dX7_isBreach_51 zkX7_76 ziX7_forbids zsX7_forbids (zkB hΓ rfl) (by decide) rfl (Nat.le_of_ble_eq_true rfl) (by decide) (by first | decide | omega) ⟨Nat.le_refl _, Nat.le_refl _⟩ (X7_forbids_ct hI hF hO hv.1 hv.2.2 (fun h9 hK9 _ => ?_))
        try simp only [zup_ap, zup_row, ne_eq, not_false_eq_true, zres, Int.toNat_natCast, reduceIte, Nat.reduceEqDiff, Nat.reduceAdd, and_self, and_true, true_and, and_false, false_and]
        refine z_zret dX7_isBreach_54 rfl (Nat.le_refl _) (Nat.le_refl _) (zext_rf _) (by exact zbr_01 h0 k) ?_
        exact hQ h9 hK9
      · refine z_iconst dX7_isBreach_21 (by decide) ?_
        refine z_zret dX7_isBreach_22 rfl (Nat.le_refl _) (Nat.le_refl _) (zext_rf _) (by first | exact Or.inl rfl | exact Or.inr rfl | omega) ?_
        exfalso; omega
set_option maxRecDepth 4000 in
theorem X9_isBreach_ct {l : Launch} {Γ : zC} {h0 h : zM} {Q : Option zV → zC → zM → Prop} {k : Nat} (hI : zIv Γ h0) (hF : zfr zSS h0 h) (hk : (k : Int) < h0 89 51) (hQ : ∀ h9, zfM h h9 → Q (some (zI (zbr h0 k))) Γ h9) : zCT l mX9_isBreach 1681 0 0 Γ [zR 89, zI (k : Int)] h Q := by
  have hΓ := hI.base
  have hx2 := hI.isl
  have hx5 := hI.sdn
  have hx6 := hI.sdv
  have hv := hx6 k hk
  refine zCT_of (by decide) (Nat.le_of_ble_eq_true rfl) (ls := [some (zR 89), some (zI (k : Int))]) rfl ?_
  refine z_al0 dX9_isBreach_0 (by first | decide | omega | assumption) ?_
  refine z_al0 dX9_isBreach_1 (by first | decide | omega | assumption) ?_
  refine z_getR zfX9_104 dX9_isBreach_2 (zkB hΓ rfl) rfl (zsB hΓ rfl) (zvB hΓ (by decide)) ?_
  refine z_il1 dX9_isBreach_5 ?_
  refine z_iald dX9_isBreach_6 (zkB hΓ rfl) (by omega) (by omega) ?_
  rw [hF 113 _ rfl]
  try simp only [zup_ap, zup_row, ne_eq, not_false_eq_true, zres, Int.toNat_natCast, reduceIte, Nat.reduceEqDiff, Nat.reduceAdd, and_self, and_true, true_and, and_false, false_and]
  refine z_al0 dX9_isBreach_7 (by first | decide | omega | assumption) ?_
  refine z_getR zfX9_107 dX9_isBreach_8 (zkB hΓ rfl) rfl (zsB hΓ rfl) (zvB hΓ (by decide)) ?_
  refine z_il1 dX9_isBreach_11 ?_
  refine z_iald dX9_isBreach_12 (zkB hΓ rfl) (by omega) (by omega) ?_
  rw [hF 114 _ rfl]
  try simp only [zup_ap, zup_row, ne_eq, not_false_eq_true, zres, Int.toNat_natCast, reduceIte, Nat.reduceEqDiff, Nat.reduceAdd, and_self, and_true, true_and, and_false, false_and]
  refine z_al0 dX9_isBreach_13 (by first | decide | omega | assumption) ?_
  refine z_getR zfX9_110 dX9_isBreach_14 (zkB hΓ rfl) rfl (zsB hΓ rfl) (zvB hΓ (by decide)) ?_
  refine z_il1 dX9_isBreach_17 ?_
  refine z_iald dX9_isBreach_18 (zkB hΓ rfl) (by omega) (by omega) ?_
  rw [hF 115 _ rfl]
  try simp only [zup_ap, zup_row, ne_eq, not_false_eq_true, zres, Int.toNat_natCast, reduceIte, Nat.reduceEqDiff, Nat.reduceAdd, and_self, and_true, true_and, and_false, false_and]
  refine zcv3 dX9_isBreach_19 zkX9_311 ziX9_isForbidden zsX9_isForbidden (zkB hΓ rfl) (by decide) rfl (Nat.le_of_ble_eq_true rfl) (by decide) (by first | decide | omega) ⟨Nat.le_refl _, Nat.le_refl _⟩ (X9_isForbidden_ct hI hF hv.1 hv.2.2 (fun h9 hM9 _ => ?_))
  try simp only [zup_ap, zup_row, ne_eq, not_false_eq_true, zres, Int.toNat_natCast, reduceIte, Nat.reduceEqDiff, Nat.reduceAdd, and_self, and_true, true_and, and_false, false_and]
  refine z_zret dX9_isBreach_22 rfl (Nat.le_refl _) (Nat.le_refl _) (zext_rf _) (by exact zbr_01 h0 k) ?_
  exact hQ h9 hM9
set_option maxRecDepth 4000 in
theorem X8_breach_l {l : Launch} {Γ : zC} {h0 : zM} {Q : Option zV → zC → zM → Prop} {i V : Int} (hI : zIv Γ h0) (hO : h0 89 30 = -1) (hQ : ∀ h9, zfr zSS h0 h9 → Q (some (zI V)) Γ h9) : ∀ (m : Nat) (k : Nat) (h : zM) (n : Int), (h0 89 51).toNat - k < m → k ≤ (h0 89 51).toNat → zfr zSS h0 h → (0 ≤ n ∧ n ≤ k) → zsc (fun k => decide (zbr h0 k ≠ 0)) i ((h0 89 51).toNat - k) k n = V → zG (zFn l mX8_breach 5 0 0 Γ Q) 0 0 Γ h 24 [some (zR 1), some (zI i), some (zI n), some (zI (k : Int))] [] := by
  have hΓ := hI.base
  have hx2 := hI.isl
  have hx5 := hI.sdn
  intro m
  induction m with
  | zero => intros; omega
  | succ m ih =>
    intro k h n hm hk hF hn hV
    refine z_il3 dX8_breach_24 ?_
    refine z_al0 dX8_breach_25 (by first | decide | omega | assumption) ?_
    refine z_getR zfX8_35 dX8_breach_26 (zkB hΓ rfl) rfl (zsB hΓ rfl) (zvB hΓ (by decide)) ?_
    refine z_getR zfX8_190 dX8_breach_29 (zkB hΓ rfl) rfl (zsB hΓ rfl) (zvB hΓ (by decide)) ?_
    refine z_getI zfX8_252 dX8_breach_32 (zkB hΓ rfl) rfl ?_
    rw [hF 25 2 rfl, hI.sdn.1]
    try simp only [zup_ap, zup_row, ne_eq, not_false_eq_true, zres, Int.toNat_natCast, reduceIte, Nat.reduceEqDiff, Nat.reduceAdd, and_self, and_true, true_and, and_false, false_and]
    refine z_icmp_ge (t := 65) dX8_breach_35 (by rfl) (fun ht35 => ?_) (fun hf35 => ?_)
    · refine z_il1 dX8_breach_65 ?_
      refine z_iconst dX8_breach_66 (by decide) ?_
      refine z_icmp_ne (t := 74) dX8_breach_67 (by rfl) (fun ht67 => ?_) (fun hf67 => ?_)
      · refine z_iconst dX8_breach_74 (by decide) ?_
        refine z_iret dX8_breach_75 rfl (Nat.le_refl _) (Nat.le_refl _) (zext_rf _) (fun hrr => ?_)
        rw [show (h0 89 51).toNat - k = 0 by omega, zsc_0] at hV
        first | (rw [if_pos (by omega)] at hV; subst hV; exact hQ _ hF) | (rw [if_neg (by omega)] at hV; subst hV; exact hQ _ hF)
      · refine z_il2 dX8_breach_70 ?_
        refine z_goto (t := 75) dX8_breach_71 (by rfl) ?_
        refine z_iret dX8_breach_75 rfl (Nat.le_refl _) (Nat.le_refl _) (zext_rf _) (fun hrr => ?_)
        rw [show (h0 89 51).toNat - k = 0 by omega, zsc_0] at hV
        first | (rw [if_pos (by omega)] at hV; subst hV; exact hQ _ hF) | (rw [if_neg (by omega)] at hV; subst hV; exact hQ _ hF)
    · refine z_al0 dX8_breach_38 (by first | decide | omega | assumption) ?_
      refine z_getR zfX8_35 dX8_breach_39 (zkB hΓ rfl) rfl (zsB hΓ rfl) (zvB hΓ (by decide)) ?_
      refine z_il3 dX8_breach_42 ?_
      refine zcv1 dX8_breach_43 zkX8_255 ziX7_isBreach zsX7_isBreach (zkB hΓ rfl) (by decide) rfl (Nat.le_of_ble_eq_true rfl) (by decide) (by first | decide | omega) ⟨Nat.le_refl _, Nat.le_refl _⟩ (X7_isBreach_ct hI hF hO (by omega) (fun h9 hK9 _ => ?_))
      try simp only [zup_ap, zup_row, ne_eq, not_false_eq_true, zres, Int.toNat_natCast, reduceIte, Nat.reduceEqDiff, Nat.reduceAdd, and_self, and_true, true_and, and_false, false_and]
      refine z_if_eq (t := 59) dX8_breach_46 (by rfl) (fun ht46 => ?_) (fun hf46 => ?_)
      · refine z_ii3 dX8_breach_59 (by omega) (Nat.le_of_ble_eq_true rfl) rfl ?_
        refine z_goto (t := 24) dX8_breach_62 (by rfl) ?_
        rw [show (h0 89 51).toNat - k = ((h0 89 51).toNat - (k + 1)) + 1 by omega] at hV
        first
        | (rw [zsc_f (decide_eq_false (by omega))] at hV
           exact ih (k + 1) _ _ (by omega) (by omega) (zfr_K hF hK9) (by omega) hV)
        | (rw [zsc_u (decide_eq_true (by omega)) (by omega)] at hV
           exact ih (k + 1) _ _ (by omega) (by omega) (zfr_K hF hK9) (by omega) hV)
      · refine z_il2 dX8_breach_49 ?_
        refine z_il1 dX8_breach_50 ?_
        refine z_icmp_ne (t := 56) dX8_breach_51 (by rfl) (fun ht51 => ?_) (fun hf51 => ?_)
        · refine z_ii2 dX8_breach_56 (by omega) (Nat.le_of_ble_eq_true rfl) rfl ?_
          refine z_ii3 dX8_breach_59 (by omega) (Nat.le_of_ble_eq_true rfl) rfl ?_
          refine z_goto (t := 24) dX8_breach_62 (by rfl) ?_
          rw [show (h0 89 51).toNat - k = ((h0 89 51).toNat - (k + 1)) + 1 by omega] at hV
          first
          | (rw [zsc_f (decide_eq_false (by omega))] at hV
             exact ih (k + 1) _ _ (by omega) (by omega) (zfr_K hF hK9) (by omega) hV)
          | (rw [zsc_u (decide_eq_true (by omega)) (by omega)] at hV
             exact ih (k + 1) _ _ (by omega) (by omega) (zfr_K hF hK9) (by omega) hV)
        · refine z_il3 dX8_breach_54 ?_
          refine z_iret dX8_breach_55 rfl (Nat.le_refl _) (Nat.le_refl _) (zext_rf _) (fun hrr => ?_)
          rw [show (h0 89 51).toNat - k = ((h0 89 51).toNat - (k + 1)) + 1 by omega, zsc_t (decide_eq_true (by omega)) (by omega)] at hV
          subst hV
          exact hQ _ (zfr_K hF hK9)
set_option maxRecDepth 4000 in
theorem X8_breach_ct {l : Launch} {Γ : zC} {h0 h : zM} {Q : Option zV → zC → zM → Prop} {i : Int} (hI : zIv Γ h0) (hF : zfr zSS h0 h) (hO : h0 89 30 = -1) (hQ : ∀ h9, zfr zSS h0 h9 → Q (some (zI (zvBreach h0 i))) Γ h9) : zCT l mX8_breach 5 0 0 Γ [zR 1, zI i] h Q := by
  have hΓ := hI.base
  have hx2 := hI.isl
  refine zCT_of (by decide) (Nat.le_of_ble_eq_true rfl) (ls := [some (zR 1), some (zI i), none, none]) rfl ?_
  refine z_al0 dX8_breach_0 (by first | decide | omega | assumption) ?_
  refine z_getR zfX8_35 dX8_breach_1 (zkB hΓ rfl) rfl (zsB hΓ rfl) (zvB hΓ (by decide)) ?_
  refine z_getR zfX8_132 dX8_breach_4 (zkB hΓ rfl) rfl (zsB hΓ rfl) (zvB hΓ (by decide)) ?_
  refine z_getI zfX8_210 dX8_breach_7 (zkB hΓ rfl) rfl ?_
  rw [hF 16 0 rfl, hI.cisl]
  try simp only [zup_ap, zup_row, ne_eq, not_false_eq_true, zres, Int.toNat_natCast, reduceIte, Nat.reduceEqDiff, Nat.reduceAdd, and_self, and_true, true_and, and_false, false_and]
  refine z_if_eq (t := 18) dX8_breach_10 (by rfl) (fun ht10 => ?_) (fun hf10 => ?_)
  · refine z_iconst dX8_breach_18 (by decide) ?_
    refine z_iret dX8_breach_19 rfl (Nat.le_refl _) (Nat.le_refl _) (zext_rf _) (fun hrr => ?_)
    have hw9 := hQ _ hF
    unfold zvBreach at hw9
    rw [if_neg (by omega)] at hw9
    exact hw9
  · refine z_il1 dX8_breach_13 ?_
    refine z_iconst dX8_breach_14 (by decide) ?_
    refine z_icmp_ge (t := 20) dX8_breach_15 (by rfl) (fun ht15 => ?_) (fun hf15 => ?_)
    · refine z_iconst dX8_breach_20 (by decide) ?_
      refine z_is2 dX8_breach_21 (Nat.le_of_ble_eq_true rfl) rfl ?_
      refine z_iconst dX8_breach_22 (by decide) ?_
      refine z_is3 dX8_breach_23 (Nat.le_of_ble_eq_true rfl) rfl ?_
      unfold zvBreach at hQ
      rw [if_pos (by omega)] at hQ
      exact X8_breach_l hI hO hQ _ 0 _ 0 (Nat.lt_succ_self _) (by omega) hF (by omega) rfl
    · refine z_iconst dX8_breach_18 (by decide) ?_
      refine z_iret dX8_breach_19 rfl (Nat.le_refl _) (Nat.le_refl _) (zext_rf _) (fun hrr => ?_)
      have hw9 := hQ _ hF
      unfold zvBreach at hw9
      rw [if_neg (by omega)] at hw9
      exact hw9
set_option maxRecDepth 4000 in
theorem X9_breach_l {l : Launch} {Γ : zC} {h0 : zM} {Q : Option zV → zC → zM → Prop} {i V : Int} (hI : zIv Γ h0)  (hQ : ∀ h9, zfr zSS h0 h9 → Q (some (zI V)) Γ h9) : ∀ (m : Nat) (k : Nat) (h : zM) (n : Int), (h0 89 51).toNat - k < m → k ≤ (h0 89 51).toNat → zfr zSS h0 h → (0 ≤ n ∧ n ≤ k) → zsc (fun k => decide (zbr h0 k ≠ 0)) i ((h0 89 51).toNat - k) k n = V → zG (zFn l mX9_breach 1682 0 0 Γ Q) 0 0 Γ h 23 [some (zR 89), some (zI i), some (zI n), some (zI (k : Int))] [] := by
  have hΓ := hI.base
  have hx2 := hI.isl
  have hx5 := hI.sdn
  intro m
  induction m with
  | zero => intros; omega
  | succ m ih =>
    intro k h n hm hk hF hn hV
    refine z_il3 dX9_breach_23 ?_
    refine z_al0 dX9_breach_24 (by first | decide | omega | assumption) ?_
    refine z_getI zfX9_285 dX9_breach_25 (zkB hΓ rfl) rfl ?_
    rw [hF 89 51 rfl]
    try simp only [zup_ap, zup_row, ne_eq, not_false_eq_true, zres, Int.toNat_natCast, reduceIte, Nat.reduceEqDiff, Nat.reduceAdd, and_self, and_true, true_and, and_false, false_and]
    refine z_icmp_ge (t := 58) dX9_breach_28 (by rfl) (fun ht28 => ?_) (fun hf28 => ?_)
    · refine z_il1 dX9_breach_58 ?_
      refine z_iconst dX9_breach_59 (by decide) ?_
      refine z_icmp_ne (t := 67) dX9_breach_60 (by rfl) (fun ht60 => ?_) (fun hf60 => ?_)
      · refine z_iconst dX9_breach_67 (by decide) ?_
        refine z_iret dX9_breach_68 rfl (Nat.le_refl _) (Nat.le_refl _) (zext_rf _) (fun hrr => ?_)
        rw [show (h0 89 51).toNat - k = 0 by omega, zsc_0] at hV
        first | (rw [if_pos (by omega)] at hV; subst hV; exact hQ _ hF) | (rw [if_neg (by omega)] at hV; subst hV; exact hQ _ hF)
      · refine z_il2 dX9_breach_63 ?_
        refine z_goto (t := 68) dX9_breach_64 (by rfl) ?_
        refine z_iret dX9_breach_68 rfl (Nat.le_refl _) (Nat.le_refl _) (zext_rf _) (fun hrr => ?_)
        rw [show (h0 89 51).toNat - k = 0 by omega, zsc_0] at hV
        first | (rw [if_pos (by omega)] at hV; subst hV; exact hQ _ hF) | (rw [if_neg (by omega)] at hV; subst hV; exact hQ _ hF)
    · refine z_al0 dX9_breach_31 (by first | decide | omega | assumption) ?_
      refine z_il3 dX9_breach_32 ?_
      refine zcv1 dX9_breach_33 zkX9_429 ziX9_isBreach zsX9_isBreach (zkB hΓ rfl) (by decide) rfl (Nat.le_of_ble_eq_true rfl) (by decide) (by first | decide | omega) ⟨Nat.le_refl _, Nat.le_refl _⟩ (X9_isBreach_ct hI hF (by omega) (fun h9 hM9 _ => ?_))
      try simp only [zup_ap, zup_row, ne_eq, not_false_eq_true, zres, Int.toNat_natCast, reduceIte, Nat.reduceEqDiff, Nat.reduceAdd, and_self, and_true, true_and, and_false, false_and]
      refine z_if_ne (t := 42) dX9_breach_36 (by rfl) (fun ht36 => ?_) (fun hf36 => ?_)
      · refine z_il2 dX9_breach_42 ?_
        refine z_il1 dX9_breach_43 ?_
        refine z_icmp_ne (t := 49) dX9_breach_44 (by rfl) (fun ht44 => ?_) (fun hf44 => ?_)
        · refine z_ii2 dX9_breach_49 (by omega) (Nat.le_of_ble_eq_true rfl) rfl ?_
          refine z_ii3 dX9_breach_52 (by omega) (Nat.le_of_ble_eq_true rfl) rfl ?_
          refine z_goto (t := 23) dX9_breach_55 (by rfl) ?_
          rw [show (h0 89 51).toNat - k = ((h0 89 51).toNat - (k + 1)) + 1 by omega] at hV
          first
          | (rw [zsc_f (decide_eq_false (by omega))] at hV
             exact ih (k + 1) _ _ (by omega) (by omega) (zfr_M hF hM9) (by omega) hV)
          | (rw [zsc_u (decide_eq_true (by omega)) (by omega)] at hV
             exact ih (k + 1) _ _ (by omega) (by omega) (zfr_M hF hM9) (by omega) hV)
        · refine z_il3 dX9_breach_47 ?_
          refine z_iret dX9_breach_48 rfl (Nat.le_refl _) (Nat.le_refl _) (zext_rf _) (fun hrr => ?_)
          rw [show (h0 89 51).toNat - k = ((h0 89 51).toNat - (k + 1)) + 1 by omega, zsc_t (decide_eq_true (by omega)) (by omega)] at hV
          subst hV
          exact hQ _ (zfr_M hF hM9)
      · refine z_goto (t := 52) dX9_breach_39 (by rfl) ?_
        refine z_ii3 dX9_breach_52 (by omega) (Nat.le_of_ble_eq_true rfl) rfl ?_
        refine z_goto (t := 23) dX9_breach_55 (by rfl) ?_
        rw [show (h0 89 51).toNat - k = ((h0 89 51).toNat - (k + 1)) + 1 by omega] at hV
        first
        | (rw [zsc_f (decide_eq_false (by omega))] at hV
           exact ih (k + 1) _ _ (by omega) (by omega) (zfr_M hF hM9) (by omega) hV)
        | (rw [zsc_u (decide_eq_true (by omega)) (by omega)] at hV
           exact ih (k + 1) _ _ (by omega) (by omega) (zfr_M hF hM9) (by omega) hV)
set_option maxRecDepth 4000 in
theorem X9_breach_ct {l : Launch} {Γ : zC} {h0 h : zM} {Q : Option zV → zC → zM → Prop} {i : Int} (hI : zIv Γ h0) (hF : zfr zSS h0 h)  (hQ : ∀ h9, zfr zSS h0 h9 → Q (some (zI (zvBreach h0 i))) Γ h9) : zCT l mX9_breach 1682 0 0 Γ [zR 89, zI i] h Q := by
  have hΓ := hI.base
  have hx2 := hI.isl
  refine zCT_of (by decide) (Nat.le_of_ble_eq_true rfl) (ls := [some (zR 89), some (zI i), none, none]) rfl ?_
  refine z_al0 dX9_breach_0 (by first | decide | omega | assumption) ?_
  refine z_iconst dX9_breach_1 (by decide) ?_
  refine z_putI zfX9_128 dX9_breach_2 (zkB hΓ rfl) rfl rfl ?_
  replace hF : zfr zSS h0 (zup h 89 0 0) := zfr_up hF rfl
  generalize zup h 89 0 0 = h at hF ⊢
  refine z_al0 dX9_breach_5 (by first | decide | omega | assumption) ?_
  refine z_getI zfX9_276 dX9_breach_6 (zkB hΓ rfl) rfl ?_
  rw [hF 89 22 rfl]
  try simp only [zup_ap, zup_row, ne_eq, not_false_eq_true, zres, Int.toNat_natCast, reduceIte, Nat.reduceEqDiff, Nat.reduceAdd, and_self, and_true, true_and, and_false, false_and]
  refine z_if_eq (t := 17) dX9_breach_9 (by rfl) (fun ht9 => ?_) (fun hf9 => ?_)
  · refine z_iconst dX9_breach_17 (by decide) ?_
    refine z_iret dX9_breach_18 rfl (Nat.le_refl _) (Nat.le_refl _) (zext_rf _) (fun hrr => ?_)
    have hw9 := hQ _ hF
    unfold zvBreach at hw9
    rw [if_neg (by omega)] at hw9
    exact hw9
  · refine z_il1 dX9_breach_12 ?_
    refine z_iconst dX9_breach_13 (by decide) ?_
    refine z_icmp_ge (t := 19) dX9_breach_14 (by rfl) (fun ht14 => ?_) (fun hf14 => ?_)
    · refine z_iconst dX9_breach_19 (by decide) ?_
      refine z_is2 dX9_breach_20 (Nat.le_of_ble_eq_true rfl) rfl ?_
      refine z_iconst dX9_breach_21 (by decide) ?_
      refine z_is3 dX9_breach_22 (Nat.le_of_ble_eq_true rfl) rfl ?_
      unfold zvBreach at hQ
      rw [if_pos (by omega)] at hQ
      exact X9_breach_l hI hQ _ 0 _ 0 (Nat.lt_succ_self _) (by omega) hF (by omega) rfl
    · refine z_iconst dX9_breach_17 (by decide) ?_
      refine z_iret dX9_breach_18 rfl (Nat.le_refl _) (Nat.le_refl _) (zext_rf _) (fun hrr => ?_)
      have hw9 := hQ _ hF
      unfold zvBreach at hw9
      rw [if_neg (by omega)] at hw9
      exact hw9
def zfs (h : zM) (i : Int) : Nat → Int
  | 0 => 0
  | k + 1 => zfs h i k + (if h 113 k = i ∧ zbr h k ≠ 0 then h 114 k else 0)
theorem zfs_b {Γ : zC} {h : zM} (hI : zIv Γ h) (i : Int) : ∀ k : Nat, (k : Int) ≤ h 89 51 → 0 ≤ zfs h i k ∧ zfs h i k ≤ 999 * (k : Int)
  | 0, _ => ⟨Int.le_refl _, by show (0 : Int) ≤ 999 * 0; omega⟩
  | k + 1, hk => by
    have h1 := zfs_b hI i k (by omega)
    have h2 := (hI.sdv k (by omega)).2
    unfold zfs
    split <;> omega
theorem zfs_y {h : zM} {i : Int} {k : Nat} (c : h 113 k = i ∧ zbr h k ≠ 0) : zfs h i (k + 1) = zfs h i k + h 114 k := by rw [zfs, if_pos c]
theorem zfs_n {h : zM} {i : Int} {k : Nat} (c : ¬ (h 113 k = i ∧ zbr h k ≠ 0)) : zfs h i (k + 1) = zfs h i k := by rw [zfs, if_neg c, Int.add_zero]
def zfi (h : zM) (i : Int) : Int := zfs h i (h 89 51).toNat
def zvFines (h : zM) (i : Int) : Int := if 0 ≤ i ∧ i < h 89 22 then zfi h i else -1
set_option maxRecDepth 4000 in
theorem X7_finesOf_l {l : Launch} {Γ : zC} {h0 : zM} {Q : Option zV → zC → zM → Prop} {i : Int} (hI : zIv Γ h0) (hO : h0 89 30 = -1) (hQ : ∀ h9, zfr zSS h0 h9 → Q (some (zI (zfs h0 i (h0 89 51).toNat))) Γ h9) : ∀ (m : Nat) (k : Nat) (h : zM), (h0 89 51).toNat - k < m → k ≤ (h0 89 51).toNat → zfr zSS h0 h → zG (zFn l mX7_finesOf 5 0 0 Γ Q) 0 0 Γ h 4 [some (zR 15), some (zI i), some (zI (zfs h0 i k)), some (zI (k : Int))] [] := by
  have hΓ := hI.base
  have hx2 := hI.isl
  have hx5 := hI.sdn
  have hx6 := hI.sdv
  intro m
  induction m with
  | zero => intros; omega
  | succ m ih =>
    intro k h hm hk hF
    have hb1 := zfs_b hI i k (by omega)
    refine z_il3 dX7_finesOf_4 ?_
    refine z_al0 dX7_finesOf_5 (by first | decide | omega | assumption) ?_
    refine z_getR zfX7_21 dX7_finesOf_6 (zkB hΓ rfl) rfl (zsB hΓ rfl) (zvB hΓ (by decide)) ?_
    refine z_getI zfX7_84 dX7_finesOf_9 (zkB hΓ rfl) rfl ?_
    rw [hF 25 2 rfl, hI.sdn.1]
    try simp only [zup_ap, zup_row, ne_eq, not_false_eq_true, zres, Int.toNat_natCast, reduceIte, Nat.reduceEqDiff, Nat.reduceAdd, and_self, and_true, true_and, and_false, false_and]
    refine z_icmp_ge (t := 60) dX7_finesOf_12 (by rfl) (fun ht12 => ?_) (fun hf12 => ?_)
    · refine z_il2 dX7_finesOf_60 ?_
      refine z_iret dX7_finesOf_61 rfl (Nat.le_refl _) (Nat.le_refl _) (zext_rf _) (fun hrr => ?_)
      rw [show k = (h0 89 51).toNat by omega]
      exact hQ _ hF
    · refine z_il3 dX7_finesOf_15 ?_
      refine z_bipush (x := 40) dX7_finesOf_16 (by rfl) (by decide) ?_
      refine z_icmp_ge (t := 60) dX7_finesOf_18 (by rfl) (fun ht18 => ?_) (fun hf18 => ?_)
      · refine z_il2 dX7_finesOf_60 ?_
        refine z_iret dX7_finesOf_61 rfl (Nat.le_refl _) (Nat.le_refl _) (zext_rf _) (fun hrr => ?_)
        rw [show k = (h0 89 51).toNat by omega]
        exact hQ _ hF
      · refine z_al0 dX7_finesOf_21 (by first | decide | omega | assumption) ?_
        refine z_getR zfX7_21 dX7_finesOf_22 (zkB hΓ rfl) rfl (zsB hΓ rfl) (zvB hΓ (by decide)) ?_
        refine z_getR zfX7_87 dX7_finesOf_25 (zkB hΓ rfl) rfl (zsB hΓ rfl) (zvB hΓ (by decide)) ?_
        refine z_il3 dX7_finesOf_28 ?_
        refine z_iald dX7_finesOf_29 (zkB hΓ rfl) (by omega) (by omega) ?_
        rw [hF 29 _ rfl, (hI.sdr _ (by omega)).1]
        try simp only [zup_ap, zup_row, ne_eq, not_false_eq_true, zres, Int.toNat_natCast, reduceIte, Nat.reduceEqDiff, Nat.reduceAdd, and_self, and_true, true_and, and_false, false_and]
        refine z_il1 dX7_finesOf_30 ?_
        refine z_icmp_ne (t := 54) dX7_finesOf_31 (by rfl) (fun ht31 => ?_) (fun hf31 => ?_)
        · refine z_ii3 dX7_finesOf_54 (by omega) (Nat.le_of_ble_eq_true rfl) rfl ?_
          refine z_goto (t := 4) dX7_finesOf_57 (by rfl) ?_
          have e9 := ih (k + 1) _ (by omega) (by omega) hF
          first
          | (rw [zfs_y (by omega)] at e9; exact e9)
          | (rw [zfs_n (by omega)] at e9; exact e9)
          | (rw [zfs_n (by omega)] at e9; rw [Int.add_zero]; exact e9)
        · refine z_al0 dX7_finesOf_34 (by first | decide | omega | assumption) ?_
          refine z_il3 dX7_finesOf_35 ?_
          refine zcv1 dX7_finesOf_36 zkX7_96 ziX7_isBreach zsX7_isBreach (zkB hΓ rfl) (by decide) rfl (Nat.le_of_ble_eq_true rfl) (by decide) (by first | decide | omega) ⟨Nat.le_refl _, Nat.le_refl _⟩ (X7_isBreach_ct hI hF hO (by omega) (fun h9 hK9 _ => ?_))
          try simp only [zup_ap, zup_row, ne_eq, not_false_eq_true, zres, Int.toNat_natCast, reduceIte, Nat.reduceEqDiff, Nat.reduceAdd, and_self, and_true, true_and, and_false, false_and]
          replace hF := (zfr_K hF hK9)
          refine z_if_eq (t := 54) dX7_finesOf_39 (by rfl) (fun ht39 => ?_) (fun hf39 => ?_)
          · refine z_ii3 dX7_finesOf_54 (by omega) (Nat.le_of_ble_eq_true rfl) rfl ?_
            refine z_goto (t := 4) dX7_finesOf_57 (by rfl) ?_
            have e9 := ih (k + 1) _ (by omega) (by omega) hF
            first
            | (rw [zfs_y (by omega)] at e9; exact e9)
            | (rw [zfs_n (by omega)] at e9; exact e9)
            | (rw [zfs_n (by omega)] at e9; rw [Int.add_zero]; exact e9)
          · refine z_il2 dX7_finesOf_42 ?_
            refine z_al0 dX7_finesOf_43 (by first | decide | omega | assumption) ?_
            refine z_getR zfX7_21 dX7_finesOf_44 (zkB hΓ rfl) rfl (zsB hΓ rfl) (zvB hΓ (by decide)) ?_
            refine z_getR zfX7_90 dX7_finesOf_47 (zkB hΓ rfl) rfl (zsB hΓ rfl) (zvB hΓ (by decide)) ?_
            refine z_il3 dX7_finesOf_50 ?_
            refine z_iald dX7_finesOf_51 (zkB hΓ rfl) (by omega) (by omega) ?_
            rw [hF 30 _ rfl, (hI.sdr _ (by omega)).2.1]
            try simp only [zup_ap, zup_row, ne_eq, not_false_eq_true, zres, Int.toNat_natCast, reduceIte, Nat.reduceEqDiff, Nat.reduceAdd, and_self, and_true, true_and, and_false, false_and]
            refine z_iadd dX7_finesOf_52 (by have hx7 := hx6 k (by omega); omega) ?_
            refine z_is2 dX7_finesOf_53 (Nat.le_of_ble_eq_true rfl) rfl ?_
            refine z_ii3 dX7_finesOf_54 (by omega) (Nat.le_of_ble_eq_true rfl) rfl ?_
            refine z_goto (t := 4) dX7_finesOf_57 (by rfl) ?_
            have e9 := ih (k + 1) _ (by omega) (by omega) hF
            first
            | (rw [zfs_y (by omega)] at e9; exact e9)
            | (rw [zfs_n (by omega)] at e9; exact e9)
            | (rw [zfs_n (by omega)] at e9; rw [Int.add_zero]; exact e9)
set_option maxRecDepth 4000 in
theorem X7_finesOf_ct {l : Launch} {Γ : zC} {h0 h : zM} {Q : Option zV → zC → zM → Prop} {i : Int} (hI : zIv Γ h0) (hF : zfr zSS h0 h) (hO : h0 89 30 = -1) (hQ : ∀ h9, zfr zSS h0 h9 → Q (some (zI (zfi h0 i))) Γ h9) : zCT l mX7_finesOf 5 0 0 Γ [zR 15, zI i] h Q := by
  have hΓ := hI.base
  have hx2 := hI.isl
  refine zCT_of (by decide) (Nat.le_of_ble_eq_true rfl) (ls := [some (zR 15), some (zI i), none, none]) rfl ?_
  refine z_iconst dX7_finesOf_0 (by decide) ?_
  refine z_is2 dX7_finesOf_1 (Nat.le_of_ble_eq_true rfl) rfl ?_
  refine z_iconst dX7_finesOf_2 (by decide) ?_
  refine z_is3 dX7_finesOf_3 (Nat.le_of_ble_eq_true rfl) rfl ?_
  exact X7_finesOf_l hI hO hQ _ 0 _ (Nat.lt_succ_self _) (by omega) hF
set_option maxRecDepth 4000 in
theorem X9_finesOf_l {l : Launch} {Γ : zC} {h0 : zM} {Q : Option zV → zC → zM → Prop} {i : Int} (hI : zIv Γ h0)  (hQ : ∀ h9, zfr zSS h0 h9 → Q (some (zI (zfs h0 i (h0 89 51).toNat))) Γ h9) : ∀ (m : Nat) (k : Nat) (h : zM), (h0 89 51).toNat - k < m → k ≤ (h0 89 51).toNat → zfr zSS h0 h → zG (zFn l mX9_finesOf 1682 0 0 Γ Q) 0 0 Γ h 4 [some (zR 89), some (zI i), some (zI (zfs h0 i k)), some (zI (k : Int))] [] := by
  have hΓ := hI.base
  have hx2 := hI.isl
  have hx5 := hI.sdn
  have hx6 := hI.sdv
  intro m
  induction m with
  | zero => intros; omega
  | succ m ih =>
    intro k h hm hk hF
    have hb1 := zfs_b hI i k (by omega)
    refine z_il3 dX9_finesOf_4 ?_
    refine z_al0 dX9_finesOf_5 (by first | decide | omega | assumption) ?_
    refine z_getI zfX9_285 dX9_finesOf_6 (zkB hΓ rfl) rfl ?_
    rw [hF 89 51 rfl]
    try simp only [zup_ap, zup_row, ne_eq, not_false_eq_true, zres, Int.toNat_natCast, reduceIte, Nat.reduceEqDiff, Nat.reduceAdd, and_self, and_true, true_and, and_false, false_and]
    refine z_icmp_ge (t := 49) dX9_finesOf_9 (by rfl) (fun ht9 => ?_) (fun hf9 => ?_)
    · refine z_il2 dX9_finesOf_49 ?_
      refine z_iret dX9_finesOf_50 rfl (Nat.le_refl _) (Nat.le_refl _) (zext_rf _) (fun hrr => ?_)
      rw [show k = (h0 89 51).toNat by omega]
      exact hQ _ hF
    · refine z_il2 dX9_finesOf_12 ?_
      refine z_al0 dX9_finesOf_13 (by first | decide | omega | assumption) ?_
      refine z_getR zfX9_104 dX9_finesOf_14 (zkB hΓ rfl) rfl (zsB hΓ rfl) (zvB hΓ (by decide)) ?_
      refine z_il3 dX9_finesOf_17 ?_
      refine z_iald dX9_finesOf_18 (zkB hΓ rfl) (by omega) (by omega) ?_
      rw [hF 113 _ rfl]
      try simp only [zup_ap, zup_row, ne_eq, not_false_eq_true, zres, Int.toNat_natCast, reduceIte, Nat.reduceEqDiff, Nat.reduceAdd, and_self, and_true, true_and, and_false, false_and]
      refine z_il1 dX9_finesOf_19 ?_
      refine z_icmp_ne (t := 40) dX9_finesOf_20 (by rfl) (fun ht20 => ?_) (fun hf20 => ?_)
      · refine z_iconst dX9_finesOf_40 (by decide) ?_
        refine z_iadd dX9_finesOf_41 (by have hx7 := hx6 k (by omega); omega) ?_
        refine z_is2 dX9_finesOf_42 (Nat.le_of_ble_eq_true rfl) rfl ?_
        refine z_ii3 dX9_finesOf_43 (by omega) (Nat.le_of_ble_eq_true rfl) rfl ?_
        refine z_goto (t := 4) dX9_finesOf_46 (by rfl) ?_
        have e9 := ih (k + 1) _ (by omega) (by omega) hF
        first
        | (rw [zfs_y (by omega)] at e9; exact e9)
        | (rw [zfs_n (by omega)] at e9; exact e9)
        | (rw [zfs_n (by omega)] at e9; rw [Int.add_zero]; exact e9)
      · refine z_al0 dX9_finesOf_23 (by first | decide | omega | assumption) ?_
        refine z_il3 dX9_finesOf_24 ?_
        refine zcv1 dX9_finesOf_25 zkX9_429 ziX9_isBreach zsX9_isBreach (zkB hΓ rfl) (by decide) rfl (Nat.le_of_ble_eq_true rfl) (by decide) (by first | decide | omega) ⟨Nat.le_refl _, Nat.le_refl _⟩ (X9_isBreach_ct hI hF (by omega) (fun h9 hM9 _ => ?_))
        try simp only [zup_ap, zup_row, ne_eq, not_false_eq_true, zres, Int.toNat_natCast, reduceIte, Nat.reduceEqDiff, Nat.reduceAdd, and_self, and_true, true_and, and_false, false_and]
        replace hF := (zfr_M hF hM9)
        refine z_if_eq (t := 40) dX9_finesOf_28 (by rfl) (fun ht28 => ?_) (fun hf28 => ?_)
        · refine z_iconst dX9_finesOf_40 (by decide) ?_
          refine z_iadd dX9_finesOf_41 (by have hx7 := hx6 k (by omega); omega) ?_
          refine z_is2 dX9_finesOf_42 (Nat.le_of_ble_eq_true rfl) rfl ?_
          refine z_ii3 dX9_finesOf_43 (by omega) (Nat.le_of_ble_eq_true rfl) rfl ?_
          refine z_goto (t := 4) dX9_finesOf_46 (by rfl) ?_
          have e9 := ih (k + 1) _ (by omega) (by omega) hF
          first
          | (rw [zfs_y (by omega)] at e9; exact e9)
          | (rw [zfs_n (by omega)] at e9; exact e9)
          | (rw [zfs_n (by omega)] at e9; rw [Int.add_zero]; exact e9)
        · refine z_al0 dX9_finesOf_31 (by first | decide | omega | assumption) ?_
          refine z_getR zfX9_107 dX9_finesOf_32 (zkB hΓ rfl) rfl (zsB hΓ rfl) (zvB hΓ (by decide)) ?_
          refine z_il3 dX9_finesOf_35 ?_
          refine z_iald dX9_finesOf_36 (zkB hΓ rfl) (by omega) (by omega) ?_
          rw [hF 114 _ rfl]
          try simp only [zup_ap, zup_row, ne_eq, not_false_eq_true, zres, Int.toNat_natCast, reduceIte, Nat.reduceEqDiff, Nat.reduceAdd, and_self, and_true, true_and, and_false, false_and]
          refine z_goto (t := 41) dX9_finesOf_37 (by rfl) ?_
          refine z_iadd dX9_finesOf_41 (by have hx7 := hx6 k (by omega); omega) ?_
          refine z_is2 dX9_finesOf_42 (Nat.le_of_ble_eq_true rfl) rfl ?_
          refine z_ii3 dX9_finesOf_43 (by omega) (Nat.le_of_ble_eq_true rfl) rfl ?_
          refine z_goto (t := 4) dX9_finesOf_46 (by rfl) ?_
          have e9 := ih (k + 1) _ (by omega) (by omega) hF
          first
          | (rw [zfs_y (by omega)] at e9; exact e9)
          | (rw [zfs_n (by omega)] at e9; exact e9)
          | (rw [zfs_n (by omega)] at e9; rw [Int.add_zero]; exact e9)
set_option maxRecDepth 4000 in
theorem X9_finesOf_ct {l : Launch} {Γ : zC} {h0 h : zM} {Q : Option zV → zC → zM → Prop} {i : Int} (hI : zIv Γ h0) (hF : zfr zSS h0 h)  (hQ : ∀ h9, zfr zSS h0 h9 → Q (some (zI (zfi h0 i))) Γ h9) : zCT l mX9_finesOf 1682 0 0 Γ [zR 89, zI i] h Q := by
  have hΓ := hI.base
  have hx2 := hI.isl
  refine zCT_of (by decide) (Nat.le_of_ble_eq_true rfl) (ls := [some (zR 89), some (zI i), none, none]) rfl ?_
  refine z_iconst dX9_finesOf_0 (by decide) ?_
  refine z_is2 dX9_finesOf_1 (Nat.le_of_ble_eq_true rfl) rfl ?_
  refine z_iconst dX9_finesOf_2 (by decide) ?_
  refine z_is3 dX9_finesOf_3 (Nat.le_of_ble_eq_true rfl) rfl ?_
  exact X9_finesOf_l hI hQ _ 0 _ (Nat.lt_succ_self _) (by omega) hF
set_option maxRecDepth 4000 in
theorem X8_fines_ct {l : Launch} {Γ : zC} {h0 h : zM} {Q : Option zV → zC → zM → Prop} {i : Int} (hI : zIv Γ h0) (hF : zfr zSS h0 h) (hO : h0 89 30 = -1) (hQ : ∀ h9, zfr zSS h0 h9 → Q (some (zI (zvFines h0 i))) Γ h9) : zCT l mX8_fines 6 0 0 Γ [zR 1, zI i] h Q := by
  have hΓ := hI.base
  have hx2 := hI.isl
  refine zCT_of (by decide) (Nat.le_of_ble_eq_true rfl) (ls := [some (zR 1), some (zI i)]) rfl ?_
  refine z_al0 dX8_fines_0 (by first | decide | omega | assumption) ?_
  refine z_getR zfX8_35 dX8_fines_1 (zkB hΓ rfl) rfl (zsB hΓ rfl) (zvB hΓ (by decide)) ?_
  refine z_il1 dX8_fines_4 ?_
  refine zcv1 dX8_fines_5 zkX8_114 ziX7_isIsle zsX7_isIsle (zkB hΓ rfl) (by decide) rfl (Nat.le_of_ble_eq_true rfl) (by decide) (by first | decide | omega) ⟨Nat.le_refl _, Nat.le_refl _⟩ (X7_isIsle_ct hI hF (fun hg1 _ => ?_) (fun hg1 _ => ?_))
  · try simp only [zup_ap, zup_row, ne_eq, not_false_eq_true, zres, Int.toNat_natCast, reduceIte, Nat.reduceEqDiff, Nat.reduceAdd, and_self, and_true, true_and, and_false, false_and]
    refine z_if_ne (t := 13) dX8_fines_8 (by rfl) (fun hx => absurd hx (by decide)) (fun _ => ?_)
    refine z_iconst dX8_fines_11 (by decide) ?_
    refine z_iret dX8_fines_12 rfl (Nat.le_refl _) (Nat.le_refl _) (zext_rf _) (fun hrr => ?_)
    have hw9 := hQ _ hF
    unfold zvFines at hw9
    rw [if_neg (by omega)] at hw9
    exact hw9
  · try simp only [zup_ap, zup_row, ne_eq, not_false_eq_true, zres, Int.toNat_natCast, reduceIte, Nat.reduceEqDiff, Nat.reduceAdd, and_self, and_true, true_and, and_false, false_and]
    refine z_if_ne (t := 13) dX8_fines_8 (by rfl) (fun _ => ?_) (fun hx => absurd hx (by decide))
    refine z_al0 dX8_fines_13 (by first | decide | omega | assumption) ?_
    refine z_getR zfX8_35 dX8_fines_14 (zkB hΓ rfl) rfl (zsB hΓ rfl) (zvB hΓ (by decide)) ?_
    refine z_il1 dX8_fines_17 ?_
    refine zcv1 dX8_fines_18 zkX8_258 ziX7_finesOf zsX7_finesOf (zkB hΓ rfl) (by decide) rfl (Nat.le_of_ble_eq_true rfl) (by decide) (by first | decide | omega) ⟨Nat.le_refl _, Nat.le_refl _⟩ (X7_finesOf_ct hI hF hO (fun h2 hF2 _ => ?_))
    try simp only [zup_ap, zup_row, ne_eq, not_false_eq_true, zres, Int.toNat_natCast, reduceIte, Nat.reduceEqDiff, Nat.reduceAdd, and_self, and_true, true_and, and_false, false_and]
    refine z_iret dX8_fines_21 rfl (Nat.le_refl _) (Nat.le_refl _) (zext_rf _) (fun hrr => ?_)
    have hw9 := hQ _ hF2
    unfold zvFines at hw9
    rw [if_pos (by omega)] at hw9
    exact hw9
set_option maxRecDepth 4000 in
theorem X9_fines_ct {l : Launch} {Γ : zC} {h0 h : zM} {Q : Option zV → zC → zM → Prop} {i : Int} (hI : zIv Γ h0) (hF : zfr zSS h0 h) (hQ : ∀ h9, zfr zSS h0 h9 → Q (some (zI (zvFines h0 i))) Γ h9) : zCT l mX9_fines 1683 0 0 Γ [zR 89, zI i] h Q := by
  have hΓ := hI.base
  have hx2 := hI.isl
  refine zCT_of (by decide) (Nat.le_of_ble_eq_true rfl) (ls := [some (zR 89), some (zI i)]) rfl ?_
  refine z_al0 dX9_fines_0 (by first | decide | omega | assumption) ?_
  refine z_iconst dX9_fines_1 (by decide) ?_
  refine z_putI zfX9_128 dX9_fines_2 (zkB hΓ rfl) rfl rfl ?_
  replace hF : zfr zSS h0 (zup h 89 0 0) := zfr_up hF rfl
  generalize zup h 89 0 0 = h at hF ⊢
  refine z_al0 dX9_fines_5 (by first | decide | omega | assumption) ?_
  refine z_il1 dX9_fines_6 ?_
  refine zcv1 dX9_fines_7 zkX9_299 ziX9_isIsle zsX9_isIsle (zkB hΓ rfl) (by decide) rfl (Nat.le_of_ble_eq_true rfl) (by decide) (by first | decide | omega) ⟨Nat.le_refl _, Nat.le_refl _⟩ (X9_isIsle_ct hI hF (fun hg1 _ => ?_) (fun hg1 _ => ?_))
  · try simp only [zup_ap, zup_row, ne_eq, not_false_eq_true, zres, Int.toNat_natCast, reduceIte, Nat.reduceEqDiff, Nat.reduceAdd, and_self, and_true, true_and, and_false, false_and]
    refine z_if_eq (t := 21) dX9_fines_10 (by rfl) (fun _ => ?_) (fun hx => absurd hx (by decide))
    refine z_iconst dX9_fines_21 (by decide) ?_
    refine z_iret dX9_fines_22 rfl (Nat.le_refl _) (Nat.le_refl _) (zext_rf _) (fun hrr => ?_)
    first
    | (have hw9 := hQ _ hF
       unfold zvFines at hw9
       rw [if_neg (by omega)] at hw9
       exact hw9)
    | (have hw9 := hQ _ hF2
       unfold zvFines at hw9
       rw [if_pos (by omega)] at hw9
       exact hw9)
  · try simp only [zup_ap, zup_row, ne_eq, not_false_eq_true, zres, Int.toNat_natCast, reduceIte, Nat.reduceEqDiff, Nat.reduceAdd, and_self, and_true, true_and, and_false, false_and]
    refine z_if_eq (t := 21) dX9_fines_10 (by rfl) (fun hx => absurd hx (by decide)) (fun _ => ?_)
    refine z_al0 dX9_fines_13 (by first | decide | omega | assumption) ?_
    refine z_il1 dX9_fines_14 ?_
    refine zcv1 dX9_fines_15 zkX9_432 ziX9_finesOf zsX9_finesOf (zkB hΓ rfl) (by decide) rfl (Nat.le_of_ble_eq_true rfl) (by decide) (by first | decide | omega) ⟨Nat.le_refl _, Nat.le_refl _⟩ (X9_finesOf_ct hI hF (fun h2 hF2 _ => ?_))
    try simp only [zup_ap, zup_row, ne_eq, not_false_eq_true, zres, Int.toNat_natCast, reduceIte, Nat.reduceEqDiff, Nat.reduceAdd, and_self, and_true, true_and, and_false, false_and]
    refine z_goto (t := 22) dX9_fines_18 (by rfl) ?_
    refine z_iret dX9_fines_22 rfl (Nat.le_refl _) (Nat.le_refl _) (zext_rf _) (fun hrr => ?_)
    first
    | (have hw9 := hQ _ hF
       unfold zvFines at hw9
       rw [if_neg (by omega)] at hw9
       exact hw9)
    | (have hw9 := hQ _ hF2
       unfold zvFines at hw9
       rw [if_pos (by omega)] at hw9
       exact hw9)
/-- the most that is owed by the first isles, and by whom -/
def zow (h : zM) : Nat → Int × Int
  | 0 => (0, -1)
  | k + 1 => if (zow h k).1 < zfi h (k : Int) then (zfi h (k : Int), (k : Int)) else zow h k
theorem zow_y {h : zM} {k : Nat} (c : (zow h k).1 < zfi h (k : Int)) : zow h (k + 1) = (zfi h (k : Int), (k : Int)) := by rw [zow, if_pos c]
theorem zow_n {h : zM} {k : Nat} (c : ¬ (zow h k).1 < zfi h (k : Int)) : zow h (k + 1) = zow h k := by rw [zow, if_neg c]
theorem zow_b (h : zM) : ∀ k : Nat, ((zow h k).2 = -1 ∧ (zow h k).1 = 0) ∨ (0 ≤ (zow h k).2 ∧ (zow h k).2 < (k : Int) ∧ 0 < (zow h k).1 ∧ (zow h k).1 = zfi h (zow h k).2)
  | 0 => Or.inl ⟨rfl, rfl⟩
  | k + 1 => by
    have h1 := zow_b h k
    by_cases c : (zow h k).1 < zfi h (k : Int)
    · rw [zow_y c]
      refine Or.inr ⟨?_, ?_, ?_, rfl⟩
      · show (0 : Int) ≤ (k : Int); omega
      · show (k : Int) < ((k + 1 : Nat) : Int); omega
      · show 0 < zfi h (k : Int)
        rcases h1 with h1 | h1 <;> omega
    · rw [zow_n c]
      rcases h1 with h1 | h1
      · exact Or.inl h1
      · exact Or.inr ⟨h1.1, by omega, h1.2.2⟩
def zvOwes (h : zM) : Int := (zow h (h 89 22).toNat).2
set_option maxRecDepth 4000 in
theorem X8_owes_l {l : Launch} {Γ : zC} {h0 : zM} {Q : Option zV → zC → zM → Prop} (hI : zIv Γ h0) (hO : h0 89 30 = -1) (hQ : ∀ h9, zfr zSS h0 h9 → Q (some (zI (zow h0 (h0 89 22).toNat).2)) Γ h9) : ∀ (m : Nat) (k : Nat) (h : zM) (y : Option zV), (h0 89 22).toNat - k < m → k ≤ (h0 89 22).toNat → zfr zSS h0 h → zG (zFn l mX8_owes 6 0 0 Γ Q) 0 0 Γ h 6 [some (zR 1), some (zI (zow h0 k).1), some (zI (zow h0 k).2), some (zI (k : Int)), y] [] := by
  have hΓ := hI.base
  have hx2 := hI.isl
  intro m
  induction m with
  | zero => intros; omega
  | succ m ih =>
    intro k h y hm hk hF
    refine z_il3 dX8_owes_6 ?_
    refine z_al0 dX8_owes_7 (by first | decide | omega | assumption) ?_
    refine z_getR zfX8_35 dX8_owes_8 (zkB hΓ rfl) rfl (zsB hΓ rfl) (zvB hΓ (by decide)) ?_
    refine z_getR zfX8_132 dX8_owes_11 (zkB hΓ rfl) rfl (zsB hΓ rfl) (zvB hΓ (by decide)) ?_
    refine z_getI zfX8_210 dX8_owes_14 (zkB hΓ rfl) rfl ?_
    rw [hF 16 0 rfl, hI.cisl]
    try simp only [zup_ap, zup_row, ne_eq, not_false_eq_true, zres, Int.toNat_natCast, reduceIte, Nat.reduceEqDiff, Nat.reduceAdd, and_self, and_true, true_and, and_false, false_and]
    refine z_icmp_ge (t := 47) dX8_owes_17 (by rfl) (fun ht17 => ?_) (fun hf17 => ?_)
    · refine z_il2 dX8_owes_47 ?_
      refine z_iret dX8_owes_48 rfl (Nat.le_refl _) (Nat.le_refl _) (zext_rf _) (fun hrr => ?_)
      rw [show k = (h0 89 22).toNat by omega]
      exact hQ _ hF
    · refine z_al0 dX8_owes_20 (by first | decide | omega | assumption) ?_
      refine z_getR zfX8_35 dX8_owes_21 (zkB hΓ rfl) rfl (zsB hΓ rfl) (zvB hΓ (by decide)) ?_
      refine z_il3 dX8_owes_24 ?_
      refine zcv1 dX8_owes_25 zkX8_258 ziX7_finesOf zsX7_finesOf (zkB hΓ rfl) (by decide) rfl (Nat.le_of_ble_eq_true rfl) (by decide) (by first | decide | omega) ⟨Nat.le_refl _, Nat.le_refl _⟩ (X7_finesOf_ct hI hF hO (fun h2 hF2 _ => ?_))
      try simp only [zup_ap, zup_row, ne_eq, not_false_eq_true, zres, Int.toNat_natCast, reduceIte, Nat.reduceEqDiff, Nat.reduceAdd, and_self, and_true, true_and, and_false, false_and]
      refine z_is4 dX8_owes_28 (Nat.le_of_ble_eq_true rfl) rfl ?_
      refine z_il4 dX8_owes_30 ?_
      refine z_il1 dX8_owes_32 ?_
      refine z_icmp_le (t := 41) dX8_owes_33 (by rfl) (fun ht33 => ?_) (fun hf33 => ?_)
      · refine z_ii3 dX8_owes_41 (by omega) (Nat.le_of_ble_eq_true rfl) rfl ?_
        refine z_goto (t := 6) dX8_owes_44 (by rfl) ?_
        first
        | (have e9 := ih (k + 1) _ (some (zI (zfi h0 (k : Int)))) (by omega) (by omega) hF2
           rw [zow_y (by omega)] at e9; exact e9)
        | (have e9 := ih (k + 1) _ (some (zI (zfi h0 (k : Int)))) (by omega) (by omega) hF2
           rw [zow_n (by omega)] at e9; exact e9)
      · refine z_il4 dX8_owes_36 ?_
        refine z_is1 dX8_owes_38 (Nat.le_of_ble_eq_true rfl) rfl ?_
        refine z_il3 dX8_owes_39 ?_
        refine z_is2 dX8_owes_40 (Nat.le_of_ble_eq_true rfl) rfl ?_
        refine z_ii3 dX8_owes_41 (by omega) (Nat.le_of_ble_eq_true rfl) rfl ?_
        refine z_goto (t := 6) dX8_owes_44 (by rfl) ?_
        first
        | (have e9 := ih (k + 1) _ (some (zI (zfi h0 (k : Int)))) (by omega) (by omega) hF2
           rw [zow_y (by omega)] at e9; exact e9)
        | (have e9 := ih (k + 1) _ (some (zI (zfi h0 (k : Int)))) (by omega) (by omega) hF2
           rw [zow_n (by omega)] at e9; exact e9)
set_option maxRecDepth 4000 in
theorem X8_owes_ct {l : Launch} {Γ : zC} {h0 h : zM} {Q : Option zV → zC → zM → Prop} (hI : zIv Γ h0) (hF : zfr zSS h0 h) (hO : h0 89 30 = -1) (hQ : ∀ h9, zfr zSS h0 h9 → Q (some (zI (zvOwes h0))) Γ h9) : zCT l mX8_owes 6 0 0 Γ [zR 1] h Q := by
  have hΓ := hI.base
  have hx2 := hI.isl
  refine zCT_of (by decide) (Nat.le_of_ble_eq_true rfl) (ls := [some (zR 1), none, none, none, none]) rfl ?_
  refine z_iconst dX8_owes_0 (by decide) ?_
  refine z_is1 dX8_owes_1 (Nat.le_of_ble_eq_true rfl) rfl ?_
  refine z_iconst dX8_owes_2 (by decide) ?_
  refine z_is2 dX8_owes_3 (Nat.le_of_ble_eq_true rfl) rfl ?_
  refine z_iconst dX8_owes_4 (by decide) ?_
  refine z_is3 dX8_owes_5 (Nat.le_of_ble_eq_true rfl) rfl ?_
  exact X8_owes_l hI hO hQ _ 0 _ _ (Nat.lt_succ_self _) (by omega) hF
set_option maxRecDepth 4000 in
theorem X9_owes_l {l : Launch} {Γ : zC} {h0 : zM} {Q : Option zV → zC → zM → Prop} (hI : zIv Γ h0) (hQ : ∀ h9, zfr zSS h0 h9 → Q (some (zI (zow h0 (h0 89 22).toNat).2)) Γ h9) : ∀ (m : Nat) (k : Nat) (h : zM), (h0 89 22).toNat - k < m → k ≤ (h0 89 22).toNat → zfr zSS h0 h → zG (zFn l mX9_owes 1683 0 0 Γ Q) 0 0 Γ h 9 [some (zR 89), some (zI (zow h0 k).2), some (zI (k : Int))] [] := by
  have hΓ := hI.base
  have hx2 := hI.isl
  intro m
  induction m with
  | zero => intros; omega
  | succ m ih =>
    intro k h hm hk hF
    have hb := zow_b h0 k
    refine z_il2 dX9_owes_9 ?_
    refine z_al0 dX9_owes_10 (by first | decide | omega | assumption) ?_
    refine z_getI zfX9_276 dX9_owes_11 (zkB hΓ rfl) rfl ?_
    rw [hF 89 22 rfl]
    try simp only [zup_ap, zup_row, ne_eq, not_false_eq_true, zres, Int.toNat_natCast, reduceIte, Nat.reduceEqDiff, Nat.reduceAdd, and_self, and_true, true_and, and_false, false_and]
    refine z_icmp_ge (t := 51) dX9_owes_14 (by rfl) (fun ht14 => ?_) (fun hf14 => ?_)
    · refine z_il1 dX9_owes_51 ?_
      refine z_iret dX9_owes_52 rfl (Nat.le_refl _) (Nat.le_refl _) (zext_rf _) (fun hrr => ?_)
      rw [show k = (h0 89 22).toNat by omega]
      exact hQ _ hF
    · refine z_al0 dX9_owes_17 (by first | decide | omega | assumption) ?_
      refine z_il2 dX9_owes_18 ?_
      refine zcv1 dX9_owes_19 zkX9_432 ziX9_finesOf zsX9_finesOf (zkB hΓ rfl) (by decide) rfl (Nat.le_of_ble_eq_true rfl) (by decide) (by first | decide | omega) ⟨Nat.le_refl _, Nat.le_refl _⟩ (X9_finesOf_ct hI hF (fun h2 hF2 _ => ?_))
      try simp only [zup_ap, zup_row, ne_eq, not_false_eq_true, zres, Int.toNat_natCast, reduceIte, Nat.reduceEqDiff, Nat.reduceAdd, and_self, and_true, true_and, and_false, false_and]
      refine z_if_le (t := 45) dX9_owes_22 (by rfl) (fun ht22 => ?_) (fun hf22 => ?_)
      · refine z_ii2 dX9_owes_45 (by omega) (Nat.le_of_ble_eq_true rfl) rfl ?_
        refine z_goto (t := 9) dX9_owes_48 (by rfl) ?_
        first
        | (have e9 := ih (k + 1) _ (by omega) (by omega) hF2
           rw [zow_n (by omega)] at e9; exact e9)
        | (have e9 := ih (k + 1) _ (by omega) (by omega) hF2
           rw [zow_y (by omega)] at e9; exact e9)
        | (have e9 := ih (k + 1) _ (by omega) (by omega) hF4
           rw [zow_n (by omega)] at e9; exact e9)
        | (have e9 := ih (k + 1) _ (by omega) (by omega) hF4
           rw [zow_y (by omega)] at e9; exact e9)
      · refine z_il1 dX9_owes_25 ?_
        refine z_iconst dX9_owes_26 (by decide) ?_
        refine z_icmp_eq (t := 43) dX9_owes_27 (by rfl) (fun ht27 => ?_) (fun hf27 => ?_)
        · refine z_il2 dX9_owes_43 ?_
          refine z_is1 dX9_owes_44 (Nat.le_of_ble_eq_true rfl) rfl ?_
          refine z_ii2 dX9_owes_45 (by omega) (Nat.le_of_ble_eq_true rfl) rfl ?_
          refine z_goto (t := 9) dX9_owes_48 (by rfl) ?_
          first
          | (have e9 := ih (k + 1) _ (by omega) (by omega) hF2
             rw [zow_n (by omega)] at e9; exact e9)
          | (have e9 := ih (k + 1) _ (by omega) (by omega) hF2
             rw [zow_y (by omega)] at e9; exact e9)
          | (have e9 := ih (k + 1) _ (by omega) (by omega) hF4
             rw [zow_n (by omega)] at e9; exact e9)
          | (have e9 := ih (k + 1) _ (by omega) (by omega) hF4
             rw [zow_y (by omega)] at e9; exact e9)
        · refine z_al0 dX9_owes_30 (by first | decide | omega | assumption) ?_
          refine z_il2 dX9_owes_31 ?_
          refine zcv1 dX9_owes_32 zkX9_432 ziX9_finesOf zsX9_finesOf (zkB hΓ rfl) (by decide) rfl (Nat.le_of_ble_eq_true rfl) (by decide) (by first | decide | omega) ⟨Nat.le_refl _, Nat.le_refl _⟩ (X9_finesOf_ct hI hF2 (fun h3 hF3 _ => ?_))
          try simp only [zup_ap, zup_row, ne_eq, not_false_eq_true, zres, Int.toNat_natCast, reduceIte, Nat.reduceEqDiff, Nat.reduceAdd, and_self, and_true, true_and, and_false, false_and]
          refine z_al0 dX9_owes_35 (by first | decide | omega | assumption) ?_
          refine z_il1 dX9_owes_36 ?_
          refine zcv1 dX9_owes_37 zkX9_432 ziX9_finesOf zsX9_finesOf (zkB hΓ rfl) (by decide) rfl (Nat.le_of_ble_eq_true rfl) (by decide) (by first | decide | omega) ⟨Nat.le_refl _, Nat.le_refl _⟩ (X9_finesOf_ct hI hF3 (fun h4 hF4 _ => ?_))
          try simp only [zup_ap, zup_row, ne_eq, not_false_eq_true, zres, Int.toNat_natCast, reduceIte, Nat.reduceEqDiff, Nat.reduceAdd, and_self, and_true, true_and, and_false, false_and]
          refine z_icmp_le (t := 45) dX9_owes_40 (by rfl) (fun ht40 => ?_) (fun hf40 => ?_)
          · refine z_ii2 dX9_owes_45 (by omega) (Nat.le_of_ble_eq_true rfl) rfl ?_
            refine z_goto (t := 9) dX9_owes_48 (by rfl) ?_
            first
            | (have e9 := ih (k + 1) _ (by omega) (by omega) hF2
               rw [zow_n (by omega)] at e9; exact e9)
            | (have e9 := ih (k + 1) _ (by omega) (by omega) hF2
               rw [zow_y (by omega)] at e9; exact e9)
            | (have e9 := ih (k + 1) _ (by omega) (by omega) hF4
               rw [zow_n (by omega)] at e9; exact e9)
            | (have e9 := ih (k + 1) _ (by omega) (by omega) hF4
               rw [zow_y (by omega)] at e9; exact e9)
          · refine z_il2 dX9_owes_43 ?_
            refine z_is1 dX9_owes_44 (Nat.le_of_ble_eq_true rfl) rfl ?_
            refine z_ii2 dX9_owes_45 (by omega) (Nat.le_of_ble_eq_true rfl) rfl ?_
            refine z_goto (t := 9) dX9_owes_48 (by rfl) ?_
            first
            | (have e9 := ih (k + 1) _ (by omega) (by omega) hF2
               rw [zow_n (by omega)] at e9; exact e9)
            | (have e9 := ih (k + 1) _ (by omega) (by omega) hF2
               rw [zow_y (by omega)] at e9; exact e9)
            | (have e9 := ih (k + 1) _ (by omega) (by omega) hF4
               rw [zow_n (by omega)] at e9; exact e9)
            | (have e9 := ih (k + 1) _ (by omega) (by omega) hF4
               rw [zow_y (by omega)] at e9; exact e9)
set_option maxRecDepth 4000 in
theorem X9_owes_ct {l : Launch} {Γ : zC} {h0 h : zM} {Q : Option zV → zC → zM → Prop} (hI : zIv Γ h0) (hF : zfr zSS h0 h) (hQ : ∀ h9, zfr zSS h0 h9 → Q (some (zI (zvOwes h0))) Γ h9) : zCT l mX9_owes 1683 0 0 Γ [zR 89] h Q := by
  have hΓ := hI.base
  have hx2 := hI.isl
  refine zCT_of (by decide) (Nat.le_of_ble_eq_true rfl) (ls := [some (zR 89), none, none]) rfl ?_
  refine z_al0 dX9_owes_0 (by first | decide | omega | assumption) ?_
  refine z_iconst dX9_owes_1 (by decide) ?_
  refine z_putI zfX9_128 dX9_owes_2 (zkB hΓ rfl) rfl rfl ?_
  replace hF : zfr zSS h0 (zup h 89 0 0) := zfr_up hF rfl
  generalize zup h 89 0 0 = h at hF ⊢
  refine z_iconst dX9_owes_5 (by decide) ?_
  refine z_is1 dX9_owes_6 (Nat.le_of_ble_eq_true rfl) rfl ?_
  refine z_iconst dX9_owes_7 (by decide) ?_
  refine z_is2 dX9_owes_8 (Nat.le_of_ble_eq_true rfl) rfl ?_
  exact X9_owes_l hI hQ _ 0 _ (Nat.lt_succ_self _) (by omega) hF
/-- forbidden on no day from one on -/
def zaf (h : zM) (i v : Int) : Nat → Int → Bool
  | 0, _ => true
  | m + 1, d => decide (zFo h i v d = 0) && zaf h i v m (d + 1)
theorem zaf_y {h : zM} {i v d : Int} {m : Nat} (c : zFo h i v d = 0) : zaf h i v (m + 1) d = zaf h i v m (d + 1) := by rw [zaf, decide_eq_true c, Bool.true_and]
theorem zaf_n {h : zM} {i v d : Int} {m : Nat} (c : zFo h i v d ≠ 0) : zaf h i v (m + 1) d = false := by rw [zaf, decide_eq_false c, Bool.false_and]
def zslD (h : zM) (n : Int) : Int := if h 89 29 + n < 99 then h 89 29 + n else 99
def zvSafe (h : zM) (i n : Int) : Int := if (0 ≤ i ∧ i < h 89 22) ∧ (0 ≤ n ∧ n ≤ 99) then zlf (fun v => zaf h i (v : Int) (zslD h n + 1 - h 89 29).toNat (h 89 29)) 999 1 else -1
set_option maxRecDepth 4000 in
theorem X7_nF_l {l : Launch} {Γ : zC} {h0 : zM} {Q : Option zV → zC → zM → Prop} {i v e : Int} {B : Bool} (hI : zIv Γ h0) (hO : h0 89 30 = -1) (hv : 0 ≤ i ∧ i < h0 89 22) (hv9 : v ≤ 999) (he : e ≤ 99) (hQ0 : B = false → ∀ h9, zfr zSS h0 h9 → Q (some (zI 0)) Γ h9) (hQ1 : B = true → ∀ h9, zfr zSS h0 h9 → Q (some (zI 1)) Γ h9) : ∀ (m : Nat) (d : Int) (h : zM), e + 1 - d < m → (0 ≤ d ∧ d ≤ e + 1) → zfr zSS h0 h → zaf h0 i v (e + 1 - d).toNat d = B → zG (zFn l mX7_neverForbids 4 0 0 Γ Q) 0 0 Γ h 9 [some (zR 15), some (zI i), some (zI v), some (zI e), some (zI d)] [] := by
  have hΓ := hI.base
  have hx2 := hI.isl
  intro m
  induction m with
  | zero => intros; omega
  | succ m ih =>
    intro d h hm hd hF hV
    refine z_il4 dX7_neverForbids_9 ?_
    refine z_il3 dX7_neverForbids_11 ?_
    refine z_icmp_gt (t := 34) dX7_neverForbids_12 (by rfl) (fun ht12 => ?_) (fun hf12 => ?_)
    · refine z_iconst dX7_neverForbids_34 (by decide) ?_
      refine z_zret dX7_neverForbids_35 rfl (Nat.le_refl _) (Nat.le_refl _) (zext_rf _) (by first | exact Or.inl rfl | exact Or.inr rfl | omega) ?_
      rw [show (e + 1 - d).toNat = 0 by omega] at hV
      exact hQ1 hV.symm _ hF
    · refine z_al0 dX7_neverForbids_15 (by first | decide | omega | assumption) ?_
      refine z_il1 dX7_neverForbids_16 ?_
      refine z_il2 dX7_neverForbids_17 ?_
      refine z_il4 dX7_neverForbids_18 ?_
      refine zcv3 dX7_neverForbids_20 zkX7_76 ziX7_forbids zsX7_forbids (zkB hΓ rfl) (by decide) rfl (Nat.le_of_ble_eq_true rfl) (by decide) (by first | decide | omega) ⟨Nat.le_refl _, Nat.le_refl _⟩ (X7_forbids_ct hI hF hO hv (by omega) (fun h9 hK9 _ => ?_))
      try simp only [zup_ap, zup_row, ne_eq, not_false_eq_true, zres, Int.toNat_natCast, reduceIte, Nat.reduceEqDiff, Nat.reduceAdd, and_self, and_true, true_and, and_false, false_and]
      refine z_if_eq (t := 28) dX7_neverForbids_23 (by rfl) (fun ht23 => ?_) (fun hf23 => ?_)
      · refine z_ii4 dX7_neverForbids_28 (by omega) (Nat.le_of_ble_eq_true rfl) rfl ?_
        refine z_goto (t := 9) dX7_neverForbids_31 (by rfl) ?_
        rw [show (e + 1 - d).toNat = (e + 1 - (d + 1)).toNat + 1 by omega] at hV
        rw [zaf_y (by omega)] at hV
        exact ih (d + 1) _ (by omega) (by omega) (zfr_K hF hK9) hV
      · refine z_iconst dX7_neverForbids_26 (by decide) ?_
        refine z_zret dX7_neverForbids_27 rfl (Nat.le_refl _) (Nat.le_refl _) (zext_rf _) (by first | exact Or.inl rfl | exact Or.inr rfl) ?_
        rw [show (e + 1 - d).toNat = (e + 1 - (d + 1)).toNat + 1 by omega, zaf_n (by omega)] at hV
        exact hQ0 hV.symm _ (zfr_K hF hK9)
set_option maxRecDepth 4000 in
theorem X7_neverForbids_ct {l : Launch} {Γ : zC} {h0 h : zM} {Q : Option zV → zC → zM → Prop} {i v e : Int} (hI : zIv Γ h0) (hF : zfr zSS h0 h) (hO : h0 89 30 = -1) (hv : 0 ≤ i ∧ i < h0 89 22) (hv9 : v ≤ 999) (he : h0 89 29 ≤ e ∧ e ≤ 99) (hQ0 : zaf h0 i v (e + 1 - h0 89 29).toNat (h0 89 29) = false → ∀ h9, zfr zSS h0 h9 → Q (some (zI 0)) Γ h9) (hQ1 : zaf h0 i v (e + 1 - h0 89 29).toNat (h0 89 29) = true → ∀ h9, zfr zSS h0 h9 → Q (some (zI 1)) Γ h9) : zCT l mX7_neverForbids 4 0 0 Γ [zR 15, zI i, zI v, zI e] h Q := by
  have hΓ := hI.base
  have hx2 := hI.isl
  have hnw := hI.now
  replace he := And.intro he.1 he.2
  refine zCT_of (by decide) (Nat.le_of_ble_eq_true rfl) (ls := [some (zR 15), some (zI i), some (zI v), some (zI e), none]) rfl ?_
  refine z_al0 dX7_neverForbids_0 (by first | decide | omega | assumption) ?_
  refine z_getR zfX7_21 dX7_neverForbids_1 (zkB hΓ rfl) rfl (zsB hΓ rfl) (zvB hΓ (by decide)) ?_
  refine z_getI zfX7_73 dX7_neverForbids_4 (zkB hΓ rfl) rfl ?_
  rw [hF 25 0 rfl, hI.now.1]
  try simp only [zup_ap, zup_row, ne_eq, not_false_eq_true, zres, Int.toNat_natCast, reduceIte, Nat.reduceEqDiff, Nat.reduceAdd, and_self, and_true, true_and, and_false, false_and]
  refine z_is4 dX7_neverForbids_7 (Nat.le_of_ble_eq_true rfl) rfl ?_
  exact X7_nF_l hI hO hv hv9 he.2 hQ0 hQ1 ((e + 1 - h0 89 29).toNat + 1) _ _ (by omega) (by omega) hF rfl
set_option maxRecDepth 4000 in
theorem X8_safe_l {l : Launch} {Γ : zC} {h0 : zM} {Q : Option zV → zC → zM → Prop} {i n V : Int} (hI : zIv Γ h0) (hO : h0 89 30 = -1) (hv : 0 ≤ i ∧ i < h0 89 22) (hn : 0 ≤ n ∧ n ≤ 99) (hQ : ∀ h9, zfr zSS h0 h9 → Q (some (zI V)) Γ h9) : ∀ (m : Nat) (v : Nat) (h : zM), 1000 - v < m → (1 ≤ v ∧ v ≤ 1000) → zfr zSS h0 h → zlf (fun v : Nat => zaf h0 i (v : Int) (zslD h0 n + 1 - h0 89 29).toNat (h0 89 29)) (1000 - v) v = V → zG (zFn l mX8_safe 5 0 0 Γ Q) 0 0 Γ h 44 [some (zR 1), some (zI i), some (zI n), some (zI (zslD h0 n)), some (zI (v : Int))] [] := by
  have hΓ := hI.base
  have hx2 := hI.isl
  have hnw := hI.now
  have hsl : h0 89 29 ≤ zslD h0 n ∧ zslD h0 n ≤ 99 := by unfold zslD; split <;> omega
  intro m
  induction m with
  | zero => intros; omega
  | succ m ih =>
    intro v h hm hv1 hF hV
    refine z_il4 dX8_safe_44 ?_
    refine z_sipush (x := 999) dX8_safe_46 (by rfl) (by decide) ?_
    refine z_icmp_gt (t := 75) dX8_safe_49 (by rfl) (fun ht49 => ?_) (fun hf49 => ?_)
    · refine z_iconst dX8_safe_75 (by decide) ?_
      refine z_iret dX8_safe_76 rfl (Nat.le_refl _) (Nat.le_refl _) (zext_rf _) (fun hrr => ?_)
      rw [show 1000 - v = 0 by omega] at hV
      have hV2 : V = -1 := hV.symm
      subst hV2
      exact hQ _ hF
    · refine z_al0 dX8_safe_52 (by first | decide | omega | assumption) ?_
      refine z_getR zfX8_35 dX8_safe_53 (zkB hΓ rfl) rfl (zsB hΓ rfl) (zvB hΓ (by decide)) ?_
      refine z_il1 dX8_safe_56 ?_
      refine z_il4 dX8_safe_57 ?_
      refine z_il3 dX8_safe_59 ?_
      refine zcv3 dX8_safe_60 zkX8_266 ziX7_neverForbids zsX7_neverForbids (zkB hΓ rfl) (by decide) rfl (Nat.le_of_ble_eq_true rfl) (by decide) (by first | decide | omega) ⟨Nat.le_refl _, Nat.le_refl _⟩ (X7_neverForbids_ct hI hF hO hv (by omega) (by omega) (fun hp9 h2 hF2 _ => ?_) (fun hp9 h2 hF2 _ => ?_))
      · try simp only [zup_ap, zup_row, ne_eq, not_false_eq_true, zres, Int.toNat_natCast, reduceIte, Nat.reduceEqDiff, Nat.reduceAdd, and_self, and_true, true_and, and_false, false_and]
        refine z_if_eq (t := 69) dX8_safe_63 (by rfl) (fun _ => ?_) (fun hx => absurd hx (by decide))
        refine z_ii4 dX8_safe_69 (by omega) (Nat.le_of_ble_eq_true rfl) rfl ?_
        refine z_goto (t := 44) dX8_safe_72 (by rfl) ?_
        rw [show 1000 - v = (1000 - (v + 1)) + 1 by omega] at hV
        rw [zlf_n (f := (fun v : Nat => zaf h0 i (v : Int) (zslD h0 n + 1 - h0 89 29).toNat (h0 89 29))) hp9] at hV
        exact ih (v + 1) _ (by omega) (by omega) hF2 hV
      · try simp only [zup_ap, zup_row, ne_eq, not_false_eq_true, zres, Int.toNat_natCast, reduceIte, Nat.reduceEqDiff, Nat.reduceAdd, and_self, and_true, true_and, and_false, false_and]
        refine z_if_eq (t := 69) dX8_safe_63 (by rfl) (fun hx => absurd hx (by decide)) (fun _ => ?_)
        refine z_il4 dX8_safe_66 ?_
        refine z_iret dX8_safe_68 rfl (Nat.le_refl _) (Nat.le_refl _) (zext_rf _) (fun hrr => ?_)
        rw [show 1000 - v = (1000 - (v + 1)) + 1 by omega] at hV
        rw [zlf_y (f := (fun v : Nat => zaf h0 i (v : Int) (zslD h0 n + 1 - h0 89 29).toNat (h0 89 29))) hp9] at hV
        subst hV
        exact hQ _ hF2
set_option maxRecDepth 4000 in
theorem X8_safe_ct {l : Launch} {Γ : zC} {h0 h : zM} {Q : Option zV → zC → zM → Prop} {i n : Int} (hI : zIv Γ h0) (hF : zfr zSS h0 h) (hO : h0 89 30 = -1) (hQ : ∀ h9, zfr zSS h0 h9 → Q (some (zI (zvSafe h0 i n))) Γ h9) : zCT l mX8_safe 5 0 0 Γ [zR 1, zI i, zI n] h Q := by
  have hΓ := hI.base
  have hx2 := hI.isl
  have hnw := hI.now
  refine zCT_of (by decide) (Nat.le_of_ble_eq_true rfl) (ls := [some (zR 1), some (zI i), some (zI n), none, none]) rfl ?_
  refine z_al0 dX8_safe_0 (by first | decide | omega | assumption) ?_
  refine z_getR zfX8_35 dX8_safe_1 (zkB hΓ rfl) rfl (zsB hΓ rfl) (zvB hΓ (by decide)) ?_
  refine z_il1 dX8_safe_4 ?_
  refine zcv1 dX8_safe_5 zkX8_114 ziX7_isIsle zsX7_isIsle (zkB hΓ rfl) (by decide) rfl (Nat.le_of_ble_eq_true rfl) (by decide) (by first | decide | omega) ⟨Nat.le_refl _, Nat.le_refl _⟩ (X7_isIsle_ct hI hF (fun hg1 _ => ?_) (fun hg1 _ => ?_))
  · try simp only [zup_ap, zup_row, ne_eq, not_false_eq_true, zres, Int.toNat_natCast, reduceIte, Nat.reduceEqDiff, Nat.reduceAdd, and_self, and_true, true_and, and_false, false_and]
    refine z_if_eq (t := 21) dX8_safe_8 (by rfl) (fun _ => ?_) (fun hx => absurd hx (by decide))
    refine z_iconst dX8_safe_21 (by decide) ?_
    refine z_iret dX8_safe_22 rfl (Nat.le_refl _) (Nat.le_refl _) (zext_rf _) (fun hrr => ?_)
    have hw9 := hQ _ hF
    unfold zvSafe at hw9
    rw [if_neg (by omega)] at hw9
    exact hw9
  · try simp only [zup_ap, zup_row, ne_eq, not_false_eq_true, zres, Int.toNat_natCast, reduceIte, Nat.reduceEqDiff, Nat.reduceAdd, and_self, and_true, true_and, and_false, false_and]
    refine z_if_eq (t := 21) dX8_safe_8 (by rfl) (fun hx => absurd hx (by decide)) (fun _ => ?_)
    refine z_il2 dX8_safe_11 ?_
    refine z_if_lt (t := 21) dX8_safe_12 (by rfl) (fun ht12 => ?_) (fun hf12 => ?_)
    · refine z_iconst dX8_safe_21 (by decide) ?_
      refine z_iret dX8_safe_22 rfl (Nat.le_refl _) (Nat.le_refl _) (zext_rf _) (fun hrr => ?_)
      have hw9 := hQ _ hF
      unfold zvSafe at hw9
      rw [if_neg (by omega)] at hw9
      exact hw9
    · refine z_il2 dX8_safe_15 ?_
      refine z_bipush (x := 99) dX8_safe_16 (by rfl) (by decide) ?_
      refine z_icmp_le (t := 23) dX8_safe_18 (by rfl) (fun ht18 => ?_) (fun hf18 => ?_)
      · refine z_bipush (x := 99) dX8_safe_23 (by rfl) (by decide) ?_
        refine z_al0 dX8_safe_25 (by first | decide | omega | assumption) ?_
        refine z_getR zfX8_35 dX8_safe_26 (zkB hΓ rfl) rfl (zsB hΓ rfl) (zvB hΓ (by decide)) ?_
        refine z_getR zfX8_190 dX8_safe_29 (zkB hΓ rfl) rfl (zsB hΓ rfl) (zvB hΓ (by decide)) ?_
        refine z_getI zfX8_193 dX8_safe_32 (zkB hΓ rfl) rfl ?_
        rw [hF 25 0 rfl, hI.now.1]
        try simp only [zup_ap, zup_row, ne_eq, not_false_eq_true, zres, Int.toNat_natCast, reduceIte, Nat.reduceEqDiff, Nat.reduceAdd, and_self, and_true, true_and, and_false, false_and]
        refine z_il2 dX8_safe_35 ?_
        refine z_iadd dX8_safe_36 (by omega) ?_
        refine z_mmin dX8_safe_37 zkX8_261 ztJ9_min_7cf53 (Nat.le_of_ble_eq_true rfl) (by first | decide | omega) ⟨Nat.le_refl _, Nat.le_refl _⟩ ?_
        refine z_is3 dX8_safe_40 (Nat.le_of_ble_eq_true rfl) rfl ?_
        refine z_iconst dX8_safe_41 (by decide) ?_
        refine z_is4 dX8_safe_42 (Nat.le_of_ble_eq_true rfl) rfl ?_
        rw [show (if h0 89 29 + n < (99 : Int) then h0 89 29 + n else (99 : Int)) = zslD h0 n from rfl]
        unfold zvSafe at hQ
        rw [if_pos (by omega)] at hQ
        exact X8_safe_l hI hO hg1 (by omega) hQ _ 1 _ (Nat.lt_succ_self _) (by omega) hF rfl
      · refine z_iconst dX8_safe_21 (by decide) ?_
        refine z_iret dX8_safe_22 rfl (Nat.le_refl _) (Nat.le_refl _) (zext_rf _) (fun hrr => ?_)
        have hw9 := hQ _ hF
        unfold zvSafe at hw9
        rw [if_neg (by omega)] at hw9
        exact hw9
set_option maxRecDepth 4000 in
theorem X9_safe_d {l : Launch} {Γ : zC} {h0 : zM} {Q : Option zV → zC → zM → Prop} {i n : Int} {v : Nat} {B : Bool} (hI : zIv Γ h0) (hv : 0 ≤ i ∧ i < h0 89 22) (hn : 0 ≤ n ∧ n ≤ 99) (hv9 : v ≤ 999) (hK : ∀ h9 (is d : Int), zfr zSS h0 h9 → (is = 0 ∧ B = false ∨ is = 1 ∧ B = true) → zG (zFn l mX9_safe 1682 0 0 Γ Q) 0 0 Γ h9 85 [some (zR 89), some (zI i), some (zI n), some (zI (v : Int)), some (zI is), some (zI d)] []) : ∀ (m : Nat) (d is : Int) (h : zM), zslD h0 n + 1 - d < m → (0 ≤ d ∧ d ≤ zslD h0 n + 1) → zfr zSS h0 h → (is = 0 ∧ B = false ∨ is = 1 ∧ zaf h0 i (v : Int) (zslD h0 n + 1 - d).toNat d = B) → zG (zFn l mX9_safe 1682 0 0 Γ Q) 0 0 Γ h 40 [some (zR 89), some (zI i), some (zI n), some (zI (v : Int)), some (zI is), some (zI d)] [] := by
  have hΓ := hI.base
  have hx2 := hI.isl
  have hnw := hI.now
  have hsl : h0 89 29 ≤ zslD h0 n ∧ zslD h0 n ≤ 99 := by unfold zslD; split <;> omega
  intro m
  induction m with
  | zero => intros; omega
  | succ m ih =>
    intro d is h hm hd hF hV
    refine z_il5 dX9_safe_40 ?_
    refine z_bipush (x := 99) dX9_safe_42 (by rfl) (by decide) ?_
    refine z_al0 dX9_safe_44 (by first | decide | omega | assumption) ?_
    refine z_getI zfX9_288 dX9_safe_45 (zkB hΓ rfl) rfl ?_
    rw [hF 89 29 rfl]
    try simp only [zup_ap, zup_row, ne_eq, not_false_eq_true, zres, Int.toNat_natCast, reduceIte, Nat.reduceEqDiff, Nat.reduceAdd, and_self, and_true, true_and, and_false, false_and]
    refine z_il2 dX9_safe_48 ?_
    refine z_iadd dX9_safe_49 (by omega) ?_
    refine z_mmin dX9_safe_50 zkX9_347 ztJ9_min_7cf53 (Nat.le_of_ble_eq_true rfl) (by first | decide | omega) ⟨Nat.le_refl _, Nat.le_refl _⟩ ?_
    rw [show (if h0 89 29 + n < (99 : Int) then h0 89 29 + n else (99 : Int)) = zslD h0 n from rfl]
    refine z_icmp_gt (t := 85) dX9_safe_53 (by rfl) (fun ht53 => ?_) (fun hf53 => ?_)
    · rcases hV with hV | hV
      · exact hK _ _ _ hF (Or.inl hV)
      · refine hK _ _ _ hF (Or.inr ⟨hV.1, ?_⟩)
        rw [show (zslD h0 n + 1 - d).toNat = 0 by omega] at hV
        exact hV.2.symm
    · refine z_il4 dX9_safe_56 ?_
      refine z_if_eq (t := 85) dX9_safe_58 (by rfl) (fun ht58 => ?_) (fun hf58 => ?_)
      · rcases hV with hV | hV
        · exact hK _ _ _ hF (Or.inl hV)
        · refine hK _ _ _ hF (Or.inr ⟨hV.1, ?_⟩)
          rw [show (zslD h0 n + 1 - d).toNat = 0 by omega] at hV
          exact hV.2.symm
      · refine z_al0 dX9_safe_61 (by first | decide | omega | assumption) ?_
        refine z_il1 dX9_safe_62 ?_
        refine z_il3 dX9_safe_63 ?_
        refine z_il5 dX9_safe_64 ?_
        refine zcv3 dX9_safe_66 zkX9_311 ziX9_isForbidden zsX9_isForbidden (zkB hΓ rfl) (by decide) rfl (Nat.le_of_ble_eq_true rfl) (by decide) (by first | decide | omega) ⟨Nat.le_refl _, Nat.le_refl _⟩ (X9_isForbidden_ct hI hF hv (by omega) (fun h9 hM9 _ => ?_))
        try simp only [zup_ap, zup_row, ne_eq, not_false_eq_true, zres, Int.toNat_natCast, reduceIte, Nat.reduceEqDiff, Nat.reduceAdd, and_self, and_true, true_and, and_false, false_and]
        refine z_if_ne (t := 76) dX9_safe_69 (by rfl) (fun ht69 => ?_) (fun hf69 => ?_)
        · refine z_iconst dX9_safe_76 (by decide) ?_
          refine z_is4 dX9_safe_77 (Nat.le_of_ble_eq_true rfl) rfl ?_
          refine z_ii5 dX9_safe_79 (by omega) (Nat.le_of_ble_eq_true rfl) rfl ?_
          refine z_goto (t := 40) dX9_safe_82 (by rfl) ?_
          have hV2 : zaf h0 i (v : Int) (zslD h0 n + 1 - d).toNat d = B := by
            rcases hV with hV | hV
            · omega
            · exact hV.2
          rw [show (zslD h0 n + 1 - d).toNat = (zslD h0 n + 1 - (d + 1)).toNat + 1 by omega] at hV2
          first
          | (rw [zaf_y (by omega)] at hV2
             exact ih (d + 1) 1 _ (by omega) (by omega) (zfr_M hF hM9) (Or.inr ⟨rfl, hV2⟩))
          | (rw [zaf_n (by omega)] at hV2
             exact ih (d + 1) 0 _ (by omega) (by omega) (zfr_M hF hM9) (Or.inl ⟨rfl, hV2.symm⟩))
        · refine z_iconst dX9_safe_72 (by decide) ?_
          refine z_goto (t := 77) dX9_safe_73 (by rfl) ?_
          refine z_is4 dX9_safe_77 (Nat.le_of_ble_eq_true rfl) rfl ?_
          refine z_ii5 dX9_safe_79 (by omega) (Nat.le_of_ble_eq_true rfl) rfl ?_
          refine z_goto (t := 40) dX9_safe_82 (by rfl) ?_
          have hV2 : zaf h0 i (v : Int) (zslD h0 n + 1 - d).toNat d = B := by
            rcases hV with hV | hV
            · omega
            · exact hV.2
          rw [show (zslD h0 n + 1 - d).toNat = (zslD h0 n + 1 - (d + 1)).toNat + 1 by omega] at hV2
          first
          | (rw [zaf_y (by omega)] at hV2
             exact ih (d + 1) 1 _ (by omega) (by omega) (zfr_M hF hM9) (Or.inr ⟨rfl, hV2⟩))
          | (rw [zaf_n (by omega)] at hV2
             exact ih (d + 1) 0 _ (by omega) (by omega) (zfr_M hF hM9) (Or.inl ⟨rfl, hV2.symm⟩))
set_option maxRecDepth 4000 in
theorem X9_safe_l {l : Launch} {Γ : zC} {h0 : zM} {Q : Option zV → zC → zM → Prop} {i n V : Int} (hI : zIv Γ h0) (hv : 0 ≤ i ∧ i < h0 89 22) (hn : 0 ≤ n ∧ n ≤ 99) (hQ : ∀ h9, zfr zSS h0 h9 → Q (some (zI V)) Γ h9) : ∀ (m : Nat) (v : Nat) (h : zM) (y z : Option zV), 1000 - v < m → (1 ≤ v ∧ v ≤ 1000) → zfr zSS h0 h → zlf (fun v : Nat => zaf h0 i (v : Int) (zslD h0 n + 1 - h0 89 29).toNat (h0 89 29)) (1000 - v) v = V → zG (zFn l mX9_safe 1682 0 0 Γ Q) 0 0 Γ h 24 [some (zR 89), some (zI i), some (zI n), some (zI (v : Int)), y, z] [] := by
  have hΓ := hI.base
  have hx2 := hI.isl
  have hnw := hI.now
  have hsl : h0 89 29 ≤ zslD h0 n ∧ zslD h0 n ≤ 99 := by unfold zslD; split <;> omega
  intro m
  induction m with
  | zero => intros; omega
  | succ m ih =>
    intro v h y z hm hv1 hF hV
    refine z_il3 dX9_safe_24 ?_
    refine z_sipush (x := 999) dX9_safe_25 (by rfl) (by decide) ?_
    refine z_icmp_gt (t := 98) dX9_safe_28 (by rfl) (fun ht28 => ?_) (fun hf28 => ?_)
    · refine z_iconst dX9_safe_98 (by decide) ?_
      refine z_iret dX9_safe_99 rfl (Nat.le_refl _) (Nat.le_refl _) (zext_rf _) (fun hrr => ?_)
      rw [show 1000 - v = 0 by omega] at hV
      have hV2 : V = -1 := hV.symm
      subst hV2
      exact hQ _ hF
    · refine z_iconst dX9_safe_31 (by decide) ?_
      refine z_is4 dX9_safe_32 (Nat.le_of_ble_eq_true rfl) rfl ?_
      refine z_al0 dX9_safe_34 (by first | decide | omega | assumption) ?_
      refine z_getI zfX9_288 dX9_safe_35 (zkB hΓ rfl) rfl ?_
      rw [hF 89 29 rfl]
      try simp only [zup_ap, zup_row, ne_eq, not_false_eq_true, zres, Int.toNat_natCast, reduceIte, Nat.reduceEqDiff, Nat.reduceAdd, and_self, and_true, true_and, and_false, false_and]
      refine z_is5 dX9_safe_38 (Nat.le_of_ble_eq_true rfl) rfl ?_
      refine X9_safe_d (B := zaf h0 i (v : Int) (zslD h0 n + 1 - h0 89 29).toNat (h0 89 29)) hI hv hn (by omega) (fun h9 is d hF9 hB9 => ?_) ((zslD h0 n + 1 - h0 89 29).toNat + 1) _ 1 _ (by omega) (by omega) hF (Or.inr ⟨rfl, rfl⟩)
      refine z_il4 dX9_safe_85 ?_
      refine z_if_eq (t := 92) dX9_safe_87 (by rfl) (fun ht87 => ?_) (fun hf87 => ?_)
      · refine z_ii3 dX9_safe_92 (by omega) (Nat.le_of_ble_eq_true rfl) rfl ?_
        refine z_goto (t := 24) dX9_safe_95 (by rfl) ?_
        rw [show 1000 - v = (1000 - (v + 1)) + 1 by omega] at hV
        rw [zlf_n (f := (fun v : Nat => zaf h0 i (v : Int) (zslD h0 n + 1 - h0 89 29).toNat (h0 89 29))) (by rcases hB9 with hB9 | hB9; exact hB9.2; omega)] at hV
        exact ih (v + 1) _ _ _ (by omega) (by omega) hF9 hV
      · refine z_il3 dX9_safe_90 ?_
        refine z_iret dX9_safe_91 rfl (Nat.le_refl _) (Nat.le_refl _) (zext_rf _) (fun hrr => ?_)
        rw [show 1000 - v = (1000 - (v + 1)) + 1 by omega] at hV
        rw [zlf_y (f := (fun v : Nat => zaf h0 i (v : Int) (zslD h0 n + 1 - h0 89 29).toNat (h0 89 29))) (by rcases hB9 with hB9 | hB9; omega; exact hB9.2)] at hV
        subst hV
        exact hQ _ hF9
set_option maxRecDepth 4000 in
theorem X9_safe_ct {l : Launch} {Γ : zC} {h0 h : zM} {Q : Option zV → zC → zM → Prop} {i n : Int} (hI : zIv Γ h0) (hF : zfr zSS h0 h) (hQ : ∀ h9, zfr zSS h0 h9 → Q (some (zI (zvSafe h0 i n))) Γ h9) : zCT l mX9_safe 1682 0 0 Γ [zR 89, zI i, zI n] h Q := by
  have hΓ := hI.base
  have hx2 := hI.isl
  refine zCT_of (by decide) (Nat.le_of_ble_eq_true rfl) (ls := [some (zR 89), some (zI i), some (zI n), none, none, none]) rfl ?_
  refine z_al0 dX9_safe_0 (by first | decide | omega | assumption) ?_
  refine z_iconst dX9_safe_1 (by decide) ?_
  refine z_putI zfX9_128 dX9_safe_2 (zkB hΓ rfl) rfl rfl ?_
  replace hF : zfr zSS h0 (zup h 89 0 0) := zfr_up hF rfl
  generalize zup h 89 0 0 = h at hF ⊢
  refine z_al0 dX9_safe_5 (by first | decide | omega | assumption) ?_
  refine z_il1 dX9_safe_6 ?_
  refine zcv1 dX9_safe_7 zkX9_299 ziX9_isIsle zsX9_isIsle (zkB hΓ rfl) (by decide) rfl (Nat.le_of_ble_eq_true rfl) (by decide) (by first | decide | omega) ⟨Nat.le_refl _, Nat.le_refl _⟩ (X9_isIsle_ct hI hF (fun hg1 _ => ?_) (fun hg1 _ => ?_))
  · try simp only [zup_ap, zup_row, ne_eq, not_false_eq_true, zres, Int.toNat_natCast, reduceIte, Nat.reduceEqDiff, Nat.reduceAdd, and_self, and_true, true_and, and_false, false_and]
    refine z_if_eq (t := 20) dX9_safe_10 (by rfl) (fun _ => ?_) (fun hx => absurd hx (by decide))
    refine z_iconst dX9_safe_20 (by decide) ?_
    refine z_iret dX9_safe_21 rfl (Nat.le_refl _) (Nat.le_refl _) (zext_rf _) (fun hrr => ?_)
    have hw9 := hQ _ hF
    unfold zvSafe at hw9
    rw [if_neg (by omega)] at hw9
    exact hw9
  · try simp only [zup_ap, zup_row, ne_eq, not_false_eq_true, zres, Int.toNat_natCast, reduceIte, Nat.reduceEqDiff, Nat.reduceAdd, and_self, and_true, true_and, and_false, false_and]
    refine z_if_eq (t := 20) dX9_safe_10 (by rfl) (fun hx => absurd hx (by decide)) (fun _ => ?_)
    refine z_il2 dX9_safe_13 ?_
    refine zcs1 dX9_safe_14 zkX9_302 ztX9_isDay (Nat.le_of_ble_eq_true rfl) (by decide) (by first | decide | omega) ⟨Nat.le_refl _, Nat.le_refl _⟩ (X9_isDay_ct (fun hg2 _ => ?_) (fun hg2 _ => ?_))
    · try simp only [zup_ap, zup_row, ne_eq, not_false_eq_true, zres, Int.toNat_natCast, reduceIte, Nat.reduceEqDiff, Nat.reduceAdd, and_self, and_true, true_and, and_false, false_and]
      refine z_if_ne (t := 22) dX9_safe_17 (by rfl) (fun hx => absurd hx (by decide)) (fun _ => ?_)
      refine z_iconst dX9_safe_20 (by decide) ?_
      refine z_iret dX9_safe_21 rfl (Nat.le_refl _) (Nat.le_refl _) (zext_rf _) (fun hrr => ?_)
      have hw9 := hQ _ hF
      unfold zvSafe at hw9
      rw [if_neg (by omega)] at hw9
      exact hw9
    · try simp only [zup_ap, zup_row, ne_eq, not_false_eq_true, zres, Int.toNat_natCast, reduceIte, Nat.reduceEqDiff, Nat.reduceAdd, and_self, and_true, true_and, and_false, false_and]
      refine z_if_ne (t := 22) dX9_safe_17 (by rfl) (fun _ => ?_) (fun hx => absurd hx (by decide))
      refine z_iconst dX9_safe_22 (by decide) ?_
      refine z_is3 dX9_safe_23 (Nat.le_of_ble_eq_true rfl) rfl ?_
      unfold zvSafe at hQ
      rw [if_pos (by omega)] at hQ
      exact X9_safe_l hI hg1 (by omega) hQ _ 1 _ _ _ (Nat.lt_succ_self _) (by omega) hF rfl
/-- what a number is spoken as -/
def zsk (b : Nat → Int) : Nat → Nat
  | 0 => 0
  | n + 1 => if b (n + 1) = 0 then n + 1 else zsk b n
theorem zsk_y {b : Nat → Int} {n : Nat} (h : b (n + 1) = 0) : zsk b (n + 1) = n + 1 := by rw [zsk, if_pos h]
theorem zsk_n {b : Nat → Int} {n : Nat} (h : b (n + 1) ≠ 0) : zsk b (n + 1) = zsk b n := by rw [zsk, if_neg h]
theorem zsk_b (b : Nat → Int) : ∀ n, zsk b n ≤ n
  | 0 => Nat.le_refl _
  | n + 1 => by
    have := zsk_b b n
    unfold zsk; split <;> omega
def zvSpoken (h : zM) (i n : Int) : Int := if (0 ≤ i ∧ i < h 89 22) ∧ (0 ≤ n ∧ n ≤ 999) then (zsk (zbF h i (h 89 29)) n.toNat : Int) else -1
set_option maxRecDepth 4000 in
theorem X7_spokenAs_l {l : Launch} {Γ : zC} {h0 h1 : zM} {Q : Option zV → zC → zM → Prop} {i n : Int} (hI : zIv Γ h0) (hF1 : zfr zSS h0 h1) (hO : h0 89 30 = -1) (hv : 0 ≤ i ∧ i < h0 89 22) {V : Nat} (hQ : ∀ h9, zfK h1 h9 → Q (some (zI (V : Int))) Γ h9) : ∀ (m : Nat) (a : Nat) (h : zM), a < m → a ≤ 999 → zfK h1 h → zsk (zbF h0 i (h0 89 29)) a = V → zG (zFn l mX7_spokenAs 5 0 0 Γ Q) 0 0 Γ h 2 [some (zR 15), some (zI i), some (zI n), some (zI (a : Int))] [] := by
  have hΓ := hI.base
  have hx2 := hI.isl
  intro m
  induction m with
  | zero => intros; omega
  | succ m ih =>
    intro a h hm ha hE hV
    have hF := zfr_K hF1 hE
    refine z_il3 dX7_spokenAs_2 ?_
    refine z_if_le (t := 23) dX7_spokenAs_3 (by rfl) (fun ht3 => ?_) (fun hf3 => ?_)
    · refine z_iconst dX7_spokenAs_23 (by decide) ?_
      refine z_iret dX7_spokenAs_24 rfl (Nat.le_refl _) (Nat.le_refl _) (zext_rf _) (fun hrr => ?_)
      rw [show a = 0 by omega] at hV
      have hV2 : V = 0 := hV.symm
      subst hV2
      exact hQ _ hE
    · refine z_al0 dX7_spokenAs_6 (by first | decide | omega | assumption) ?_
      refine z_il1 dX7_spokenAs_7 ?_
      refine z_il3 dX7_spokenAs_8 ?_
      refine zcv2 dX7_spokenAs_9 zkX7_99 ziX7_forbidsNow zsX7_forbidsNow (zkB hΓ rfl) (by decide) rfl (Nat.le_of_ble_eq_true rfl) (by decide) (by first | decide | omega) ⟨Nat.le_refl _, Nat.le_refl _⟩ (X7_forbidsNow_ct hI hF hO hv (by omega) (fun h9 hK9 _ => ?_))
      try simp only [zup_ap, zup_row, ne_eq, not_false_eq_true, zres, Int.toNat_natCast, reduceIte, Nat.reduceEqDiff, Nat.reduceAdd, and_self, and_true, true_and, and_false, false_and]
      refine z_if_ne (t := 17) dX7_spokenAs_12 (by rfl) (fun ht12 => ?_) (fun hf12 => ?_)
      · refine z_ii3 dX7_spokenAs_17 (by omega) (Nat.le_of_ble_eq_true rfl) rfl ?_
        refine z_goto (t := 2) dX7_spokenAs_20 (by rfl) ?_
        have ea : a = (a - 1) + 1 := by omega
        rw [ea] at hV
        rw [zsk_n (by rw [← ea]; show zFo _ _ _ _ ≠ 0; omega)] at hV
        rw [show (a : Int) + -1 = ((a - 1 : Nat) : Int) by omega]
        exact ih (a - 1) _ (by omega) (by omega) (zfK_tr hE hK9) hV
      · refine z_il3 dX7_spokenAs_15 ?_
        refine z_iret dX7_spokenAs_16 rfl (Nat.le_refl _) (Nat.le_refl _) (zext_rf _) (fun hrr => ?_)
        have ea : a = (a - 1) + 1 := by omega
        rw [ea] at hV
        rw [zsk_y (by rw [← ea]; show zFo _ _ _ _ = 0; omega), ← ea] at hV
        subst hV
        exact hQ _ (zfK_tr hE hK9)
set_option maxRecDepth 4000 in
theorem X7_spokenAs_ct {l : Launch} {Γ : zC} {h0 h : zM} {Q : Option zV → zC → zM → Prop} {i : Int} {n : Nat} (hI : zIv Γ h0) (hF : zfr zSS h0 h) (hO : h0 89 30 = -1) (hv : 0 ≤ i ∧ i < h0 89 22) (hn9 : n ≤ 999) (hQ : ∀ h9, zfK h h9 → Q (some (zI (zsk (zbF h0 i (h0 89 29)) n : Nat))) Γ h9) : zCT l mX7_spokenAs 5 0 0 Γ [zR 15, zI i, zI (n : Int)] h Q := by
  have hΓ := hI.base
  have hx2 := hI.isl
  refine zCT_of (by decide) (Nat.le_of_ble_eq_true rfl) (ls := [some (zR 15), some (zI i), some (zI (n : Int)), none]) rfl ?_
  refine z_il2 dX7_spokenAs_0 ?_
  refine z_is3 dX7_spokenAs_1 (Nat.le_of_ble_eq_true rfl) rfl ?_
  exact X7_spokenAs_l hI hF hO hv hQ _ n _ (Nat.lt_succ_self _) (by omega) (zfK_rf _) rfl
set_option maxRecDepth 4000 in
theorem X9_spokenAs_l {l : Launch} {Γ : zC} {h0 : zM} {Q : Option zV → zC → zM → Prop} {i n : Int} (hI : zIv Γ h0) (hv : 0 ≤ i ∧ i < h0 89 22) {V : Nat} (hQ : ∀ h9, zfr zSS h0 h9 → Q (some (zI (V : Int))) Γ h9) : ∀ (m : Nat) (a : Nat) (h : zM), a < m → a ≤ 999 → zfr zSS h0 h → zsk (zbF h0 i (h0 89 29)) a = V → zG (zFn l mX9_spokenAs 1681 0 0 Γ Q) 0 0 Γ h 2 [some (zR 89), some (zI i), some (zI n), some (zI (a : Int))] [] := by
  have hΓ := hI.base
  have hx2 := hI.isl
  intro m
  induction m with
  | zero => intros; omega
  | succ m ih =>
    intro a h hm ha hF hV
    refine z_al0 dX9_spokenAs_2 (by first | decide | omega | assumption) ?_
    refine z_il1 dX9_spokenAs_3 ?_
    refine z_il3 dX9_spokenAs_4 ?_
    refine z_al0 dX9_spokenAs_5 (by first | decide | omega | assumption) ?_
    refine z_getI zfX9_288 dX9_spokenAs_6 (zkB hΓ rfl) rfl ?_
    rw [hF 89 29 rfl]
    try simp only [zup_ap, zup_row, ne_eq, not_false_eq_true, zres, Int.toNat_natCast, reduceIte, Nat.reduceEqDiff, Nat.reduceAdd, and_self, and_true, true_and, and_false, false_and]
    refine zcv3 dX9_spokenAs_9 zkX9_311 ziX9_isForbidden zsX9_isForbidden (zkB hΓ rfl) (by decide) rfl (Nat.le_of_ble_eq_true rfl) (by decide) (by first | decide | omega) ⟨Nat.le_refl _, Nat.le_refl _⟩ (X9_isForbidden_ct hI hF hv (by omega) (fun h9 hM9 _ => ?_))
    try simp only [zup_ap, zup_row, ne_eq, not_false_eq_true, zres, Int.toNat_natCast, reduceIte, Nat.reduceEqDiff, Nat.reduceAdd, and_self, and_true, true_and, and_false, false_and]
    refine z_if_eq (t := 21) dX9_spokenAs_12 (by rfl) (fun ht12 => ?_) (fun hf12 => ?_)
    · refine z_il3 dX9_spokenAs_21 ?_
      refine z_iret dX9_spokenAs_22 rfl (Nat.le_refl _) (Nat.le_refl _) (zext_rf _) (fun hrr => ?_)
      by_cases e0 : a = 0
      · subst e0
        have hV2 : V = 0 := hV.symm
        subst hV2
        exact hQ _ (zfr_M hF hM9)
      · have ea : a = (a - 1) + 1 := by omega
        rw [ea] at hV
        rw [zsk_y (by rw [← ea]; show zFo _ _ _ _ = 0; omega), ← ea] at hV
        subst hV
        exact hQ _ (zfr_M hF hM9)
    · refine z_ii3 dX9_spokenAs_15 (by omega) (Nat.le_of_ble_eq_true rfl) rfl ?_
      refine z_goto (t := 2) dX9_spokenAs_18 (by rfl) ?_
      have ha0 : a ≠ 0 := fun e => by subst e; rw [zFo_0 (by omega)] at *; omega
      have ea : a = (a - 1) + 1 := by omega
      rw [ea] at hV
      rw [zsk_n (by rw [← ea]; show zFo _ _ _ _ ≠ 0; omega)] at hV
      rw [show (a : Int) + -1 = ((a - 1 : Nat) : Int) by omega]
      exact ih (a - 1) _ (by omega) (by omega) (zfr_M hF hM9) hV
set_option maxRecDepth 4000 in
theorem X9_spokenAs_ct {l : Launch} {Γ : zC} {h0 h : zM} {Q : Option zV → zC → zM → Prop} {i : Int} {n : Nat} (hI : zIv Γ h0) (hF : zfr zSS h0 h) (hv : 0 ≤ i ∧ i < h0 89 22) (hn9 : n ≤ 999) (hQ : ∀ h9, zfr zSS h0 h9 → Q (some (zI ((zsk (zbF h0 i (h0 89 29)) n : Nat)))) Γ h9) : zCT l mX9_spokenAs 1681 0 0 Γ [zR 89, zI i, zI (n : Int)] h Q := by
  have hΓ := hI.base
  have hx2 := hI.isl
  refine zCT_of (by decide) (Nat.le_of_ble_eq_true rfl) (ls := [some (zR 89), some (zI i), some (zI (n : Int)), none]) rfl ?_
  refine z_il2 dX9_spokenAs_0 ?_
  refine z_is3 dX9_spokenAs_1 (Nat.le_of_ble_eq_true rfl) rfl ?_
  exact X9_spokenAs_l hI hv hQ _ n _ (Nat.lt_succ_self _) (by omega) hF rfl
set_option maxRecDepth 4000 in
theorem X8_spoken_ct {l : Launch} {Γ : zC} {h0 h : zM} {Q : Option zV → zC → zM → Prop} {i n : Int} (hI : zIv Γ h0) (hF : zfr zSS h0 h) (hO : h0 89 30 = -1) (hQ : ∀ h9, zfr zSS h0 h9 → Q (some (zI (zvSpoken h0 i n))) Γ h9) : zCT l mX8_spoken 6 0 0 Γ [zR 1, zI i, zI n] h Q := by
  have hΓ := hI.base
  have hx2 := hI.isl
  refine zCT_of (by decide) (Nat.le_of_ble_eq_true rfl) (ls := [some (zR 1), some (zI i), some (zI n)]) rfl ?_
  refine z_al0 dX8_spoken_0 (by first | decide | omega | assumption) ?_
  refine z_getR zfX8_35 dX8_spoken_1 (zkB hΓ rfl) rfl (zsB hΓ rfl) (zvB hΓ (by decide)) ?_
  refine z_il1 dX8_spoken_4 ?_
  refine zcv1 dX8_spoken_5 zkX8_114 ziX7_isIsle zsX7_isIsle (zkB hΓ rfl) (by decide) rfl (Nat.le_of_ble_eq_true rfl) (by decide) (by first | decide | omega) ⟨Nat.le_refl _, Nat.le_refl _⟩ (X7_isIsle_ct hI hF (fun hg1 _ => ?_) (fun hg1 _ => ?_))
  · try simp only [zup_ap, zup_row, ne_eq, not_false_eq_true, zres, Int.toNat_natCast, reduceIte, Nat.reduceEqDiff, Nat.reduceAdd, and_self, and_true, true_and, and_false, false_and]
    refine z_if_eq (t := 18) dX8_spoken_8 (by rfl) (fun _ => ?_) (fun hx => absurd hx (by decide))
    refine z_iconst dX8_spoken_18 (by decide) ?_
    refine z_iret dX8_spoken_19 rfl (Nat.le_refl _) (Nat.le_refl _) (zext_rf _) (fun hrr => ?_)
    have hw9 := hQ _ hF
    unfold zvSpoken at hw9
    rw [if_neg (by omega)] at hw9
    exact hw9
  · try simp only [zup_ap, zup_row, ne_eq, not_false_eq_true, zres, Int.toNat_natCast, reduceIte, Nat.reduceEqDiff, Nat.reduceAdd, and_self, and_true, true_and, and_false, false_and]
    refine z_if_eq (t := 18) dX8_spoken_8 (by rfl) (fun hx => absurd hx (by decide)) (fun _ => ?_)
    refine z_il2 dX8_spoken_11 ?_
    refine zcs1 dX8_spoken_12 zkX8_142 ztX8_isNumber (Nat.le_of_ble_eq_true rfl) (by decide) (by first | decide | omega) ⟨Nat.le_refl _, Nat.le_refl _⟩ (X8_isNumber_ct (fun hg2 _ => ?_) (fun hg2 _ => ?_))
    · try simp only [zup_ap, zup_row, ne_eq, not_false_eq_true, zres, Int.toNat_natCast, reduceIte, Nat.reduceEqDiff, Nat.reduceAdd, and_self, and_true, true_and, and_false, false_and]
      refine z_if_ne (t := 20) dX8_spoken_15 (by rfl) (fun hx => absurd hx (by decide)) (fun _ => ?_)
      refine z_iconst dX8_spoken_18 (by decide) ?_
      refine z_iret dX8_spoken_19 rfl (Nat.le_refl _) (Nat.le_refl _) (zext_rf _) (fun hrr => ?_)
      have hw9 := hQ _ hF
      unfold zvSpoken at hw9
      rw [if_neg (by omega)] at hw9
      exact hw9
    · try simp only [zup_ap, zup_row, ne_eq, not_false_eq_true, zres, Int.toNat_natCast, reduceIte, Nat.reduceEqDiff, Nat.reduceAdd, and_self, and_true, true_and, and_false, false_and]
      refine z_if_ne (t := 20) dX8_spoken_15 (by rfl) (fun _ => ?_) (fun hx => absurd hx (by decide))
      refine z_al0 dX8_spoken_20 (by first | decide | omega | assumption) ?_
      refine z_getR zfX8_35 dX8_spoken_21 (zkB hΓ rfl) rfl (zsB hΓ rfl) (zvB hΓ (by decide)) ?_
      refine z_il1 dX8_spoken_24 ?_
      refine z_il2 dX8_spoken_25 ?_
      obtain ⟨n, rfl⟩ := Int.eq_ofNat_of_zero_le (show 0 ≤ n by omega)
      refine zcv2 dX8_spoken_26 zkX8_272 ziX7_spokenAs zsX7_spokenAs (zkB hΓ rfl) (by decide) rfl (Nat.le_of_ble_eq_true rfl) (by decide) (by first | decide | omega) ⟨Nat.le_refl _, Nat.le_refl _⟩ (X7_spokenAs_ct hI hF hO hg1 (by omega) (fun h2 hK2 _ => ?_))
      try simp only [zup_ap, zup_row, ne_eq, not_false_eq_true, zres, Int.toNat_natCast, reduceIte, Nat.reduceEqDiff, Nat.reduceAdd, and_self, and_true, true_and, and_false, false_and]
      refine z_iret dX8_spoken_29 rfl (Nat.le_refl _) (Nat.le_refl _) (zext_rf _) (fun hrr => ?_)
      have hw9 := hQ _ (zfr_K hF hK2)
      unfold zvSpoken at hw9
      rw [if_pos (by omega)] at hw9
      rw [Int.toNat_natCast] at hw9
      exact hw9
set_option maxRecDepth 4000 in
theorem X9_spoken_ct {l : Launch} {Γ : zC} {h0 h : zM} {Q : Option zV → zC → zM → Prop} {i n : Int} (hI : zIv Γ h0) (hF : zfr zSS h0 h) (hQ : ∀ h9, zfr zSS h0 h9 → Q (some (zI (zvSpoken h0 i n))) Γ h9) : zCT l mX9_spoken 1682 0 0 Γ [zR 89, zI i, zI n] h Q := by
  have hΓ := hI.base
  have hx2 := hI.isl
  refine zCT_of (by decide) (Nat.le_of_ble_eq_true rfl) (ls := [some (zR 89), some (zI i), some (zI n)]) rfl ?_
  refine z_al0 dX9_spoken_0 (by first | decide | omega | assumption) ?_
  refine z_iconst dX9_spoken_1 (by decide) ?_
  refine z_putI zfX9_128 dX9_spoken_2 (zkB hΓ rfl) rfl rfl ?_
  replace hF : zfr zSS h0 (zup h 89 0 0) := zfr_up hF rfl
  generalize zup h 89 0 0 = h at hF ⊢
  refine z_al0 dX9_spoken_5 (by first | decide | omega | assumption) ?_
  refine z_il1 dX9_spoken_6 ?_
  refine zcv1 dX9_spoken_7 zkX9_299 ziX9_isIsle zsX9_isIsle (zkB hΓ rfl) (by decide) rfl (Nat.le_of_ble_eq_true rfl) (by decide) (by first | decide | omega) ⟨Nat.le_refl _, Nat.le_refl _⟩ (X9_isIsle_ct hI hF (fun hg1 _ => ?_) (fun hg1 _ => ?_))
  · try simp only [zup_ap, zup_row, ne_eq, not_false_eq_true, zres, Int.toNat_natCast, reduceIte, Nat.reduceEqDiff, Nat.reduceAdd, and_self, and_true, true_and, and_false, false_and]
    refine z_if_eq (t := 34) dX9_spoken_10 (by rfl) (fun _ => ?_) (fun hx => absurd hx (by decide))
    refine z_iconst dX9_spoken_34 (by decide) ?_
    refine z_iret dX9_spoken_35 rfl (Nat.le_refl _) (Nat.le_refl _) (zext_rf _) (fun hrr => ?_)
    first
    | (have hw9 := hQ _ hF
       unfold zvSpoken at hw9
       rw [if_neg (by omega)] at hw9
       exact hw9)
    | (have hw9 := hQ _ hF2
       unfold zvSpoken at hw9
       rw [if_pos (by omega)] at hw9
       rw [Int.toNat_natCast] at hw9
       exact hw9)
  · try simp only [zup_ap, zup_row, ne_eq, not_false_eq_true, zres, Int.toNat_natCast, reduceIte, Nat.reduceEqDiff, Nat.reduceAdd, and_self, and_true, true_and, and_false, false_and]
    refine z_if_eq (t := 34) dX9_spoken_10 (by rfl) (fun hx => absurd hx (by decide)) (fun _ => ?_)
    refine z_il2 dX9_spoken_13 ?_
    refine z_i2l dX9_spoken_14 ?_
    refine z_lconst (x := 0) dX9_spoken_15 (by rfl) (by decide) ?_
    refine z_ldc2 (x := 999) dX9_spoken_16 zqX9_309 (by decide) ?_
    refine zcs3 dX9_spoken_19 zkX9_261 ztX9_isIn (Nat.le_of_ble_eq_true rfl) (by decide) (by first | decide | omega) ⟨Nat.le_refl _, Nat.le_refl _⟩ (X9_isIn_ct (fun hg2 _ => ?_) (fun hg2 _ => ?_))
    · try simp only [zup_ap, zup_row, ne_eq, not_false_eq_true, zres, Int.toNat_natCast, reduceIte, Nat.reduceEqDiff, Nat.reduceAdd, and_self, and_true, true_and, and_false, false_and]
      refine z_if_eq (t := 34) dX9_spoken_22 (by rfl) (fun _ => ?_) (fun hx => absurd hx (by decide))
      refine z_iconst dX9_spoken_34 (by decide) ?_
      refine z_iret dX9_spoken_35 rfl (Nat.le_refl _) (Nat.le_refl _) (zext_rf _) (fun hrr => ?_)
      first
      | (have hw9 := hQ _ hF
         unfold zvSpoken at hw9
         rw [if_neg (by omega)] at hw9
         exact hw9)
      | (have hw9 := hQ _ hF2
         unfold zvSpoken at hw9
         rw [if_pos (by omega)] at hw9
         rw [Int.toNat_natCast] at hw9
         exact hw9)
    · try simp only [zup_ap, zup_row, ne_eq, not_false_eq_true, zres, Int.toNat_natCast, reduceIte, Nat.reduceEqDiff, Nat.reduceAdd, and_self, and_true, true_and, and_false, false_and]
      refine z_if_eq (t := 34) dX9_spoken_22 (by rfl) (fun hx => absurd hx (by decide)) (fun _ => ?_)
      refine z_al0 dX9_spoken_25 (by first | decide | omega | assumption) ?_
      refine z_il1 dX9_spoken_26 ?_
      refine z_il2 dX9_spoken_27 ?_
      obtain ⟨n, rfl⟩ := Int.eq_ofNat_of_zero_le (show 0 ≤ n by omega)
      refine zcv2 dX9_spoken_28 zkX9_437 ziX9_spokenAs zsX9_spokenAs (zkB hΓ rfl) (by decide) rfl (Nat.le_of_ble_eq_true rfl) (by decide) (by first | decide | omega) ⟨Nat.le_refl _, Nat.le_refl _⟩ (X9_spokenAs_ct hI hF hg1 (by omega) (fun h2 hF2 _ => ?_))
      try simp only [zup_ap, zup_row, ne_eq, not_false_eq_true, zres, Int.toNat_natCast, reduceIte, Nat.reduceEqDiff, Nat.reduceAdd, and_self, and_true, true_and, and_false, false_and]
      refine z_goto (t := 35) dX9_spoken_31 (by rfl) ?_
      refine z_iret dX9_spoken_35 rfl (Nat.le_refl _) (Nat.le_refl _) (zext_rf _) (fun hrr => ?_)
      first
      | (have hw9 := hQ _ hF
         unfold zvSpoken at hw9
         rw [if_neg (by omega)] at hw9
         exact hw9)
      | (have hw9 := hQ _ hF2
         unfold zvSpoken at hw9
         rw [if_pos (by omega)] at hw9
         rw [Int.toNat_natCast] at hw9
         exact hw9)
