/-! GAIN: the class -/
def zdO (h : zM) (on : Nat) : Nat := min ((h 89 29).toNat + on) 99
def zNx (h : zM) (p t : Nat) : Nat := (p / 6 + (h 96 (6 * (p % 6) + t)).toNat) * 6 + t
/-- what is known of a place: lawful deals, and where a WAY leads -/
def zKn (h0 h : zM) (L P : Nat) : Prop := ∀ p, p < 168 → h 85 p ≠ -1 → (0 ≤ h 85 p ∧ h 85 p ≤ 3 ∧ ((p % 6 : Nat) : Int) < h0 89 22) ∧ (p < P → zDb (h 84 p) (zdF2 h0 (p % 6) (zdO h0 (p / 6) : Nat) (6 * (h0 89 39).toNat)) ∧ (h 85 p < (L : Int) → ∀ t : Nat, (t : Int) < h0 89 22 → 0 < h0 96 (6 * (p % 6) + t) → zNx h0 p t < 168 → h 85 (zNx h0 p t) ≠ -1 ∧ h 85 (zNx h0 p t) ≤ h 85 p + 1))
theorem zKn_cg {h0 h h' : zM} {L P : Nat} (H : zKn h0 h L P) (e1 : h' 84 = h 84) (e2 : h' 85 = h 85) : zKn h0 h' L P := by
  unfold zKn; rw [e1, e2]; exact H
def zGt (h0 h : zM) (L hold : Nat) (lm : Int) (B : zBs2) : Prop := zfr zSS h0 h ∧ zKn h0 h L 168 ∧ h 77 11 = B.1 ∧ (B.1 ≠ -1 → ∀ j, j < 3 * L → h 82 j = B.2 j) ∧ h 77 8 = (hold : Int) ∧ h 77 9 = (L : Int) ∧ h 77 10 = lm
theorem zGt_up {h0 h : zM} {L hold : Nat} {lm : Int} {B : zBs2} {j : Nat} {x : Int} (H : zGt h0 h L hold lm B) : zGt h0 (zup h 83 j x) L hold lm B := by
  obtain ⟨a, b, c, d, e, f, g⟩ := H
  exact ⟨zfr_up a rfl, zKn_cg b (zup_row (by decide)) (zup_row (by decide)), by rw [zup_row (by decide)]; exact c, by rw [zup_row (by decide)]; exact d, by rw [zup_row (by decide)]; exact e, by rw [zup_row (by decide)]; exact f, by rw [zup_row (by decide)]; exact g⟩
set_option maxRecDepth 4000 in
theorem X6_lawfulAt_ct {l : Launch} {Γ : zC} {h : zM} {Q : Option zV → zC → zM → Prop} (hΓ : zBase Γ) {i on : Nat} (hi : i < 6) (ho : on ≤ 27) (hQ : Q (some (zI (h 84 (6 * on + i)))) Γ h) : zCT l mX6_lawfulAt 0 0 0 Γ [zR 77, zI (i : Int), zI (on : Int)] h Q := by
  refine zCT_of (by decide) (Nat.le_of_ble_eq_true rfl) (ls := [some (zR 77), some (zI (i : Int)), some (zI (on : Int)), none]) rfl ?_
  refine z_il2 dX6_lawfulAt_0 ?_
  refine z_bipush (x := 6) dX6_lawfulAt_1 (by rfl) (by decide) ?_
  refine z_imul dX6_lawfulAt_3 (by omega) ?_
  refine z_il1 dX6_lawfulAt_4 ?_
  refine z_iadd dX6_lawfulAt_5 (by omega) ?_
  rw [show (on : Int) * 6 + (i : Int) = ((6 * on + i : Nat) : Int) by omega]
  refine z_is3 dX6_lawfulAt_6 (Nat.le_of_ble_eq_true rfl) rfl ?_
  refine z_il3 dX6_lawfulAt_7 ?_
  refine z_if_lt (t := 29) dX6_lawfulAt_8 (by rfl) (fun ht8 => ?_) (fun hf8 => ?_)
  · refine z_iconst dX6_lawfulAt_29 (by decide) ?_
    refine z_iret dX6_lawfulAt_30 rfl (Nat.le_refl _) (Nat.le_refl _) (zext_rf _) (fun hrr => ?_)
    first
    | exact hQ
    | (exfalso; omega)
  · refine z_il3 dX6_lawfulAt_11 ?_
    refine z_al0 dX6_lawfulAt_12 (by first | decide | omega | assumption) ?_
    refine z_getR zfX6_31 dX6_lawfulAt_13 (zkB hΓ rfl) rfl (zsB hΓ rfl) (zvB hΓ (by decide)) ?_
    refine z_alen dX6_lawfulAt_16 (zkB hΓ rfl) (by decide) ?_
    refine z_icmp_ge (t := 29) dX6_lawfulAt_17 (by rfl) (fun ht17 => ?_) (fun hf17 => ?_)
    · refine z_iconst dX6_lawfulAt_29 (by decide) ?_
      refine z_iret dX6_lawfulAt_30 rfl (Nat.le_refl _) (Nat.le_refl _) (zext_rf _) (fun hrr => ?_)
      first
      | exact hQ
      | (exfalso; omega)
    · refine z_al0 dX6_lawfulAt_20 (by first | decide | omega | assumption) ?_
      refine z_getR zfX6_31 dX6_lawfulAt_21 (zkB hΓ rfl) rfl (zsB hΓ rfl) (zvB hΓ (by decide)) ?_
      refine z_il3 dX6_lawfulAt_24 ?_
      refine z_iald dX6_lawfulAt_25 (zkB hΓ rfl) (by omega) (by omega) ?_
      try simp only [zup_ap, zup_row, ne_eq, not_false_eq_true, zres, Int.toNat_natCast, reduceIte, Nat.reduceEqDiff, Nat.reduceAdd, and_self, and_true, true_and, and_false, false_and]
      refine z_goto (t := 30) dX6_lawfulAt_26 (by rfl) ?_
      refine z_iret dX6_lawfulAt_30 rfl (Nat.le_refl _) (Nat.le_refl _) (zext_rf _) (fun hrr => ?_)
      first
      | exact hQ
      | (exfalso; omega)
set_option maxRecDepth 4000 in
theorem X6_keep_ct {l : Launch} {Γ : zC} {h0 h : zM} {L hold : Nat} {lm x : Int} {R : Nat → Int} {B : zBs2} {Q : Option zV → zC → zM → Prop} (hI : zIv Γ h0) (hL : L ≤ 3) (hS : zGt h0 h L hold lm B) (hRt : ∀ j, j < 3 * (L) → h 83 j = R j) (hQ : ∀ h9, zGt h0 h9 L hold lm (zUp B x R) → h9 83 = h 83 → h9 85 = h 85 → Q none Γ h9) : zCT l mX6_keep 1 0 0 Γ [zR 77, zI x] h Q := by
  have hΓ := hI.base
  have hx2 := hI.isl
  refine zCT_of (by decide) (Nat.le_of_ble_eq_true rfl) (ls := [some (zR 77), some (zI x)]) rfl ?_
  refine z_il1 dX6_keep_0 ?_
  refine z_al0 dX6_keep_1 (by first | decide | omega | assumption) ?_
  refine z_getI zfX6_108 dX6_keep_2 (zkB hΓ rfl) rfl ?_
  rw [hS.2.2.1]
  try simp only [zup_ap, zup_row, ne_eq, not_false_eq_true, zres, Int.toNat_natCast, reduceIte, Nat.reduceEqDiff, Nat.reduceAdd, and_self, and_true, true_and, and_false, false_and]
  refine z_icmp_le (t := 31) dX6_keep_5 (by rfl) (fun ht5 => ?_) (fun hf5 => ?_)
  · refine z_ret dX6_keep_31 rfl (Nat.le_refl _) (Nat.le_refl _) (zext_rf _) ?_
    have e9 : zUp B x R = (x, R) ∨ zUp B x R = B := by unfold zUp; split <;> first | exact Or.inl rfl | exact Or.inr rfl
    obtain ⟨s1, s2, s3, s4, s5, s6, s7⟩ := hS
    first
    | (have e8 : zUp B x R = B := if_neg (by omega)
       refine hQ h ?_ rfl rfl
       rw [e8]
       exact ⟨s1, s2, s3, s4, s5, s6, s7⟩)
    | (have e8 : zUp B x R = (x, R) := if_pos (by omega)
       refine hQ _ ?_ ((zcpy_row (by decide)).trans (zup_row (by decide))) ((zcpy_row (by decide)).trans (zup_row (by decide)))
       rw [e8]
       refine ⟨zfr_1 (zfr_up s1 rfl) (fun _ => rfl) (fun r hr => zcpy_row hr), zKn_cg s2 ((zcpy_row (by decide)).trans (zup_row (by decide))) ((zcpy_row (by decide)).trans (zup_row (by decide))), by rw [zcpy_row (by decide)]; rfl, fun _ j hj => ?_, by rw [zcpy_row (by decide)]; exact s5, by rw [zcpy_row (by decide)]; exact s6, by rw [zcpy_row (by decide)]; exact s7⟩
       refine (zcpy_at _ 83 82 _ (show j < (((9 : Nat) : Int)).toNat by rw [Int.toNat_natCast]; omega)).trans ?_
       rw [zup_row (by decide)]
       exact hRt j hj)
  · refine z_al0 dX6_keep_8 (by first | decide | omega | assumption) ?_
    refine z_il1 dX6_keep_9 ?_
    refine z_putI zfX6_108 dX6_keep_10 (zkB hΓ rfl) rfl rfl ?_
    refine z_al0 dX6_keep_13 (by first | decide | omega | assumption) ?_
    refine z_getR zfX6_28 dX6_keep_14 (zkB hΓ rfl) rfl (zsB hΓ rfl) (zvB hΓ (by decide)) ?_
    refine z_iconst dX6_keep_17 (by decide) ?_
    refine z_al0 dX6_keep_18 (by first | decide | omega | assumption) ?_
    refine z_getR zfX6_24 dX6_keep_19 (zkB hΓ rfl) rfl (zsB hΓ rfl) (zvB hΓ (by decide)) ?_
    refine z_iconst dX6_keep_22 (by decide) ?_
    refine z_al0 dX6_keep_23 (by first | decide | omega | assumption) ?_
    refine z_getR zfX6_28 dX6_keep_24 (zkB hΓ rfl) rfl (zsB hΓ rfl) (zvB hΓ (by decide)) ?_
    refine z_alen dX6_keep_27 (zkB hΓ rfl) (by decide) ?_
    refine z_copy dX6_keep_28 zcpyX6_157 (zkB hΓ rfl) (zkB hΓ rfl) (by decide) (by decide) (by decide) (Nat.le_of_ble_eq_true rfl) (Nat.le_of_ble_eq_true rfl) (by decide) ?_
    refine z_ret dX6_keep_31 rfl (Nat.le_refl _) (Nat.le_refl _) (zext_rf _) ?_
    have e9 : zUp B x R = (x, R) ∨ zUp B x R = B := by unfold zUp; split <;> first | exact Or.inl rfl | exact Or.inr rfl
    obtain ⟨s1, s2, s3, s4, s5, s6, s7⟩ := hS
    first
    | (have e8 : zUp B x R = B := if_neg (by omega)
       refine hQ h ?_ rfl rfl
       rw [e8]
       exact ⟨s1, s2, s3, s4, s5, s6, s7⟩)
    | (have e8 : zUp B x R = (x, R) := if_pos (by omega)
       refine hQ _ ?_ ((zcpy_row (by decide)).trans (zup_row (by decide))) ((zcpy_row (by decide)).trans (zup_row (by decide)))
       rw [e8]
       refine ⟨zfr_1 (zfr_up s1 rfl) (fun _ => rfl) (fun r hr => zcpy_row hr), zKn_cg s2 ((zcpy_row (by decide)).trans (zup_row (by decide))) ((zcpy_row (by decide)).trans (zup_row (by decide))), by rw [zcpy_row (by decide)]; rfl, fun _ j hj => ?_, by rw [zcpy_row (by decide)]; exact s5, by rw [zcpy_row (by decide)]; exact s6, by rw [zcpy_row (by decide)]; exact s7⟩
       refine (zcpy_at _ 83 82 _ (show j < (((9 : Nat) : Int)).toNat by rw [Int.toNat_natCast]; omega)).trans ?_
       rw [zup_row (by decide)]
       exact hRt j hj)
set_option maxRecDepth 4000 in
theorem X6_buyNothing_ct {l : Launch} {Γ : zC} {h : zM} {Q : Option zV → zC → zM → Prop} (hΓ : zBase Γ) {leg : Nat} (hg : leg ≤ 2) (hQ : Q none Γ (zup (zup h 83 (3 * leg) (-1)) 83 (3 * leg + 1) 0)) : zCT l mX6_buyNothing 0 0 0 Γ [zR 77, zI (leg : Int)] h Q := by
  refine zCT_of (by decide) (Nat.le_of_ble_eq_true rfl) (ls := [some (zR 77), some (zI (leg : Int))]) rfl ?_
  refine z_al0 dX6_buyNothing_0 (by first | decide | omega | assumption) ?_
  refine z_getR zfX6_28 dX6_buyNothing_1 (zkB hΓ rfl) rfl (zsB hΓ rfl) (zvB hΓ (by decide)) ?_
  refine z_iconst dX6_buyNothing_4 (by decide) ?_
  refine z_il1 dX6_buyNothing_5 ?_
  refine z_imul dX6_buyNothing_6 (by omega) ?_
  refine z_iconst dX6_buyNothing_7 (by decide) ?_
  refine z_iast dX6_buyNothing_8 (zkB hΓ rfl) (by omega) (by omega) ?_
  refine z_al0 dX6_buyNothing_9 (by first | decide | omega | assumption) ?_
  refine z_getR zfX6_28 dX6_buyNothing_10 (zkB hΓ rfl) rfl (zsB hΓ rfl) (zvB hΓ (by decide)) ?_
  refine z_iconst dX6_buyNothing_13 (by decide) ?_
  refine z_il1 dX6_buyNothing_14 ?_
  refine z_imul dX6_buyNothing_15 (by omega) ?_
  refine z_iconst dX6_buyNothing_16 (by decide) ?_
  refine z_iadd dX6_buyNothing_17 (by omega) ?_
  refine z_iconst dX6_buyNothing_18 (by decide) ?_
  refine z_iast dX6_buyNothing_19 (zkB hΓ rfl) (by omega) (by omega) ?_
  refine z_ret dX6_buyNothing_20 rfl (Nat.le_refl _) (Nat.le_refl _) (zext_rf _) ?_
  rw [show ((3 : Int) * (leg : Int)).toNat = 3 * leg by omega, show ((3 : Int) * (leg : Int) + 1).toNat = 3 * leg + 1 by omega]
  exact hQ
set_option maxRecDepth 4000 in
theorem X6_leave_l {l : Launch} {Γ : zC} {h0 : zM} (hI : zIv Γ h0) {L hold : Nat} {lm : Int} (hL : L ≤ 3) (hh : 1 ≤ hold ∧ hold ≤ 6) (hl : zlmP h0 hold lm) (hl9 : lm ≤ 594) {n : Nat} (hn : n + 1 ≤ L) (hR : ∀ {i on g q : Nat} {m gI : Int} {R : Nat → Int} {B : zBs2} {h : zM} {Q : Option zV → zC → zM → Prop}, (i : Int) < h0 89 22 → on ≤ 9 * (L - n) → (h 85 (6 * on + i) ≠ -1 ∧ h 85 (6 * on + i) ≤ ((L - n : Nat) : Int)) → (0 ≤ m ∧ m + 594 * ((n : Nat) + 1) ≤ 3400) → (0 < q → gI = (g : Int) ∧ (g : Int) < h0 89 39 ∧ q ≤ hold) → zGt h0 h L hold lm B → (∀ j, j < 3 * (L - n) → h 83 j = R j) → (∀ h9, zGt h0 h9 L hold lm (zLg h0 hold L n i (zdO h0 on) m g q R B) → (∀ j, j < 3 * (L - n) → h9 83 j = R j) → h9 85 = h 85 → Q none Γ h9) → zCT l mX6_land (2 + 3 * n) 0 0 Γ [zR 77, zI ((L - n : Nat) : Int), zI (i : Int), zI (on : Int), zI m, zI gI, zI (q : Int)] h Q) {i on g q : Nat} {m gI a b : Int} {R : Nat → Int} {B : zBs2} {Q : Option zV → zC → zM → Prop} {h1 : zM} (hi : (i : Int) < h0 89 22) (ho : on ≤ 9 * (L - (n + 1))) (hm9 : (0 ≤ m ∧ m + 594 * ((n : Nat) + 1) ≤ 3400)) (hg : (0 < q → gI = (g : Int) ∧ (g : Int) < h0 89 39 ∧ q ≤ hold)) (hkn : (h1 85 (6 * on + i) ≠ -1 ∧ h1 85 (6 * on + i) ≤ ((L - (n + 1) : Nat) : Int))) (hQ : ∀ h9, zGt h0 h9 L hold lm (zOff h0 (zLg h0 hold L n) (L - (n + 1)) i (zdO h0 on) m g q a b R B) → (∀ j, j < 3 * (L - (n + 1)) → h9 83 j = R j) → h9 85 = h1 85 → Q none Γ h9) : ∀ (mm : Nat) (t : Nat) (y : Option zV) (h : zM), (h0 89 22).toNat - t < mm → t ≤ (h0 89 22).toNat → zGt h0 h L hold lm (zfo (zOs h0 (zLg h0 hold L n) (L - (n + 1)) i (zdO h0 on) m g q a b R) t B) → (∀ j, j < 3 * (L - (n + 1)) → h 83 j = R j) → h 83 (3 * (L - (n + 1))) = a → h 83 (3 * (L - (n + 1)) + 1) = b → h 85 = h1 85 → zG (zFn l mX6_leave (3 + 3 * n) 0 0 Γ Q) 0 0 Γ h 3 [some (zR 77), some (zI ((L - (n + 1) : Nat) : Int)), some (zI (i : Int)), some (zI (on : Int)), some (zI m), some (zI gI), some (zI (q : Int)), some (zI (t : Int)), y] [] := by
  have hΓ := hI.base
  have hx2 := hI.isl
  have hx7 := hI.gds
  have hnw := hI.now
  intro mm
  induction mm with
  | zero => intros; omega
  | succ mm ih =>
    intro t y h hm ht hS hRt hA hB h85e
    have hF := hS.1
    refine z_il7 dX6_leave_3 ?_
    refine z_al0 dX6_leave_5 (by first | decide | omega | assumption) ?_
    refine z_getR zfX6_9 dX6_leave_6 (zkB hΓ rfl) rfl (zsB hΓ rfl) (zvB hΓ (by decide)) ?_
    refine z_getR zfX6_122 dX6_leave_9 (zkB hΓ rfl) rfl (zsB hΓ rfl) (zvB hΓ (by decide)) ?_
    refine z_getI zfX6_131 dX6_leave_12 (zkB hΓ rfl) rfl ?_
    rw [hF 16 0 rfl, hI.cisl]
    try simp only [zup_ap, zup_row, ne_eq, not_false_eq_true, zres, Int.toNat_natCast, reduceIte, Nat.reduceEqDiff, Nat.reduceAdd, and_self, and_true, true_and, and_false, false_and]
    refine z_icmp_ge (t := 82) dX6_leave_15 (by rfl) (fun ht15 => ?_) (fun hf15 => ?_)
    · refine z_ret dX6_leave_82 rfl (Nat.le_refl _) (Nat.le_refl _) (zext_rf _) ?_
      rw [show t = (h0 89 22).toNat by omega] at hS
      exact hQ h hS hRt h85e
    · refine z_al0 dX6_leave_18 (by first | decide | omega | assumption) ?_
      refine z_getR zfX6_9 dX6_leave_19 (zkB hΓ rfl) rfl (zsB hΓ rfl) (zvB hΓ (by decide)) ?_
      refine z_getR zfX6_122 dX6_leave_22 (zkB hΓ rfl) rfl (zsB hΓ rfl) (zvB hΓ (by decide)) ?_
      refine z_getR zfX6_126 dX6_leave_25 (zkB hΓ rfl) rfl (zsB hΓ rfl) (zvB hΓ (by decide)) ?_
      refine z_il2 dX6_leave_28 ?_
      refine z_aald dX6_leave_29 (zkB hΓ rfl) (Or.inl rfl) (by omega) (by omega) (q := 19 + i) (by rw [show (i : Int).toNat = i from Int.toNat_natCast i, zsr18 hΓ (by omega)]; rfl) (fun _ => zvB hΓ (Or.inl (by omega))) ?_
      refine z_il7 dX6_leave_30 ?_
      refine z_iald dX6_leave_32 (zks19 hΓ (by omega)) (by omega) (by omega) ?_
      try simp only [zup_ap, zup_row, ne_eq, not_false_eq_true, zres, Int.toNat_natCast, reduceIte, Nat.reduceEqDiff, Nat.reduceAdd, and_self, and_true, true_and, and_false, false_and]
      try simp only [Int.toNat_natCast]
      rw [hF (19 + i) _ (zSS19 (by omega) _), (hI.day i t (by omega) (by omega)).1]
      have hdy := (hI.day i t (by omega) (by omega)).2
      refine z_is8 dX6_leave_33 (Nat.le_of_ble_eq_true rfl) rfl ?_
      refine z_il8 dX6_leave_35 ?_
      refine z_if_le (t := 76) dX6_leave_37 (by rfl) (fun ht37 => ?_) (fun hf37 => ?_)
      · refine z_ii7 dX6_leave_76 (by omega) (Nat.le_of_ble_eq_true rfl) rfl ?_
        refine z_goto (t := 3) dX6_leave_79 (by rfl) ?_
        first
        | (refine ih (t + 1) _ _ (by omega) (by omega) ?_ hRt hA hB h85e
           show zGt h0 _ L hold lm (if _ = 0 then _ else _)
           rw [if_pos (by omega)]
           exact hS)
        | (refine ih (t + 1) _ _ (by omega) (by omega) ?_ (fun j hj => by rw [hR9 j (by omega), zrt_o (by omega)]) (by rw [hR9 _ (by omega)]; exact if_pos rfl) (by rw [hR9 _ (by omega)]; exact (if_neg (by omega)).trans (if_pos rfl)) (by rw [h85, zup_row (by decide)]; exact h85e)
           show zGt h0 _ L hold lm (if _ = 0 then _ else _)
           rw [if_neg (by omega), show zdn h0 (zdO h0 on) i t = zdO h0 (on + (h0 96 (6 * i + t)).toNat) by unfold zdn zdO; omega]
           exact hS9)
      · refine z_il1 dX6_leave_40 ?_
        refine z_iconst dX6_leave_41 (by decide) ?_
        refine z_icmp_ge (t := 76) dX6_leave_42 (by rfl) (fun ht42 => ?_) (fun hf42 => ?_)
        · exfalso; omega
        · refine z_al0 dX6_leave_45 (by first | decide | omega | assumption) ?_
          refine z_getR zfX6_28 dX6_leave_46 (zkB hΓ rfl) rfl (zsB hΓ rfl) (zvB hΓ (by decide)) ?_
          refine z_iconst dX6_leave_49 (by decide) ?_
          refine z_il1 dX6_leave_50 ?_
          refine z_imul dX6_leave_51 (by omega) ?_
          refine z_iconst dX6_leave_52 (by decide) ?_
          refine z_iadd dX6_leave_53 (by omega) ?_
          refine z_il7 dX6_leave_54 ?_
          refine z_iast dX6_leave_56 (zkB hΓ rfl) (by omega) (by omega) ?_
          refine z_al0 dX6_leave_57 (by first | decide | omega | assumption) ?_
          refine z_il1 dX6_leave_58 ?_
          refine z_iconst dX6_leave_59 (by decide) ?_
          refine z_iadd dX6_leave_60 (by omega) ?_
          refine z_il7 dX6_leave_61 ?_
          refine z_il3 dX6_leave_63 ?_
          refine z_il8 dX6_leave_64 ?_
          refine z_iadd dX6_leave_66 (by omega) ?_
          refine z_il4 dX6_leave_67 ?_
          refine z_il5 dX6_leave_69 ?_
          refine z_il6 dX6_leave_71 ?_
          rw [show ((L - (n + 1) : Nat) : Int) + 1 = ((L - n : Nat) : Int) by omega, show (on : Int) + h0 96 (6 * i + t) = ((on + (h0 96 (6 * i + t)).toNat : Nat) : Int) by omega]
          refine zcv6 dX6_leave_73 zkX6_118 ziX6_land zsX6_land (zkB hΓ rfl) (by decide) rfl (Nat.le_of_ble_eq_true rfl) (by decide) (by first | decide | omega) ⟨Nat.le_refl _, Nat.le_refl _⟩ (hR (i := t) (on := on + (h0 96 (6 * i + t)).toNat) (g := g) (q := q) (R := zrt R (L - (n + 1)) a b (t : Int)) (B := zfo (zOs h0 (zLg h0 hold L n) (L - (n + 1)) i (zdO h0 on) m g q a b R) t B) (by omega) (by omega) (by
              rw [zup_row (by decide)]
              have hk := hS.2.1 (6 * on + i) (by omega) (by rw [h85e]; exact hkn.1)
              have hk2 := (hk.2 (by omega)).2 (by rw [h85e]; omega) t (by omega) (by rw [show (6 * on + i) % 6 = i by omega]; omega) (by unfold zNx; rw [show (6 * on + i) % 6 = i by omega, show (6 * on + i) / 6 = on by omega]; omega)
              rw [show zNx h0 (6 * on + i) t = 6 * (on + (h0 96 (6 * i + t)).toNat) + t by unfold zNx; rw [show (6 * on + i) % 6 = i by omega, show (6 * on + i) / 6 = on by omega]; omega, h85e] at hk2
              refine ⟨by rw [h85e]; exact hk2.1, ?_⟩
              rw [h85e]
              have := hkn.2
              omega) hm9 hg (zGt_up hS) (fun j hj => by
              by_cases ej : j = 3 * (L - (n + 1)) + 2
              · rw [ej, zup_ap]
                refine (if_pos ⟨rfl, by omega⟩).trans ?_
                unfold zrt; rw [if_neg (by omega), if_neg (by omega), if_pos rfl]
              · rw [zup_ap, if_neg (fun x => ej (by have := x.2; omega))]
                by_cases e0 : j = 3 * (L - (n + 1))
                · rw [e0, hA]; exact (if_pos rfl).symm
                · by_cases e1 : j = 3 * (L - (n + 1)) + 1
                  · rw [e1, hB]; exact ((if_neg (by omega)).trans (if_pos rfl)).symm
                  · rw [hRt j (by omega), zrt_o (by omega)]) (fun h9 hS9 hR9 h85 _ => ?_))
          try simp only [zup_ap, zup_row, ne_eq, not_false_eq_true, zres, Int.toNat_natCast, reduceIte, Nat.reduceEqDiff, Nat.reduceAdd, and_self, and_true, true_and, and_false, false_and]
          refine z_ii7 dX6_leave_76 (by omega) (Nat.le_of_ble_eq_true rfl) rfl ?_
          refine z_goto (t := 3) dX6_leave_79 (by rfl) ?_
          first
          | (refine ih (t + 1) _ _ (by omega) (by omega) ?_ hRt hA hB h85e
             show zGt h0 _ L hold lm (if _ = 0 then _ else _)
             rw [if_pos (by omega)]
             exact hS)
          | (refine ih (t + 1) _ _ (by omega) (by omega) ?_ (fun j hj => by rw [hR9 j (by omega), zrt_o (by omega)]) (by rw [hR9 _ (by omega)]; exact if_pos rfl) (by rw [hR9 _ (by omega)]; exact (if_neg (by omega)).trans (if_pos rfl)) (by rw [h85, zup_row (by decide)]; exact h85e)
             show zGt h0 _ L hold lm (if _ = 0 then _ else _)
             rw [if_neg (by omega), show zdn h0 (zdO h0 on) i t = zdO h0 (on + (h0 96 (6 * i + t)).toNat) by unfold zdn zdO; omega]
             exact hS9)
set_option maxRecDepth 4000 in
theorem X6_leave_ct {l : Launch} {Γ : zC} {h0 : zM} (hI : zIv Γ h0) {L hold : Nat} {lm : Int} (hL : L ≤ 3) (hh : 1 ≤ hold ∧ hold ≤ 6) (hl : zlmP h0 hold lm) (hl9 : lm ≤ 594) {n : Nat} (hn : n + 1 ≤ L) (hR : ∀ {i on g q : Nat} {m gI : Int} {R : Nat → Int} {B : zBs2} {h : zM} {Q : Option zV → zC → zM → Prop}, (i : Int) < h0 89 22 → on ≤ 9 * (L - n) → (h 85 (6 * on + i) ≠ -1 ∧ h 85 (6 * on + i) ≤ ((L - n : Nat) : Int)) → (0 ≤ m ∧ m + 594 * ((n : Nat) + 1) ≤ 3400) → (0 < q → gI = (g : Int) ∧ (g : Int) < h0 89 39 ∧ q ≤ hold) → zGt h0 h L hold lm B → (∀ j, j < 3 * (L - n) → h 83 j = R j) → (∀ h9, zGt h0 h9 L hold lm (zLg h0 hold L n i (zdO h0 on) m g q R B) → (∀ j, j < 3 * (L - n) → h9 83 j = R j) → h9 85 = h 85 → Q none Γ h9) → zCT l mX6_land (2 + 3 * n) 0 0 Γ [zR 77, zI ((L - n : Nat) : Int), zI (i : Int), zI (on : Int), zI m, zI gI, zI (q : Int)] h Q) {i on g q : Nat} {m gI a b : Int} {R : Nat → Int} {B : zBs2} {Q : Option zV → zC → zM → Prop} {h1 : zM} (hi : (i : Int) < h0 89 22) (ho : on ≤ 9 * (L - (n + 1))) (hm9 : (0 ≤ m ∧ m + 594 * ((n : Nat) + 1) ≤ 3400)) (hg : (0 < q → gI = (g : Int) ∧ (g : Int) < h0 89 39 ∧ q ≤ hold)) (hkn : (h1 85 (6 * on + i) ≠ -1 ∧ h1 85 (6 * on + i) ≤ ((L - (n + 1) : Nat) : Int))) (hS : zGt h0 h1 L hold lm B) (hRt : ∀ j, j < 3 * (L - (n + 1)) → h1 83 j = R j) (hA : h1 83 (3 * (L - (n + 1))) = a) (hB : h1 83 (3 * (L - (n + 1)) + 1) = b) (hQ : ∀ h9, zGt h0 h9 L hold lm (zOff h0 (zLg h0 hold L n) (L - (n + 1)) i (zdO h0 on) m g q a b R B) → (∀ j, j < 3 * (L - (n + 1)) → h9 83 j = R j) → h9 85 = h1 85 → Q none Γ h9) : zCT l mX6_leave (3 + 3 * n) 0 0 Γ [zR 77, zI ((L - (n + 1) : Nat) : Int), zI (i : Int), zI (on : Int), zI m, zI gI, zI (q : Int)] h1 Q := by
  have hΓ := hI.base
  have hx2 := hI.isl
  have hx7 := hI.gds
  have hnw := hI.now
  refine zCT_of (by decide) (Nat.le_of_ble_eq_true rfl) (ls := [some (zR 77), some (zI ((L - (n + 1) : Nat) : Int)), some (zI (i : Int)), some (zI (on : Int)), some (zI m), some (zI gI), some (zI (q : Int)), none, none]) rfl ?_
  refine z_iconst dX6_leave_0 (by decide) ?_
  refine z_is7 dX6_leave_1 (Nat.le_of_ble_eq_true rfl) rfl ?_
  exact X6_leave_l hI hL hh hl hl9 hn hR hi ho hm9 hg hkn hQ _ 0 _ _ (Nat.lt_succ_self _) (by omega) hS hRt hA hB rfl
set_option maxRecDepth 4000 in
theorem X6_tr_q {l : Launch} {Γ : zC} {h0 : zM} (hI : zIv Γ h0) {L hold : Nat} {lm : Int} (hL : L ≤ 3) (hh : 1 ≤ hold ∧ hold ≤ 6) (hl : zlmP h0 hold lm) (hl9 : lm ≤ 594) {n : Nat} (hn : n + 1 ≤ L) (hR : ∀ {i on g q : Nat} {m gI : Int} {R : Nat → Int} {B : zBs2} {h : zM} {Q : Option zV → zC → zM → Prop}, (i : Int) < h0 89 22 → on ≤ 9 * (L - n) → (h 85 (6 * on + i) ≠ -1 ∧ h 85 (6 * on + i) ≤ ((L - n : Nat) : Int)) → (0 ≤ m ∧ m + 594 * ((n : Nat) + 1) ≤ 3400) → (0 < q → gI = (g : Int) ∧ (g : Int) < h0 89 39 ∧ q ≤ hold) → zGt h0 h L hold lm B → (∀ j, j < 3 * (L - n) → h 83 j = R j) → (∀ h9, zGt h0 h9 L hold lm (zLg h0 hold L n i (zdO h0 on) m g q R B) → (∀ j, j < 3 * (L - n) → h9 83 j = R j) → h9 85 = h 85 → Q none Γ h9) → zCT l mX6_land (2 + 3 * n) 0 0 Γ [zR 77, zI ((L - n : Nat) : Int), zI (i : Int), zI (on : Int), zI m, zI gI, zI (q : Int)] h Q) {i on : Nat} {m may : Int} {R : Nat → Int} {Q : Option zV → zC → zM → Prop} {h1 : zM} {g9 : Nat} {B : zBs2} (hi : (i : Int) < h0 89 22) (ho : on ≤ 9 * (L - (n + 1))) (hm9 : (0 ≤ m ∧ m + 594 * ((n : Nat) + 1) ≤ 3400)) (hkn : (h1 85 (6 * on + i) ≠ -1 ∧ h1 85 (6 * on + i) ≤ ((L - (n + 1) : Nat) : Int))) (hmay : zDb may (zdF2 h0 i (zdO h0 on : Nat) (6 * (h0 89 39).toNat))) (hg9 : (g9 : Int) < h0 89 39) (hK : ∀ (h9 : zM) (y z : Option zV), zGt h0 h9 L hold lm (zfo (zBq h0 (zLg h0 hold L n) (L - (n + 1)) i (zdO h0 on) m g9 R) hold B) → (∀ j, j < 3 * (L - (n + 1)) → h9 83 j = R j) → h9 85 = h1 85 → zG (zFn l mX6_trade (4 + 3 * n) 0 0 Γ Q) 0 0 Γ h9 139 [some (zR 77), some (zI ((L - (n + 1) : Nat) : Int)), some (zI (i : Int)), some (zI (on : Int)), some (zI m), some (zI may), some (zI (g9 : Int)), y, z] []) : ∀ (mm : Nat) (k : Nat) (z : Option zV) (h : zM), hold - k < mm → k ≤ hold → zGt h0 h L hold lm (zfo (zBq h0 (zLg h0 hold L n) (L - (n + 1)) i (zdO h0 on) m g9 R) k B) → (∀ j, j < 3 * (L - (n + 1)) → h 83 j = R j) → h 85 = h1 85 → zG (zFn l mX6_trade (4 + 3 * n) 0 0 Γ Q) 0 0 Γ h 53 [some (zR 77), some (zI ((L - (n + 1) : Nat) : Int)), some (zI (i : Int)), some (zI (on : Int)), some (zI m), some (zI may), some (zI (g9 : Int)), some (zI ((k + 1 : Nat) : Int)), z] [] := by
  have hΓ := hI.base
  have hx2 := hI.isl
  have hx7 := hI.gds
  have hnw := hI.now
  intro mm
  induction mm with
  | zero => intros; omega
  | succ mm ih =>
    intro k z h hm hk hS hRt h85e
    have hF := hS.1
    refine z_il7 dX6_trade_53 ?_
    refine z_al0 dX6_trade_55 (by first | decide | omega | assumption) ?_
    refine z_getI zfX6_102 dX6_trade_56 (zkB hΓ rfl) rfl ?_
    rw [hS.2.2.2.2.1]
    try simp only [zup_ap, zup_row, ne_eq, not_false_eq_true, zres, Int.toNat_natCast, reduceIte, Nat.reduceEqDiff, Nat.reduceAdd, and_self, and_true, true_and, and_false, false_and]
    refine z_icmp_gt (t := 139) dX6_trade_59 (by rfl) (fun ht59 => ?_) (fun hf59 => ?_)
    · have ek : k = hold := by omega
      subst ek
      exact hK _ _ _ hS hRt h85e
    · refine z_il7 dX6_trade_62 ?_
      refine z_al0 dX6_trade_64 (by first | decide | omega | assumption) ?_
      refine z_getR zfX6_21 dX6_trade_65 (zkB hΓ rfl) rfl (zsB hΓ rfl) (zvB hΓ (by decide)) ?_
      refine z_il6 dX6_trade_68 ?_
      refine z_aald dX6_trade_70 (zkB hΓ rfl) (Or.inl rfl) (by omega) (by omega) (q := 79 + g9) (by rw [show (g9 : Int).toNat = g9 from Int.toNat_natCast g9, zsr78 hΓ (by omega)]; rfl) (fun _ => zvB hΓ (Or.inl (by omega))) ?_
      refine z_il2 dX6_trade_71 ?_
      refine z_iald dX6_trade_72 (zks79 hΓ (by omega)) (by omega) (by omega) ?_
      try simp only [zup_ap, zup_row, ne_eq, not_false_eq_true, zres, Int.toNat_natCast, reduceIte, Nat.reduceEqDiff, Nat.reduceAdd, and_self, and_true, true_and, and_false, false_and]
      try simp only [Int.toNat_natCast]
      rw [hF (79 + g9) _ (zSS79 (by omega) _), (hI.prc g9 i (by omega) (by omega)).1]
      have hp8 := (hI.prc g9 i (by omega) (by omega)).2
      have hm8 := zmq (q := (k + 1)) (p := h0 107 (6 * g9 + i)) (by omega) hp8.1 hp8.2
      refine z_imul dX6_trade_73 (by omega) ?_
      refine z_is8 dX6_trade_74 (Nat.le_of_ble_eq_true rfl) rfl ?_
      refine z_il8 dX6_trade_76 ?_
      refine z_il4 dX6_trade_78 ?_
      refine z_icmp_gt (t := 133) dX6_trade_80 (by rfl) (fun ht80 => ?_) (fun hf80 => ?_)
      · refine z_ii7 dX6_trade_133 (by omega) (Nat.le_of_ble_eq_true rfl) rfl ?_
        refine z_goto (t := 53) dX6_trade_136 (by rfl) ?_
        first
        | (rw [zdF2_at (by omega) (by omega)] at ha9
           refine ih (k + 1) _ _ (by omega) (by omega) ?_ hR9 (by rw [h85, zup_row (by decide), zup_row (by decide)]; exact h85e)
           show zGt h0 _ L hold lm (if _ ∧ _ then _ else _)
           rw [if_pos ⟨by omega, ha9⟩]
           exact hS9)
        | (rw [zdF2_at (by omega) (by omega)] at ha9
           refine ih (k + 1) _ _ (by omega) (by omega) ?_ hRt h85e
           show zGt h0 _ L hold lm (if _ ∧ _ then _ else _)
           rw [if_neg (fun x => by rw [ha9] at x; exact absurd x.2 (by decide))]
           exact hS)
        | (refine ih (k + 1) _ _ (by omega) (by omega) ?_ hRt h85e
           show zGt h0 _ L hold lm (if _ ∧ _ then _ else _)
           rw [if_neg (fun x => (by have := x.1; omega))]
           exact hS)
      · refine z_il5 dX6_trade_83 ?_
        refine z_il6 dX6_trade_85 ?_
        refine z_il7 dX6_trade_87 ?_
        refine zcs3 dX6_trade_89 zkX6_137 ztX6_allows (Nat.le_of_ble_eq_true rfl) (by decide) (by first | decide | omega) ⟨Nat.le_refl _, Nat.le_refl _⟩ (X6_allows_ct (g := g9) (q := k + 1) hmay (by omega) (by omega) (fun ha9 _ => ?_) (fun ha9 _ => ?_))
        · try simp only [zup_ap, zup_row, ne_eq, not_false_eq_true, zres, Int.toNat_natCast, reduceIte, Nat.reduceEqDiff, Nat.reduceAdd, and_self, and_true, true_and, and_false, false_and]
          refine z_if_eq (t := 133) dX6_trade_92 (by rfl) (fun _ => ?_) (fun hx => absurd hx (by decide))
          refine z_ii7 dX6_trade_133 (by omega) (Nat.le_of_ble_eq_true rfl) rfl ?_
          refine z_goto (t := 53) dX6_trade_136 (by rfl) ?_
          first
          | (rw [zdF2_at (by omega) (by omega)] at ha9
             refine ih (k + 1) _ _ (by omega) (by omega) ?_ hR9 (by rw [h85, zup_row (by decide), zup_row (by decide)]; exact h85e)
             show zGt h0 _ L hold lm (if _ ∧ _ then _ else _)
             rw [if_pos ⟨by omega, ha9⟩]
             exact hS9)
          | (rw [zdF2_at (by omega) (by omega)] at ha9
             refine ih (k + 1) _ _ (by omega) (by omega) ?_ hRt h85e
             show zGt h0 _ L hold lm (if _ ∧ _ then _ else _)
             rw [if_neg (fun x => by rw [ha9] at x; exact absurd x.2 (by decide))]
             exact hS)
          | (refine ih (k + 1) _ _ (by omega) (by omega) ?_ hRt h85e
             show zGt h0 _ L hold lm (if _ ∧ _ then _ else _)
             rw [if_neg (fun x => (by have := x.1; omega))]
             exact hS)
        · try simp only [zup_ap, zup_row, ne_eq, not_false_eq_true, zres, Int.toNat_natCast, reduceIte, Nat.reduceEqDiff, Nat.reduceAdd, and_self, and_true, true_and, and_false, false_and]
          refine z_if_eq (t := 133) dX6_trade_92 (by rfl) (fun hx => absurd hx (by decide)) (fun _ => ?_)
          refine z_al0 dX6_trade_95 (by first | decide | omega | assumption) ?_
          refine z_getR zfX6_28 dX6_trade_96 (zkB hΓ rfl) rfl (zsB hΓ rfl) (zvB hΓ (by decide)) ?_
          refine z_iconst dX6_trade_99 (by decide) ?_
          refine z_il1 dX6_trade_100 ?_
          refine z_imul dX6_trade_101 (by omega) ?_
          refine z_il6 dX6_trade_102 ?_
          refine z_iast dX6_trade_104 (zkB hΓ rfl) (by omega) (by omega) ?_
          refine z_al0 dX6_trade_105 (by first | decide | omega | assumption) ?_
          refine z_getR zfX6_28 dX6_trade_106 (zkB hΓ rfl) rfl (zsB hΓ rfl) (zvB hΓ (by decide)) ?_
          refine z_iconst dX6_trade_109 (by decide) ?_
          refine z_il1 dX6_trade_110 ?_
          refine z_imul dX6_trade_111 (by omega) ?_
          refine z_iconst dX6_trade_112 (by decide) ?_
          refine z_iadd dX6_trade_113 (by omega) ?_
          refine z_il7 dX6_trade_114 ?_
          refine z_iast dX6_trade_116 (zkB hΓ rfl) (by omega) (by omega) ?_
          refine z_al0 dX6_trade_117 (by first | decide | omega | assumption) ?_
          refine z_il1 dX6_trade_118 ?_
          refine z_il2 dX6_trade_119 ?_
          refine z_il3 dX6_trade_120 ?_
          refine z_il4 dX6_trade_121 ?_
          refine z_il8 dX6_trade_123 ?_
          refine z_isub dX6_trade_125 (by omega) ?_
          refine z_il6 dX6_trade_126 ?_
          refine z_il7 dX6_trade_128 ?_
          refine zcv6 dX6_trade_130 zkX6_147 ziX6_leave zsX6_leave (zkB hΓ rfl) (by decide) rfl (Nat.le_of_ble_eq_true rfl) (by decide) (by first | decide | omega) ⟨Nat.le_refl _, Nat.le_refl _⟩ (X6_leave_ct (on := on) (g := g9) (q := k + 1) (gI := (g9 : Int)) (a := (g9 : Int)) (b := ((k + 1 : Nat) : Int)) (m := m - ((k + 1 : Nat) : Int) * h0 107 (6 * g9 + i)) (R := R) hI hL hh hl hl9 hn hR hi ho (by omega) (fun _ => ⟨rfl, hg9, by omega⟩) (by rw [zup_row (by decide), zup_row (by decide), h85e]; exact hkn) (zGt_up (zGt_up hS)) (fun j hj => by rw [zup_ap, if_neg (fun x => (by have := x.2; omega)), zup_ap, if_neg (fun x => (by have := x.2; omega))]; exact hRt j hj) (by rw [zup_ap, if_neg (fun x => (by have := x.2; omega)), zup_ap]; exact if_pos ⟨rfl, by omega⟩) (by rw [zup_ap]; exact if_pos ⟨rfl, by omega⟩) (fun h9 hS9 hR9 h85 _ => ?_))
          try simp only [zup_ap, zup_row, ne_eq, not_false_eq_true, zres, Int.toNat_natCast, reduceIte, Nat.reduceEqDiff, Nat.reduceAdd, and_self, and_true, true_and, and_false, false_and]
          refine z_ii7 dX6_trade_133 (by omega) (Nat.le_of_ble_eq_true rfl) rfl ?_
          refine z_goto (t := 53) dX6_trade_136 (by rfl) ?_
          first
          | (rw [zdF2_at (by omega) (by omega)] at ha9
             refine ih (k + 1) _ _ (by omega) (by omega) ?_ hR9 (by rw [h85, zup_row (by decide), zup_row (by decide)]; exact h85e)
             show zGt h0 _ L hold lm (if _ ∧ _ then _ else _)
             rw [if_pos ⟨by omega, ha9⟩]
             exact hS9)
          | (rw [zdF2_at (by omega) (by omega)] at ha9
             refine ih (k + 1) _ _ (by omega) (by omega) ?_ hRt h85e
             show zGt h0 _ L hold lm (if _ ∧ _ then _ else _)
             rw [if_neg (fun x => by rw [ha9] at x; exact absurd x.2 (by decide))]
             exact hS)
          | (refine ih (k + 1) _ _ (by omega) (by omega) ?_ hRt h85e
             show zGt h0 _ L hold lm (if _ ∧ _ then _ else _)
             rw [if_neg (fun x => (by have := x.1; omega))]
             exact hS)
set_option maxRecDepth 4000 in
theorem X6_tr_g {l : Launch} {Γ : zC} {h0 : zM} (hI : zIv Γ h0) {L hold : Nat} {lm : Int} (hL : L ≤ 3) (hh : 1 ≤ hold ∧ hold ≤ 6) (hl : zlmP h0 hold lm) (hl9 : lm ≤ 594) {n : Nat} (hn : n + 1 ≤ L) (hR : ∀ {i on g q : Nat} {m gI : Int} {R : Nat → Int} {B : zBs2} {h : zM} {Q : Option zV → zC → zM → Prop}, (i : Int) < h0 89 22 → on ≤ 9 * (L - n) → (h 85 (6 * on + i) ≠ -1 ∧ h 85 (6 * on + i) ≤ ((L - n : Nat) : Int)) → (0 ≤ m ∧ m + 594 * ((n : Nat) + 1) ≤ 3400) → (0 < q → gI = (g : Int) ∧ (g : Int) < h0 89 39 ∧ q ≤ hold) → zGt h0 h L hold lm B → (∀ j, j < 3 * (L - n) → h 83 j = R j) → (∀ h9, zGt h0 h9 L hold lm (zLg h0 hold L n i (zdO h0 on) m g q R B) → (∀ j, j < 3 * (L - n) → h9 83 j = R j) → h9 85 = h 85 → Q none Γ h9) → zCT l mX6_land (2 + 3 * n) 0 0 Γ [zR 77, zI ((L - n : Nat) : Int), zI (i : Int), zI (on : Int), zI m, zI gI, zI (q : Int)] h Q) {i on : Nat} {m may : Int} {R : Nat → Int} {Q : Option zV → zC → zM → Prop} {h1 : zM} {B : zBs2} (hi : (i : Int) < h0 89 22) (ho : on ≤ 9 * (L - (n + 1))) (hm9 : (0 ≤ m ∧ m + 594 * ((n : Nat) + 1) ≤ 3400)) (hkn : (h1 85 (6 * on + i) ≠ -1 ∧ h1 85 (6 * on + i) ≤ ((L - (n + 1) : Nat) : Int))) (hmay : zDb may (zdF2 h0 i (zdO h0 on : Nat) (6 * (h0 89 39).toNat))) (hQ : ∀ h9, zGt h0 h9 L hold lm (zfo (zBg h0 hold (zLg h0 hold L n) (L - (n + 1)) i (zdO h0 on) m R) (h0 89 39).toNat B) → (∀ j, j < 3 * (L - (n + 1)) → h9 83 j = R j) → h9 85 = h1 85 → Q none Γ h9) : ∀ (mm : Nat) (g9 : Nat) (y z : Option zV) (h : zM), 3 - g9 < mm → (g9 : Int) ≤ h0 89 39 → zGt h0 h L hold lm (zfo (zBg h0 hold (zLg h0 hold L n) (L - (n + 1)) i (zdO h0 on) m R) g9 B) → (∀ j, j < 3 * (L - (n + 1)) → h 83 j = R j) → h 85 = h1 85 → zG (zFn l mX6_trade (4 + 3 * n) 0 0 Γ Q) 0 0 Γ h 41 [some (zR 77), some (zI ((L - (n + 1) : Nat) : Int)), some (zI (i : Int)), some (zI (on : Int)), some (zI m), some (zI may), some (zI (g9 : Int)), y, z] [] := by
  have hΓ := hI.base
  have hx2 := hI.isl
  have hx7 := hI.gds
  have hnw := hI.now
  intro mm
  induction mm with
  | zero => intros; omega
  | succ mm ih =>
    intro g9 y z h hm hk hS hRt h85e
    refine z_il6 dX6_trade_41 ?_
    refine z_al0 dX6_trade_43 (by first | decide | omega | assumption) ?_
    refine z_getI zfX6_37 dX6_trade_44 (zkB hΓ rfl) rfl ?_
    rw [hS.1 77 2 rfl, hx7.1]
    try simp only [zup_ap, zup_row, ne_eq, not_false_eq_true, zres, Int.toNat_natCast, reduceIte, Nat.reduceEqDiff, Nat.reduceAdd, and_self, and_true, true_and, and_false, false_and]
    refine z_icmp_ge (t := 145) dX6_trade_47 (by rfl) (fun ht47 => ?_) (fun hf47 => ?_)
    · refine z_ret dX6_trade_145 rfl (Nat.le_refl _) (Nat.le_refl _) (zext_rf _) ?_
      have eg : g9 = (h0 89 39).toNat := by omega
      subst eg
      exact hQ h hS hRt h85e
    · refine z_iconst dX6_trade_50 (by decide) ?_
      refine z_is7 dX6_trade_51 (Nat.le_of_ble_eq_true rfl) rfl ?_
      refine X6_tr_q hI hL hh hl hl9 hn hR hi ho hm9 hkn hmay (by omega) (fun h9 y9 z9 hS9 hR9 h85 => ?_) _ 0 _ _ (Nat.lt_succ_self _) (by omega) hS hRt h85e
      refine z_ii6 dX6_trade_139 (by omega) (Nat.le_of_ble_eq_true rfl) rfl ?_
      refine z_goto (t := 41) dX6_trade_142 (by rfl) ?_
      exact ih (g9 + 1) _ _ _ (by omega) (by omega) hS9 hR9 h85
set_option maxRecDepth 4000 in
theorem X6_trade_ct {l : Launch} {Γ : zC} {h0 : zM} (hI : zIv Γ h0) {L hold : Nat} {lm : Int} (hL : L ≤ 3) (hh : 1 ≤ hold ∧ hold ≤ 6) (hl : zlmP h0 hold lm) (hl9 : lm ≤ 594) {n : Nat} (hn : n + 1 ≤ L) (hR : ∀ {i on g q : Nat} {m gI : Int} {R : Nat → Int} {B : zBs2} {h : zM} {Q : Option zV → zC → zM → Prop}, (i : Int) < h0 89 22 → on ≤ 9 * (L - n) → (h 85 (6 * on + i) ≠ -1 ∧ h 85 (6 * on + i) ≤ ((L - n : Nat) : Int)) → (0 ≤ m ∧ m + 594 * ((n : Nat) + 1) ≤ 3400) → (0 < q → gI = (g : Int) ∧ (g : Int) < h0 89 39 ∧ q ≤ hold) → zGt h0 h L hold lm B → (∀ j, j < 3 * (L - n) → h 83 j = R j) → (∀ h9, zGt h0 h9 L hold lm (zLg h0 hold L n i (zdO h0 on) m g q R B) → (∀ j, j < 3 * (L - n) → h9 83 j = R j) → h9 85 = h 85 → Q none Γ h9) → zCT l mX6_land (2 + 3 * n) 0 0 Γ [zR 77, zI ((L - n : Nat) : Int), zI (i : Int), zI (on : Int), zI m, zI gI, zI (q : Int)] h Q) {i on : Nat} {m may : Int} {R : Nat → Int} {Q : Option zV → zC → zM → Prop} {h1 : zM} {g : Nat} {B : zBs2} (hi : (i : Int) < h0 89 22) (ho : on ≤ 9 * (L - (n + 1))) (hm9 : (0 ≤ m ∧ m + 594 * ((n : Nat) + 1) ≤ 3400)) (hkn : (h1 85 (6 * on + i) ≠ -1 ∧ h1 85 (6 * on + i) ≤ ((L - (n + 1) : Nat) : Int))) (hmay : zDb may (zdF2 h0 i (zdO h0 on : Nat) (6 * (h0 89 39).toNat))) (hS : zGt h0 h1 L hold lm B) (hRt : ∀ j, j < 3 * (L - (n + 1)) → h1 83 j = R j) (hQ : ∀ h9, zGt h0 h9 L hold lm (zL2 h0 hold (zLg h0 hold L n) (L - (n + 1)) i (zdO h0 on) m g 0 R B) → (∀ j, j < 3 * (L - (n + 1)) → h9 83 j = R j) → h9 85 = h1 85 → Q none Γ h9) : zCT l mX6_trade (4 + 3 * n) 0 0 Γ [zR 77, zI ((L - (n + 1) : Nat) : Int), zI (i : Int), zI (on : Int), zI m, zI may] h1 Q := by
  have hΓ := hI.base
  have hx2 := hI.isl
  have hx7 := hI.gds
  have hnw := hI.now
  refine zCT_of (by decide) (Nat.le_of_ble_eq_true rfl) (ls := [some (zR 77), some (zI ((L - (n + 1) : Nat) : Int)), some (zI (i : Int)), some (zI (on : Int)), some (zI m), some (zI may), none, none, none]) rfl ?_
  refine z_il4 dX6_trade_0 ?_
  refine z_al0 dX6_trade_2 (by first | decide | omega | assumption) ?_
  refine z_getI zfX6_105 dX6_trade_3 (zkB hΓ rfl) rfl ?_
  rw [hS.2.2.2.2.2.1]
  try simp only [zup_ap, zup_row, ne_eq, not_false_eq_true, zres, Int.toNat_natCast, reduceIte, Nat.reduceEqDiff, Nat.reduceAdd, and_self, and_true, true_and, and_false, false_and]
  refine z_il1 dX6_trade_6 ?_
  refine z_isub dX6_trade_7 (by omega) ?_
  refine z_al0 dX6_trade_8 (by first | decide | omega | assumption) ?_
  refine z_getI zfX6_115 dX6_trade_9 (zkB hΓ rfl) rfl ?_
  rw [hS.2.2.2.2.2.2]
  try simp only [zup_ap, zup_row, ne_eq, not_false_eq_true, zres, Int.toNat_natCast, reduceIte, Nat.reduceEqDiff, Nat.reduceAdd, and_self, and_true, true_and, and_false, false_and]
  rw [show (L : Int) - ((L - (n + 1) : Nat) : Int) = ((n + 1 : Nat) : Int) by omega]
  have hl0 := hl.1
  have hnl : 0 ≤ ((n + 1 : Nat) : Int) * lm ∧ ((n + 1 : Nat) : Int) * lm ≤ 1782 := by
    rcases (show n = 0 ∨ n = 1 ∨ n = 2 by omega) with rfl | rfl | rfl <;> omega
  refine z_imul dX6_trade_12 (by omega) ?_
  refine z_iadd dX6_trade_13 (by omega) ?_
  refine z_al0 dX6_trade_14 (by first | decide | omega | assumption) ?_
  refine z_getI zfX6_108 dX6_trade_15 (zkB hΓ rfl) rfl ?_
  rw [hS.2.2.1]
  try simp only [zup_ap, zup_row, ne_eq, not_false_eq_true, zres, Int.toNat_natCast, reduceIte, Nat.reduceEqDiff, Nat.reduceAdd, and_self, and_true, true_and, and_false, false_and]
  refine z_icmp_gt (t := 22) dX6_trade_18 (by rfl) (fun ht18 => ?_) (fun hf18 => ?_)
  · refine z_al0 dX6_trade_22 (by first | decide | omega | assumption) ?_
    refine z_il1 dX6_trade_23 ?_
    refine zcv1 dX6_trade_24 zkX6_144 ziX6_buyNothing zsX6_buyNothing (zkB hΓ rfl) (by decide) rfl (Nat.le_of_ble_eq_true rfl) (by decide) (by first | decide | omega) ⟨Nat.le_refl _, Nat.le_refl _⟩ (X6_buyNothing_ct hΓ (by omega) (fun _ => ?_))
    try simp only [zup_ap, zup_row, ne_eq, not_false_eq_true, zres, Int.toNat_natCast, reduceIte, Nat.reduceEqDiff, Nat.reduceAdd, and_self, and_true, true_and, and_false, false_and]
    refine z_al0 dX6_trade_27 (by first | decide | omega | assumption) ?_
    refine z_il1 dX6_trade_28 ?_
    refine z_il2 dX6_trade_29 ?_
    refine z_il3 dX6_trade_30 ?_
    refine z_il4 dX6_trade_31 ?_
    refine z_iconst dX6_trade_33 (by decide) ?_
    refine z_iconst dX6_trade_34 (by decide) ?_
    refine zcv6 dX6_trade_35 zkX6_147 ziX6_leave zsX6_leave (zkB hΓ rfl) (by decide) rfl (Nat.le_of_ble_eq_true rfl) (by decide) (by first | decide | omega) ⟨Nat.le_refl _, Nat.le_refl _⟩ (X6_leave_ct (on := on) (g := 0) (q := 0) (gI := -1) (a := -1) (b := 0) (m := m) (R := R) hI hL hh hl hl9 hn hR hi ho (by omega) (fun x => absurd x (by omega)) (by rw [zup_row (by decide), zup_row (by decide)]; exact hkn) (zGt_up (zGt_up hS)) (fun j hj => by rw [zup_ap, if_neg (fun x => (by have := x.2; omega)), zup_ap, if_neg (fun x => (by have := x.2; omega))]; exact hRt j hj) (by rw [zup_ap, if_neg (fun x => (by have := x.2; omega)), zup_ap]; exact if_pos ⟨rfl, by omega⟩) (by rw [zup_ap]; exact if_pos ⟨rfl, by omega⟩) (fun h9 hS9 hR9 h85 _ => ?_))
    try simp only [zup_ap, zup_row, ne_eq, not_false_eq_true, zres, Int.toNat_natCast, reduceIte, Nat.reduceEqDiff, Nat.reduceAdd, and_self, and_true, true_and, and_false, false_and]
    refine z_iconst dX6_trade_38 (by decide) ?_
    refine z_is6 dX6_trade_39 (Nat.le_of_ble_eq_true rfl) rfl ?_
    exact X6_tr_g hI hL hh hl hl9 hn hR hi ho hm9 hkn hmay (fun h8 hS8 hR8 h858 => hQ h8 hS8 hR8 h858) _ 0 _ _ _ (Nat.lt_succ_self _) (by omega) hS9 hR9 (by rw [h85, zup_row (by decide), zup_row (by decide)])
  · refine z_ret dX6_trade_21 rfl (Nat.le_refl _) (Nat.le_refl _) (zext_rf _) ?_
    have e9 := zLg_poor (L := L) hI hl (n + 1) i (zdO h0 on) m g 0 R B hi (fun x => absurd x (by omega)) hh.2 ⟨fun _ => by omega, fun x => absurd x (by omega)⟩
    have e8 : zL2 h0 hold (zLg h0 hold L n) (L - (n + 1)) i (zdO h0 on) m g 0 R B = B := by
      refine Eq.trans ?_ e9
      show _ = zL2 h0 hold (zLg h0 hold L n) (L - (n + 1)) i (zdO h0 on) (zSl h0 i (zdO h0 on) m g 0).1 g (zSl h0 i (zdO h0 on) m g 0).2 R B
      rw [zSl_n (fun x => absurd x.1 (by omega))]
    refine hQ _ ?_ hRt rfl
    rw [e8]; exact hS
set_option maxRecDepth 4000 in
theorem X6_land_ct {l : Launch} {Γ : zC} {h0 : zM} (hI : zIv Γ h0) {L hold : Nat} {lm : Int} (hL : L ≤ 3) (hh : 1 ≤ hold ∧ hold ≤ 6) (hl : zlmP h0 hold lm) (hl9 : lm ≤ 594) : ∀ (n : Nat), n ≤ L → ∀ {i on g q : Nat} {m gI : Int} {R : Nat → Int} {B : zBs2} {h : zM} {Q : Option zV → zC → zM → Prop}, (i : Int) < h0 89 22 → on ≤ 9 * (L - n) → (h 85 (6 * on + i) ≠ -1 ∧ h 85 (6 * on + i) ≤ ((L - n : Nat) : Int)) → (0 ≤ m ∧ m + 594 * ((n : Nat) + 1) ≤ 3400) → (0 < q → gI = (g : Int) ∧ (g : Int) < h0 89 39 ∧ q ≤ hold) → zGt h0 h L hold lm B → (∀ j, j < 3 * (L - n) → h 83 j = R j) → (∀ h9, zGt h0 h9 L hold lm (zLg h0 hold L n i (zdO h0 on) m g q R B) → (∀ j, j < 3 * (L - n) → h9 83 j = R j) → h9 85 = h 85 → Q none Γ h9) → zCT l mX6_land (2 + 3 * n) 0 0 Γ [zR 77, zI ((L - n : Nat) : Int), zI (i : Int), zI (on : Int), zI m, zI gI, zI (q : Int)] h Q
  | 0, hn, i, on, g, q, m, gI, R, B, h, Q, hi, ho, hkn, hm9, hg, hS, hRt, hQ => by
    have hΓ := hI.base
    have hx2 := hI.isl
    have hx7 := hI.gds
    have hnw := hI.now
    have hF := hS.1
    refine zCT_of (by decide) (Nat.le_of_ble_eq_true rfl) (ls := [some (zR 77), some (zI ((L - 0 : Nat) : Int)), some (zI (i : Int)), some (zI (on : Int)), some (zI m), some (zI gI), some (zI (q : Int)), none, none, none]) rfl ?_
    refine z_al0 dX6_land_0 (by first | decide | omega | assumption) ?_
    refine z_il2 dX6_land_1 ?_
    refine z_il3 dX6_land_2 ?_
    have hkd := (hS.2.1 (6 * on + i) (by omega) hkn.1).2 (by omega)
    rw [show (6 * on + i) % 6 = i by omega, show (6 * on + i) / 6 = on by omega] at hkd
    have hmay := hkd.1
    refine zcv2 dX6_land_3 zkX6_134 ziX6_lawfulAt zsX6_lawfulAt (zkB hΓ rfl) (by decide) rfl (Nat.le_of_ble_eq_true rfl) (by decide) (by first | decide | omega) ⟨Nat.le_refl _, Nat.le_refl _⟩ (X6_lawfulAt_ct hΓ (by omega) (by omega) (fun _ => ?_))
    try simp only [zup_ap, zup_row, ne_eq, not_false_eq_true, zres, Int.toNat_natCast, reduceIte, Nat.reduceEqDiff, Nat.reduceAdd, and_self, and_true, true_and, and_false, false_and]
    refine z_is7 dX6_land_6 (Nat.le_of_ble_eq_true rfl) rfl ?_
    refine z_il6 dX6_land_8 ?_
    refine z_if_le (t := 29) dX6_land_10 (by rfl) (fun ht10 => ?_) (fun hf10 => ?_)
    · refine z_iconst dX6_land_29 (by decide) ?_
      refine z_is8 dX6_land_30 (Nat.le_of_ble_eq_true rfl) rfl ?_
      refine z_il8 dX6_land_32 ?_
      refine z_if_eq (t := 55) dX6_land_34 (by rfl) (fun _ => ?_) (fun hx => absurd hx (by decide))
      refine z_il4 dX6_land_55 ?_
      refine z_is9 dX6_land_57 (Nat.le_of_ble_eq_true rfl) rfl ?_
      refine z_il1 dX6_land_59 ?_
      refine z_al0 dX6_land_60 (by first | decide | omega | assumption) ?_
      refine z_getI zfX6_105 dX6_land_61 (zkB hΓ rfl) rfl ?_
      rw [hS.2.2.2.2.2.1]
      try simp only [zup_ap, zup_row, ne_eq, not_false_eq_true, zres, Int.toNat_natCast, reduceIte, Nat.reduceEqDiff, Nat.reduceAdd, and_self, and_true, true_and, and_false, false_and]
      refine z_icmp_lt (t := 76) dX6_land_64 (by rfl) (fun ht64 => ?_) (fun hf64 => ?_)
      · exfalso; omega
      · refine z_al0 dX6_land_67 (by first | decide | omega | assumption) ?_
        refine z_il9 dX6_land_68 ?_
        refine zcv1 dX6_land_70 zkX6_141 ziX6_keep zsX6_keep (zkB hΓ rfl) (by decide) rfl (Nat.le_of_ble_eq_true rfl) (by decide) (by first | decide | omega) ⟨Nat.le_refl _, Nat.le_refl _⟩ (X6_keep_ct hI hL hS hRt (fun h9 hS9 h83 h85 _ => ?_))
        try simp only [zup_ap, zup_row, ne_eq, not_false_eq_true, zres, Int.toNat_natCast, reduceIte, Nat.reduceEqDiff, Nat.reduceAdd, and_self, and_true, true_and, and_false, false_and]
        refine z_goto (t := 118) dX6_land_73 (by rfl) ?_
        refine z_ret dX6_land_118 rfl (Nat.le_refl _) (Nat.le_refl _) (zext_rf _) ?_
        first
        | (have es := zSl_y (h := h0) (i := i) (d := zdO h0 on) (m := m) (g := g) (q := q) (by omega) ha9
           exact hQ h9 (by show zGt h0 h9 L hold lm (zUp B (zSl h0 i (zdO h0 on) m g q).1 R); rw [es]; exact hS9) (fun j hj => by rw [h83]; exact hRt j hj) h85)
        | (have es := zSl_n (h := h0) (i := i) (d := zdO h0 on) (m := m) (g := g) (q := q) (fun x => by rw [ha9] at x; exact absurd x.2 (by decide))
           exact hQ h9 (by show zGt h0 h9 L hold lm (zUp B (zSl h0 i (zdO h0 on) m g q).1 R); rw [es]; exact hS9) (fun j hj => by rw [h83]; exact hRt j hj) h85)
        | (have es := zSl_n (h := h0) (i := i) (d := zdO h0 on) (m := m) (g := g) (q := q) (fun x => (by have := x.1; omega))
           exact hQ h9 (by show zGt h0 h9 L hold lm (zUp B (zSl h0 i (zdO h0 on) m g q).1 R); rw [es]; exact hS9) (fun j hj => by rw [h83]; exact hRt j hj) h85)
    · obtain ⟨rfl, hg1, hg2⟩ := hg (by omega)
      refine z_il7 dX6_land_13 ?_
      refine z_il5 dX6_land_15 ?_
      refine z_il6 dX6_land_17 ?_
      refine zcs3 dX6_land_19 zkX6_137 ztX6_allows (Nat.le_of_ble_eq_true rfl) (by decide) (by first | decide | omega) ⟨Nat.le_refl _, Nat.le_refl _⟩ (X6_allows_ct (g := g) (q := q) hmay (by omega) (by omega) (fun ha9 _ => ?_) (fun ha9 _ => ?_))
      · try simp only [zup_ap, zup_row, ne_eq, not_false_eq_true, zres, Int.toNat_natCast, reduceIte, Nat.reduceEqDiff, Nat.reduceAdd, and_self, and_true, true_and, and_false, false_and]
        rw [zdF2_at (by omega) (by omega)] at ha9
        refine z_if_eq (t := 29) dX6_land_22 (by rfl) (fun _ => ?_) (fun hx => absurd hx (by decide))
        refine z_iconst dX6_land_29 (by decide) ?_
        refine z_is8 dX6_land_30 (Nat.le_of_ble_eq_true rfl) rfl ?_
        refine z_il8 dX6_land_32 ?_
        refine z_if_eq (t := 55) dX6_land_34 (by rfl) (fun _ => ?_) (fun hx => absurd hx (by decide))
        refine z_il4 dX6_land_55 ?_
        refine z_is9 dX6_land_57 (Nat.le_of_ble_eq_true rfl) rfl ?_
        refine z_il1 dX6_land_59 ?_
        refine z_al0 dX6_land_60 (by first | decide | omega | assumption) ?_
        refine z_getI zfX6_105 dX6_land_61 (zkB hΓ rfl) rfl ?_
        rw [hS.2.2.2.2.2.1]
        try simp only [zup_ap, zup_row, ne_eq, not_false_eq_true, zres, Int.toNat_natCast, reduceIte, Nat.reduceEqDiff, Nat.reduceAdd, and_self, and_true, true_and, and_false, false_and]
        refine z_icmp_lt (t := 76) dX6_land_64 (by rfl) (fun ht64 => ?_) (fun hf64 => ?_)
        · exfalso; omega
        · refine z_al0 dX6_land_67 (by first | decide | omega | assumption) ?_
          refine z_il9 dX6_land_68 ?_
          refine zcv1 dX6_land_70 zkX6_141 ziX6_keep zsX6_keep (zkB hΓ rfl) (by decide) rfl (Nat.le_of_ble_eq_true rfl) (by decide) (by first | decide | omega) ⟨Nat.le_refl _, Nat.le_refl _⟩ (X6_keep_ct hI hL hS hRt (fun h9 hS9 h83 h85 _ => ?_))
          try simp only [zup_ap, zup_row, ne_eq, not_false_eq_true, zres, Int.toNat_natCast, reduceIte, Nat.reduceEqDiff, Nat.reduceAdd, and_self, and_true, true_and, and_false, false_and]
          refine z_goto (t := 118) dX6_land_73 (by rfl) ?_
          refine z_ret dX6_land_118 rfl (Nat.le_refl _) (Nat.le_refl _) (zext_rf _) ?_
          first
          | (have es := zSl_y (h := h0) (i := i) (d := zdO h0 on) (m := m) (g := g) (q := q) (by omega) ha9
             exact hQ h9 (by show zGt h0 h9 L hold lm (zUp B (zSl h0 i (zdO h0 on) m g q).1 R); rw [es]; exact hS9) (fun j hj => by rw [h83]; exact hRt j hj) h85)
          | (have es := zSl_n (h := h0) (i := i) (d := zdO h0 on) (m := m) (g := g) (q := q) (fun x => by rw [ha9] at x; exact absurd x.2 (by decide))
             exact hQ h9 (by show zGt h0 h9 L hold lm (zUp B (zSl h0 i (zdO h0 on) m g q).1 R); rw [es]; exact hS9) (fun j hj => by rw [h83]; exact hRt j hj) h85)
          | (have es := zSl_n (h := h0) (i := i) (d := zdO h0 on) (m := m) (g := g) (q := q) (fun x => (by have := x.1; omega))
             exact hQ h9 (by show zGt h0 h9 L hold lm (zUp B (zSl h0 i (zdO h0 on) m g q).1 R); rw [es]; exact hS9) (fun j hj => by rw [h83]; exact hRt j hj) h85)
      · try simp only [zup_ap, zup_row, ne_eq, not_false_eq_true, zres, Int.toNat_natCast, reduceIte, Nat.reduceEqDiff, Nat.reduceAdd, and_self, and_true, true_and, and_false, false_and]
        rw [zdF2_at (by omega) (by omega)] at ha9
        refine z_if_eq (t := 29) dX6_land_22 (by rfl) (fun hx => absurd hx (by decide)) (fun _ => ?_)
        refine z_iconst dX6_land_25 (by decide) ?_
        refine z_goto (t := 30) dX6_land_26 (by rfl) ?_
        refine z_is8 dX6_land_30 (Nat.le_of_ble_eq_true rfl) rfl ?_
        refine z_il8 dX6_land_32 ?_
        refine z_if_eq (t := 55) dX6_land_34 (by rfl) (fun hx => absurd hx (by decide)) (fun _ => ?_)
        refine z_il4 dX6_land_37 ?_
        refine z_il6 dX6_land_39 ?_
        refine z_al0 dX6_land_41 (by first | decide | omega | assumption) ?_
        refine z_getR zfX6_21 dX6_land_42 (zkB hΓ rfl) rfl (zsB hΓ rfl) (zvB hΓ (by decide)) ?_
        refine z_il5 dX6_land_45 ?_
        refine z_aald dX6_land_47 (zkB hΓ rfl) (Or.inl rfl) (by omega) (by omega) (q := 79 + g) (by rw [show (g : Int).toNat = g from Int.toNat_natCast g, zsr78 hΓ (by omega)]; rfl) (fun _ => zvB hΓ (Or.inl (by omega))) ?_
        refine z_il2 dX6_land_48 ?_
        refine z_iald dX6_land_49 (zks79 hΓ (by omega)) (by omega) (by omega) ?_
        try simp only [zup_ap, zup_row, ne_eq, not_false_eq_true, zres, Int.toNat_natCast, reduceIte, Nat.reduceEqDiff, Nat.reduceAdd, and_self, and_true, true_and, and_false, false_and]
        try simp only [Int.toNat_natCast]
        rw [hF (79 + g) _ (zSS79 (by omega) _), (hI.prc g i (by omega) (by omega)).1]
        have hp8 := (hI.prc g i (by omega) (by omega)).2
        have hm8 := zmq (q := q) (p := h0 107 (6 * g + i)) (by omega) hp8.1 hp8.2
        refine z_imul dX6_land_50 (by omega) ?_
        refine z_iadd dX6_land_51 (by omega) ?_
        refine z_goto (t := 57) dX6_land_52 (by rfl) ?_
        refine z_is9 dX6_land_57 (Nat.le_of_ble_eq_true rfl) rfl ?_
        refine z_il1 dX6_land_59 ?_
        refine z_al0 dX6_land_60 (by first | decide | omega | assumption) ?_
        refine z_getI zfX6_105 dX6_land_61 (zkB hΓ rfl) rfl ?_
        rw [hS.2.2.2.2.2.1]
        try simp only [zup_ap, zup_row, ne_eq, not_false_eq_true, zres, Int.toNat_natCast, reduceIte, Nat.reduceEqDiff, Nat.reduceAdd, and_self, and_true, true_and, and_false, false_and]
        refine z_icmp_lt (t := 76) dX6_land_64 (by rfl) (fun ht64 => ?_) (fun hf64 => ?_)
        · exfalso; omega
        · refine z_al0 dX6_land_67 (by first | decide | omega | assumption) ?_
          refine z_il9 dX6_land_68 ?_
          refine zcv1 dX6_land_70 zkX6_141 ziX6_keep zsX6_keep (zkB hΓ rfl) (by decide) rfl (Nat.le_of_ble_eq_true rfl) (by decide) (by first | decide | omega) ⟨Nat.le_refl _, Nat.le_refl _⟩ (X6_keep_ct hI hL hS hRt (fun h9 hS9 h83 h85 _ => ?_))
          try simp only [zup_ap, zup_row, ne_eq, not_false_eq_true, zres, Int.toNat_natCast, reduceIte, Nat.reduceEqDiff, Nat.reduceAdd, and_self, and_true, true_and, and_false, false_and]
          refine z_goto (t := 118) dX6_land_73 (by rfl) ?_
          refine z_ret dX6_land_118 rfl (Nat.le_refl _) (Nat.le_refl _) (zext_rf _) ?_
          first
          | (have es := zSl_y (h := h0) (i := i) (d := zdO h0 on) (m := m) (g := g) (q := q) (by omega) ha9
             exact hQ h9 (by show zGt h0 h9 L hold lm (zUp B (zSl h0 i (zdO h0 on) m g q).1 R); rw [es]; exact hS9) (fun j hj => by rw [h83]; exact hRt j hj) h85)
          | (have es := zSl_n (h := h0) (i := i) (d := zdO h0 on) (m := m) (g := g) (q := q) (fun x => by rw [ha9] at x; exact absurd x.2 (by decide))
             exact hQ h9 (by show zGt h0 h9 L hold lm (zUp B (zSl h0 i (zdO h0 on) m g q).1 R); rw [es]; exact hS9) (fun j hj => by rw [h83]; exact hRt j hj) h85)
          | (have es := zSl_n (h := h0) (i := i) (d := zdO h0 on) (m := m) (g := g) (q := q) (fun x => (by have := x.1; omega))
             exact hQ h9 (by show zGt h0 h9 L hold lm (zUp B (zSl h0 i (zdO h0 on) m g q).1 R); rw [es]; exact hS9) (fun j hj => by rw [h83]; exact hRt j hj) h85)
  | n + 1, hn, i, on, g, q, m, gI, R, B, h, Q, hi, ho, hkn, hm9, hg, hS, hRt, hQ => by
    have hΓ := hI.base
    have hx2 := hI.isl
    have hx7 := hI.gds
    have hnw := hI.now
    have hF := hS.1
    refine zCT_of (by decide) (Nat.le_of_ble_eq_true rfl) (ls := [some (zR 77), some (zI ((L - (n + 1) : Nat) : Int)), some (zI (i : Int)), some (zI (on : Int)), some (zI m), some (zI gI), some (zI (q : Int)), none, none, none]) rfl ?_
    refine z_al0 dX6_land_0 (by first | decide | omega | assumption) ?_
    refine z_il2 dX6_land_1 ?_
    refine z_il3 dX6_land_2 ?_
    have hkd := (hS.2.1 (6 * on + i) (by omega) hkn.1).2 (by omega)
    rw [show (6 * on + i) % 6 = i by omega, show (6 * on + i) / 6 = on by omega] at hkd
    have hmay := hkd.1
    refine zcv2 dX6_land_3 zkX6_134 ziX6_lawfulAt zsX6_lawfulAt (zkB hΓ rfl) (by decide) rfl (Nat.le_of_ble_eq_true rfl) (by decide) (by first | decide | omega) ⟨Nat.le_refl _, Nat.le_refl _⟩ (X6_lawfulAt_ct hΓ (by omega) (by omega) (fun _ => ?_))
    try simp only [zup_ap, zup_row, ne_eq, not_false_eq_true, zres, Int.toNat_natCast, reduceIte, Nat.reduceEqDiff, Nat.reduceAdd, and_self, and_true, true_and, and_false, false_and]
    refine z_is7 dX6_land_6 (Nat.le_of_ble_eq_true rfl) rfl ?_
    refine z_il6 dX6_land_8 ?_
    refine z_if_le (t := 29) dX6_land_10 (by rfl) (fun ht10 => ?_) (fun hf10 => ?_)
    · refine z_iconst dX6_land_29 (by decide) ?_
      refine z_is8 dX6_land_30 (Nat.le_of_ble_eq_true rfl) rfl ?_
      refine z_il8 dX6_land_32 ?_
      refine z_if_eq (t := 55) dX6_land_34 (by rfl) (fun _ => ?_) (fun hx => absurd hx (by decide))
      refine z_il4 dX6_land_55 ?_
      refine z_is9 dX6_land_57 (Nat.le_of_ble_eq_true rfl) rfl ?_
      refine z_il1 dX6_land_59 ?_
      refine z_al0 dX6_land_60 (by first | decide | omega | assumption) ?_
      refine z_getI zfX6_105 dX6_land_61 (zkB hΓ rfl) rfl ?_
      rw [hS.2.2.2.2.2.1]
      try simp only [zup_ap, zup_row, ne_eq, not_false_eq_true, zres, Int.toNat_natCast, reduceIte, Nat.reduceEqDiff, Nat.reduceAdd, and_self, and_true, true_and, and_false, false_and]
      refine z_icmp_lt (t := 76) dX6_land_64 (by rfl) (fun ht64 => ?_) (fun hf64 => ?_)
      · refine z_il6 dX6_land_76 ?_
        refine z_if_le (t := 107) dX6_land_78 (by rfl) (fun ht78 => ?_) (fun hf78 => ?_)
        · first
          | (exfalso; omega)
          | (refine z_al0 dX6_land_107 (by first | decide | omega | assumption) ?_
             refine z_il1 dX6_land_108 ?_
             refine z_il2 dX6_land_109 ?_
             refine z_il3 dX6_land_110 ?_
             refine z_il9 dX6_land_111 ?_
             refine z_il7 dX6_land_113 ?_
             refine zcv5 dX6_land_115 zkX6_150 ziX6_trade zsX6_trade (zkB hΓ rfl) (by decide) rfl (Nat.le_of_ble_eq_true rfl) (by decide) (by first | decide | omega) ⟨Nat.le_refl _, Nat.le_refl _⟩ (X6_trade_ct (on := on) (g := g) (R := R) (B := B) hI hL hh hl hl9 hn (fun a1 a2 a3 a4 a5 a6 a7 a8 => X6_land_ct hI hL hh hl hl9 n (by omega) a1 a2 a3 a4 a5 a6 a7 a8) hi ho (by omega) hkn hmay hS hRt (fun h9 hS9 hR9 h85 _ => ?_))
             try simp only [zup_ap, zup_row, ne_eq, not_false_eq_true, zres, Int.toNat_natCast, reduceIte, Nat.reduceEqDiff, Nat.reduceAdd, and_self, and_true, true_and, and_false, false_and]
             refine z_ret dX6_land_118 rfl (Nat.le_refl _) (Nat.le_refl _) (zext_rf _) ?_
             first
             | (have es := zSl_n (h := h0) (i := i) (d := zdO h0 on) (m := m) (g := g) (q := q) (fun x => by rw [ha9] at x; exact absurd x.2 (by decide))
                refine hQ h9 ?_ hR9 (by rw [h85, zup_row (by decide), zup_row (by decide)])
                show zGt h0 h9 L hold lm (zL2 h0 hold (zLg h0 hold L n) (L - (n + 1)) i (zdO h0 on) (zSl h0 i (zdO h0 on) m g q).1 g (zSl h0 i (zdO h0 on) m g q).2 R B)
                rw [es]
                show zGt h0 h9 L hold lm (if _ then _ else _)
                rw [if_pos (by omega)]
                exact hS9)
             | (have es := zSl_y (h := h0) (i := i) (d := zdO h0 on) (m := m) (g := g) (q := q) (by omega) ha9
                refine hQ h9 ?_ hR9 h85
                show zGt h0 h9 L hold lm (zL2 h0 hold (zLg h0 hold L n) (L - (n + 1)) i (zdO h0 on) (zSl h0 i (zdO h0 on) m g q).1 g (zSl h0 i (zdO h0 on) m g q).2 R B)
                rw [es]
                exact hS9)
             | (have es := zSl_n (h := h0) (i := i) (d := zdO h0 on) (m := m) (g := g) (q := q) (fun x => (by have := x.1; omega))
                refine hQ h9 ?_ hR9 h85
                show zGt h0 h9 L hold lm (zL2 h0 hold (zLg h0 hold L n) (L - (n + 1)) i (zdO h0 on) (zSl h0 i (zdO h0 on) m g q).1 g (zSl h0 i (zdO h0 on) m g q).2 R B)
                rw [es, show q = 0 by omega]
                exact hS9))
        · first
          | (exfalso; omega)
          | (refine z_il8 dX6_land_81 ?_
             refine z_if_ne (t := 107) dX6_land_83 (by rfl) (fun hx => absurd hx (by decide)) (fun _ => ?_)
             refine z_al0 dX6_land_86 (by first | decide | omega | assumption) ?_
             refine z_il1 dX6_land_87 ?_
             refine zcv1 dX6_land_88 zkX6_144 ziX6_buyNothing zsX6_buyNothing (zkB hΓ rfl) (by decide) rfl (Nat.le_of_ble_eq_true rfl) (by decide) (by first | decide | omega) ⟨Nat.le_refl _, Nat.le_refl _⟩ (X6_buyNothing_ct hΓ (by omega) (fun _ => ?_))
             try simp only [zup_ap, zup_row, ne_eq, not_false_eq_true, zres, Int.toNat_natCast, reduceIte, Nat.reduceEqDiff, Nat.reduceAdd, and_self, and_true, true_and, and_false, false_and]
             refine z_al0 dX6_land_91 (by first | decide | omega | assumption) ?_
             refine z_il1 dX6_land_92 ?_
             refine z_il2 dX6_land_93 ?_
             refine z_il3 dX6_land_94 ?_
             refine z_il9 dX6_land_95 ?_
             refine z_il5 dX6_land_97 ?_
             refine z_il6 dX6_land_99 ?_
             refine zcv6 dX6_land_101 zkX6_147 ziX6_leave zsX6_leave (zkB hΓ rfl) (by decide) rfl (Nat.le_of_ble_eq_true rfl) (by decide) (by first | decide | omega) ⟨Nat.le_refl _, Nat.le_refl _⟩ (X6_leave_ct (on := on) (g := g) (q := q) (a := -1) (b := 0) (m := m) (R := R) (B := B) hI hL hh hl hl9 hn (fun a1 a2 a3 a4 a5 a6 a7 a8 => X6_land_ct hI hL hh hl hl9 n (by omega) a1 a2 a3 a4 a5 a6 a7 a8) hi ho (by omega) (fun _ => ⟨rfl, hg1, hg2⟩) (by rw [zup_row (by decide), zup_row (by decide)]; exact hkn) (zGt_up (zGt_up hS)) (fun j hj => by rw [zup_ap, if_neg (fun x => (by have := x.2; omega)), zup_ap, if_neg (fun x => (by have := x.2; omega))]; exact hRt j hj) (by rw [zup_ap, if_neg (fun x => (by have := x.2; omega)), zup_ap]; exact if_pos ⟨rfl, by omega⟩) (by rw [zup_ap]; exact if_pos ⟨rfl, by omega⟩) (fun h9 hS9 hR9 h85 _ => ?_))
             try simp only [zup_ap, zup_row, ne_eq, not_false_eq_true, zres, Int.toNat_natCast, reduceIte, Nat.reduceEqDiff, Nat.reduceAdd, and_self, and_true, true_and, and_false, false_and]
             refine z_goto (t := 118) dX6_land_104 (by rfl) ?_
             refine z_ret dX6_land_118 rfl (Nat.le_refl _) (Nat.le_refl _) (zext_rf _) ?_
             first
             | (have es := zSl_n (h := h0) (i := i) (d := zdO h0 on) (m := m) (g := g) (q := q) (fun x => by rw [ha9] at x; exact absurd x.2 (by decide))
                refine hQ h9 ?_ hR9 (by rw [h85, zup_row (by decide), zup_row (by decide)])
                show zGt h0 h9 L hold lm (zL2 h0 hold (zLg h0 hold L n) (L - (n + 1)) i (zdO h0 on) (zSl h0 i (zdO h0 on) m g q).1 g (zSl h0 i (zdO h0 on) m g q).2 R B)
                rw [es]
                show zGt h0 h9 L hold lm (if _ then _ else _)
                rw [if_pos (by omega)]
                exact hS9)
             | (have es := zSl_y (h := h0) (i := i) (d := zdO h0 on) (m := m) (g := g) (q := q) (by omega) ha9
                refine hQ h9 ?_ hR9 h85
                show zGt h0 h9 L hold lm (zL2 h0 hold (zLg h0 hold L n) (L - (n + 1)) i (zdO h0 on) (zSl h0 i (zdO h0 on) m g q).1 g (zSl h0 i (zdO h0 on) m g q).2 R B)
                rw [es]
                exact hS9)
             | (have es := zSl_n (h := h0) (i := i) (d := zdO h0 on) (m := m) (g := g) (q := q) (fun x => (by have := x.1; omega))
                refine hQ h9 ?_ hR9 h85
                show zGt h0 h9 L hold lm (zL2 h0 hold (zLg h0 hold L n) (L - (n + 1)) i (zdO h0 on) (zSl h0 i (zdO h0 on) m g q).1 g (zSl h0 i (zdO h0 on) m g q).2 R B)
                rw [es, show q = 0 by omega]
                exact hS9))
      · exfalso; omega
    · obtain ⟨rfl, hg1, hg2⟩ := hg (by omega)
      refine z_il7 dX6_land_13 ?_
      refine z_il5 dX6_land_15 ?_
      refine z_il6 dX6_land_17 ?_
      refine zcs3 dX6_land_19 zkX6_137 ztX6_allows (Nat.le_of_ble_eq_true rfl) (by decide) (by first | decide | omega) ⟨Nat.le_refl _, Nat.le_refl _⟩ (X6_allows_ct (g := g) (q := q) hmay (by omega) (by omega) (fun ha9 _ => ?_) (fun ha9 _ => ?_))
      · try simp only [zup_ap, zup_row, ne_eq, not_false_eq_true, zres, Int.toNat_natCast, reduceIte, Nat.reduceEqDiff, Nat.reduceAdd, and_self, and_true, true_and, and_false, false_and]
        rw [zdF2_at (by omega) (by omega)] at ha9
        refine z_if_eq (t := 29) dX6_land_22 (by rfl) (fun _ => ?_) (fun hx => absurd hx (by decide))
        refine z_iconst dX6_land_29 (by decide) ?_
        refine z_is8 dX6_land_30 (Nat.le_of_ble_eq_true rfl) rfl ?_
        refine z_il8 dX6_land_32 ?_
        refine z_if_eq (t := 55) dX6_land_34 (by rfl) (fun _ => ?_) (fun hx => absurd hx (by decide))
        refine z_il4 dX6_land_55 ?_
        refine z_is9 dX6_land_57 (Nat.le_of_ble_eq_true rfl) rfl ?_
        refine z_il1 dX6_land_59 ?_
        refine z_al0 dX6_land_60 (by first | decide | omega | assumption) ?_
        refine z_getI zfX6_105 dX6_land_61 (zkB hΓ rfl) rfl ?_
        rw [hS.2.2.2.2.2.1]
        try simp only [zup_ap, zup_row, ne_eq, not_false_eq_true, zres, Int.toNat_natCast, reduceIte, Nat.reduceEqDiff, Nat.reduceAdd, and_self, and_true, true_and, and_false, false_and]
        refine z_icmp_lt (t := 76) dX6_land_64 (by rfl) (fun ht64 => ?_) (fun hf64 => ?_)
        · refine z_il6 dX6_land_76 ?_
          refine z_if_le (t := 107) dX6_land_78 (by rfl) (fun ht78 => ?_) (fun hf78 => ?_)
          · first
            | (exfalso; omega)
            | (refine z_al0 dX6_land_107 (by first | decide | omega | assumption) ?_
               refine z_il1 dX6_land_108 ?_
               refine z_il2 dX6_land_109 ?_
               refine z_il3 dX6_land_110 ?_
               refine z_il9 dX6_land_111 ?_
               refine z_il7 dX6_land_113 ?_
               refine zcv5 dX6_land_115 zkX6_150 ziX6_trade zsX6_trade (zkB hΓ rfl) (by decide) rfl (Nat.le_of_ble_eq_true rfl) (by decide) (by first | decide | omega) ⟨Nat.le_refl _, Nat.le_refl _⟩ (X6_trade_ct (on := on) (g := g) (R := R) (B := B) hI hL hh hl hl9 hn (fun a1 a2 a3 a4 a5 a6 a7 a8 => X6_land_ct hI hL hh hl hl9 n (by omega) a1 a2 a3 a4 a5 a6 a7 a8) hi ho (by omega) hkn hmay hS hRt (fun h9 hS9 hR9 h85 _ => ?_))
               try simp only [zup_ap, zup_row, ne_eq, not_false_eq_true, zres, Int.toNat_natCast, reduceIte, Nat.reduceEqDiff, Nat.reduceAdd, and_self, and_true, true_and, and_false, false_and]
               refine z_ret dX6_land_118 rfl (Nat.le_refl _) (Nat.le_refl _) (zext_rf _) ?_
               first
               | (have es := zSl_n (h := h0) (i := i) (d := zdO h0 on) (m := m) (g := g) (q := q) (fun x => by rw [ha9] at x; exact absurd x.2 (by decide))
                  refine hQ h9 ?_ hR9 (by rw [h85, zup_row (by decide), zup_row (by decide)])
                  show zGt h0 h9 L hold lm (zL2 h0 hold (zLg h0 hold L n) (L - (n + 1)) i (zdO h0 on) (zSl h0 i (zdO h0 on) m g q).1 g (zSl h0 i (zdO h0 on) m g q).2 R B)
                  rw [es]
                  show zGt h0 h9 L hold lm (if _ then _ else _)
                  rw [if_pos (by omega)]
                  exact hS9)
               | (have es := zSl_y (h := h0) (i := i) (d := zdO h0 on) (m := m) (g := g) (q := q) (by omega) ha9
                  refine hQ h9 ?_ hR9 h85
                  show zGt h0 h9 L hold lm (zL2 h0 hold (zLg h0 hold L n) (L - (n + 1)) i (zdO h0 on) (zSl h0 i (zdO h0 on) m g q).1 g (zSl h0 i (zdO h0 on) m g q).2 R B)
                  rw [es]
                  exact hS9)
               | (have es := zSl_n (h := h0) (i := i) (d := zdO h0 on) (m := m) (g := g) (q := q) (fun x => (by have := x.1; omega))
                  refine hQ h9 ?_ hR9 h85
                  show zGt h0 h9 L hold lm (zL2 h0 hold (zLg h0 hold L n) (L - (n + 1)) i (zdO h0 on) (zSl h0 i (zdO h0 on) m g q).1 g (zSl h0 i (zdO h0 on) m g q).2 R B)
                  rw [es, show q = 0 by omega]
                  exact hS9))
          · first
            | (exfalso; omega)
            | (refine z_il8 dX6_land_81 ?_
               refine z_if_ne (t := 107) dX6_land_83 (by rfl) (fun hx => absurd hx (by decide)) (fun _ => ?_)
               refine z_al0 dX6_land_86 (by first | decide | omega | assumption) ?_
               refine z_il1 dX6_land_87 ?_
               refine zcv1 dX6_land_88 zkX6_144 ziX6_buyNothing zsX6_buyNothing (zkB hΓ rfl) (by decide) rfl (Nat.le_of_ble_eq_true rfl) (by decide) (by first | decide | omega) ⟨Nat.le_refl _, Nat.le_refl _⟩ (X6_buyNothing_ct hΓ (by omega) (fun _ => ?_))
               try simp only [zup_ap, zup_row, ne_eq, not_false_eq_true, zres, Int.toNat_natCast, reduceIte, Nat.reduceEqDiff, Nat.reduceAdd, and_self, and_true, true_and, and_false, false_and]
               refine z_al0 dX6_land_91 (by first | decide | omega | assumption) ?_
               refine z_il1 dX6_land_92 ?_
               refine z_il2 dX6_land_93 ?_
               refine z_il3 dX6_land_94 ?_
               refine z_il9 dX6_land_95 ?_
               refine z_il5 dX6_land_97 ?_
               refine z_il6 dX6_land_99 ?_
               refine zcv6 dX6_land_101 zkX6_147 ziX6_leave zsX6_leave (zkB hΓ rfl) (by decide) rfl (Nat.le_of_ble_eq_true rfl) (by decide) (by first | decide | omega) ⟨Nat.le_refl _, Nat.le_refl _⟩ (X6_leave_ct (on := on) (g := g) (q := q) (a := -1) (b := 0) (m := m) (R := R) (B := B) hI hL hh hl hl9 hn (fun a1 a2 a3 a4 a5 a6 a7 a8 => X6_land_ct hI hL hh hl hl9 n (by omega) a1 a2 a3 a4 a5 a6 a7 a8) hi ho (by omega) (fun _ => ⟨rfl, hg1, hg2⟩) (by rw [zup_row (by decide), zup_row (by decide)]; exact hkn) (zGt_up (zGt_up hS)) (fun j hj => by rw [zup_ap, if_neg (fun x => (by have := x.2; omega)), zup_ap, if_neg (fun x => (by have := x.2; omega))]; exact hRt j hj) (by rw [zup_ap, if_neg (fun x => (by have := x.2; omega)), zup_ap]; exact if_pos ⟨rfl, by omega⟩) (by rw [zup_ap]; exact if_pos ⟨rfl, by omega⟩) (fun h9 hS9 hR9 h85 _ => ?_))
               try simp only [zup_ap, zup_row, ne_eq, not_false_eq_true, zres, Int.toNat_natCast, reduceIte, Nat.reduceEqDiff, Nat.reduceAdd, and_self, and_true, true_and, and_false, false_and]
               refine z_goto (t := 118) dX6_land_104 (by rfl) ?_
               refine z_ret dX6_land_118 rfl (Nat.le_refl _) (Nat.le_refl _) (zext_rf _) ?_
               first
               | (have es := zSl_n (h := h0) (i := i) (d := zdO h0 on) (m := m) (g := g) (q := q) (fun x => by rw [ha9] at x; exact absurd x.2 (by decide))
                  refine hQ h9 ?_ hR9 (by rw [h85, zup_row (by decide), zup_row (by decide)])
                  show zGt h0 h9 L hold lm (zL2 h0 hold (zLg h0 hold L n) (L - (n + 1)) i (zdO h0 on) (zSl h0 i (zdO h0 on) m g q).1 g (zSl h0 i (zdO h0 on) m g q).2 R B)
                  rw [es]
                  show zGt h0 h9 L hold lm (if _ then _ else _)
                  rw [if_pos (by omega)]
                  exact hS9)
               | (have es := zSl_y (h := h0) (i := i) (d := zdO h0 on) (m := m) (g := g) (q := q) (by omega) ha9
                  refine hQ h9 ?_ hR9 h85
                  show zGt h0 h9 L hold lm (zL2 h0 hold (zLg h0 hold L n) (L - (n + 1)) i (zdO h0 on) (zSl h0 i (zdO h0 on) m g q).1 g (zSl h0 i (zdO h0 on) m g q).2 R B)
                  rw [es]
                  exact hS9)
               | (have es := zSl_n (h := h0) (i := i) (d := zdO h0 on) (m := m) (g := g) (q := q) (fun x => (by have := x.1; omega))
                  refine hQ h9 ?_ hR9 h85
                  show zGt h0 h9 L hold lm (zL2 h0 hold (zLg h0 hold L n) (L - (n + 1)) i (zdO h0 on) (zSl h0 i (zdO h0 on) m g q).1 g (zSl h0 i (zdO h0 on) m g q).2 R B)
                  rw [es, show q = 0 by omega]
                  exact hS9))
        · exfalso; omega
      · try simp only [zup_ap, zup_row, ne_eq, not_false_eq_true, zres, Int.toNat_natCast, reduceIte, Nat.reduceEqDiff, Nat.reduceAdd, and_self, and_true, true_and, and_false, false_and]
        rw [zdF2_at (by omega) (by omega)] at ha9
        refine z_if_eq (t := 29) dX6_land_22 (by rfl) (fun hx => absurd hx (by decide)) (fun _ => ?_)
        refine z_iconst dX6_land_25 (by decide) ?_
        refine z_goto (t := 30) dX6_land_26 (by rfl) ?_
        refine z_is8 dX6_land_30 (Nat.le_of_ble_eq_true rfl) rfl ?_
        refine z_il8 dX6_land_32 ?_
        refine z_if_eq (t := 55) dX6_land_34 (by rfl) (fun hx => absurd hx (by decide)) (fun _ => ?_)
        refine z_il4 dX6_land_37 ?_
        refine z_il6 dX6_land_39 ?_
        refine z_al0 dX6_land_41 (by first | decide | omega | assumption) ?_
        refine z_getR zfX6_21 dX6_land_42 (zkB hΓ rfl) rfl (zsB hΓ rfl) (zvB hΓ (by decide)) ?_
        refine z_il5 dX6_land_45 ?_
        refine z_aald dX6_land_47 (zkB hΓ rfl) (Or.inl rfl) (by omega) (by omega) (q := 79 + g) (by rw [show (g : Int).toNat = g from Int.toNat_natCast g, zsr78 hΓ (by omega)]; rfl) (fun _ => zvB hΓ (Or.inl (by omega))) ?_
        refine z_il2 dX6_land_48 ?_
        refine z_iald dX6_land_49 (zks79 hΓ (by omega)) (by omega) (by omega) ?_
        try simp only [zup_ap, zup_row, ne_eq, not_false_eq_true, zres, Int.toNat_natCast, reduceIte, Nat.reduceEqDiff, Nat.reduceAdd, and_self, and_true, true_and, and_false, false_and]
        try simp only [Int.toNat_natCast]
        rw [hF (79 + g) _ (zSS79 (by omega) _), (hI.prc g i (by omega) (by omega)).1]
        have hp8 := (hI.prc g i (by omega) (by omega)).2
        have hm8 := zmq (q := q) (p := h0 107 (6 * g + i)) (by omega) hp8.1 hp8.2
        refine z_imul dX6_land_50 (by omega) ?_
        refine z_iadd dX6_land_51 (by omega) ?_
        refine z_goto (t := 57) dX6_land_52 (by rfl) ?_
        refine z_is9 dX6_land_57 (Nat.le_of_ble_eq_true rfl) rfl ?_
        refine z_il1 dX6_land_59 ?_
        refine z_al0 dX6_land_60 (by first | decide | omega | assumption) ?_
        refine z_getI zfX6_105 dX6_land_61 (zkB hΓ rfl) rfl ?_
        rw [hS.2.2.2.2.2.1]
        try simp only [zup_ap, zup_row, ne_eq, not_false_eq_true, zres, Int.toNat_natCast, reduceIte, Nat.reduceEqDiff, Nat.reduceAdd, and_self, and_true, true_and, and_false, false_and]
        refine z_icmp_lt (t := 76) dX6_land_64 (by rfl) (fun ht64 => ?_) (fun hf64 => ?_)
        · refine z_il6 dX6_land_76 ?_
          refine z_if_le (t := 107) dX6_land_78 (by rfl) (fun ht78 => ?_) (fun hf78 => ?_)
          · first
            | (exfalso; omega)
            | (refine z_al0 dX6_land_107 (by first | decide | omega | assumption) ?_
               refine z_il1 dX6_land_108 ?_
               refine z_il2 dX6_land_109 ?_
               refine z_il3 dX6_land_110 ?_
               refine z_il9 dX6_land_111 ?_
               refine z_il7 dX6_land_113 ?_
               refine zcv5 dX6_land_115 zkX6_150 ziX6_trade zsX6_trade (zkB hΓ rfl) (by decide) rfl (Nat.le_of_ble_eq_true rfl) (by decide) (by first | decide | omega) ⟨Nat.le_refl _, Nat.le_refl _⟩ (X6_trade_ct (on := on) (g := g) (R := R) (B := B) hI hL hh hl hl9 hn (fun a1 a2 a3 a4 a5 a6 a7 a8 => X6_land_ct hI hL hh hl hl9 n (by omega) a1 a2 a3 a4 a5 a6 a7 a8) hi ho (by omega) hkn hmay hS hRt (fun h9 hS9 hR9 h85 _ => ?_))
               try simp only [zup_ap, zup_row, ne_eq, not_false_eq_true, zres, Int.toNat_natCast, reduceIte, Nat.reduceEqDiff, Nat.reduceAdd, and_self, and_true, true_and, and_false, false_and]
               refine z_ret dX6_land_118 rfl (Nat.le_refl _) (Nat.le_refl _) (zext_rf _) ?_
               first
               | (have es := zSl_n (h := h0) (i := i) (d := zdO h0 on) (m := m) (g := g) (q := q) (fun x => by rw [ha9] at x; exact absurd x.2 (by decide))
                  refine hQ h9 ?_ hR9 (by rw [h85, zup_row (by decide), zup_row (by decide)])
                  show zGt h0 h9 L hold lm (zL2 h0 hold (zLg h0 hold L n) (L - (n + 1)) i (zdO h0 on) (zSl h0 i (zdO h0 on) m g q).1 g (zSl h0 i (zdO h0 on) m g q).2 R B)
                  rw [es]
                  show zGt h0 h9 L hold lm (if _ then _ else _)
                  rw [if_pos (by omega)]
                  exact hS9)
               | (have es := zSl_y (h := h0) (i := i) (d := zdO h0 on) (m := m) (g := g) (q := q) (by omega) ha9
                  refine hQ h9 ?_ hR9 h85
                  show zGt h0 h9 L hold lm (zL2 h0 hold (zLg h0 hold L n) (L - (n + 1)) i (zdO h0 on) (zSl h0 i (zdO h0 on) m g q).1 g (zSl h0 i (zdO h0 on) m g q).2 R B)
                  rw [es]
                  exact hS9)
               | (have es := zSl_n (h := h0) (i := i) (d := zdO h0 on) (m := m) (g := g) (q := q) (fun x => (by have := x.1; omega))
                  refine hQ h9 ?_ hR9 h85
                  show zGt h0 h9 L hold lm (zL2 h0 hold (zLg h0 hold L n) (L - (n + 1)) i (zdO h0 on) (zSl h0 i (zdO h0 on) m g q).1 g (zSl h0 i (zdO h0 on) m g q).2 R B)
                  rw [es, show q = 0 by omega]
                  exact hS9))
          · first
            | (exfalso; omega)
            | (refine z_il8 dX6_land_81 ?_
               refine z_if_ne (t := 107) dX6_land_83 (by rfl) (fun _ => ?_) (fun hx => absurd hx (by decide))
               refine z_al0 dX6_land_107 (by first | decide | omega | assumption) ?_
               refine z_il1 dX6_land_108 ?_
               refine z_il2 dX6_land_109 ?_
               refine z_il3 dX6_land_110 ?_
               refine z_il9 dX6_land_111 ?_
               refine z_il7 dX6_land_113 ?_
               refine zcv5 dX6_land_115 zkX6_150 ziX6_trade zsX6_trade (zkB hΓ rfl) (by decide) rfl (Nat.le_of_ble_eq_true rfl) (by decide) (by first | decide | omega) ⟨Nat.le_refl _, Nat.le_refl _⟩ (X6_trade_ct (on := on) (g := g) (R := R) (B := B) hI hL hh hl hl9 hn (fun a1 a2 a3 a4 a5 a6 a7 a8 => X6_land_ct hI hL hh hl hl9 n (by omega) a1 a2 a3 a4 a5 a6 a7 a8) hi ho (by omega) hkn hmay hS hRt (fun h9 hS9 hR9 h85 _ => ?_))
               try simp only [zup_ap, zup_row, ne_eq, not_false_eq_true, zres, Int.toNat_natCast, reduceIte, Nat.reduceEqDiff, Nat.reduceAdd, and_self, and_true, true_and, and_false, false_and]
               refine z_ret dX6_land_118 rfl (Nat.le_refl _) (Nat.le_refl _) (zext_rf _) ?_
               first
               | (have es := zSl_n (h := h0) (i := i) (d := zdO h0 on) (m := m) (g := g) (q := q) (fun x => by rw [ha9] at x; exact absurd x.2 (by decide))
                  refine hQ h9 ?_ hR9 (by rw [h85, zup_row (by decide), zup_row (by decide)])
                  show zGt h0 h9 L hold lm (zL2 h0 hold (zLg h0 hold L n) (L - (n + 1)) i (zdO h0 on) (zSl h0 i (zdO h0 on) m g q).1 g (zSl h0 i (zdO h0 on) m g q).2 R B)
                  rw [es]
                  show zGt h0 h9 L hold lm (if _ then _ else _)
                  rw [if_pos (by omega)]
                  exact hS9)
               | (have es := zSl_y (h := h0) (i := i) (d := zdO h0 on) (m := m) (g := g) (q := q) (by omega) ha9
                  refine hQ h9 ?_ hR9 h85
                  show zGt h0 h9 L hold lm (zL2 h0 hold (zLg h0 hold L n) (L - (n + 1)) i (zdO h0 on) (zSl h0 i (zdO h0 on) m g q).1 g (zSl h0 i (zdO h0 on) m g q).2 R B)
                  rw [es]
                  exact hS9)
               | (have es := zSl_n (h := h0) (i := i) (d := zdO h0 on) (m := m) (g := g) (q := q) (fun x => (by have := x.1; omega))
                  refine hQ h9 ?_ hR9 h85
                  show zGt h0 h9 L hold lm (zL2 h0 hold (zLg h0 hold L n) (L - (n + 1)) i (zdO h0 on) (zSl h0 i (zdO h0 on) m g q).1 g (zSl h0 i (zdO h0 on) m g q).2 R B)
                  rw [es, show q = 0 by omega]
                  exact hS9))
        · exfalso; omega
set_option maxRecDepth 4000 in
theorem X6_wS_i {l : Launch} {Γ : zC} {h0 h : zM} {Q : Option zV → zC → zM → Prop} {g : Nat} {wd : Int} (hI : zIv Γ h0) (hF : zfr zSS h0 h) (hg : (g : Int) < h0 89 39) (hK : ∀ y a c : Int, (1 ≤ a ∧ a ≤ 99) → (0 ≤ c ∧ c ≤ 99) → (∀ j : Nat, (j : Int) < h0 89 22 → a ≤ h0 107 (6 * g + j) ∧ h0 107 (6 * g + j) ≤ c) → zG (zFn l mX6_widestSpread 1 0 0 Γ Q) 0 0 Γ h 72 [some (zR 77), some (zI wd), some (zI (g : Int)), some (zI a), some (zI c), some (zI y)] []) : ∀ (m : Nat) (i : Nat) (a c : Int), 6 - i < m → (i : Int) ≤ h0 89 22 → (1 ≤ a ∧ a ≤ 99) → (0 ≤ c ∧ c ≤ 99) → (∀ j : Nat, j < i → a ≤ h0 107 (6 * g + j) ∧ h0 107 (6 * g + j) ≤ c) → zG (zFn l mX6_widestSpread 1 0 0 Γ Q) 0 0 Γ h 21 [some (zR 77), some (zI wd), some (zI (g : Int)), some (zI a), some (zI c), some (zI (i : Int))] [] := by
  have hΓ := hI.base
  have hx2 := hI.isl
  have hx7 := hI.gds
  intro m
  induction m with
  | zero => intros; omega
  | succ m ih =>
    intro i a c hm hi ha hc hb
    refine z_il5 dX6_widestSpread_21 ?_
    refine z_al0 dX6_widestSpread_23 (by first | decide | omega | assumption) ?_
    refine z_getR zfX6_9 dX6_widestSpread_24 (zkB hΓ rfl) rfl (zsB hΓ rfl) (zvB hΓ (by decide)) ?_
    refine z_getR zfX6_122 dX6_widestSpread_27 (zkB hΓ rfl) rfl (zsB hΓ rfl) (zvB hΓ (by decide)) ?_
    refine z_getI zfX6_131 dX6_widestSpread_30 (zkB hΓ rfl) rfl ?_
    rw [hF 16 0 rfl, hI.cisl]
    try simp only [zup_ap, zup_row, ne_eq, not_false_eq_true, zres, Int.toNat_natCast, reduceIte, Nat.reduceEqDiff, Nat.reduceAdd, and_self, and_true, true_and, and_false, false_and]
    refine z_icmp_ge (t := 72) dX6_widestSpread_33 (by rfl) (fun ht33 => ?_) (fun hf33 => ?_)
    · exact hK _ _ _ ha hc (fun j hj => hb j (by omega))
    · refine z_il3 dX6_widestSpread_36 ?_
      refine z_al0 dX6_widestSpread_37 (by first | decide | omega | assumption) ?_
      refine z_getR zfX6_21 dX6_widestSpread_38 (zkB hΓ rfl) rfl (zsB hΓ rfl) (zvB hΓ (by decide)) ?_
      refine z_il2 dX6_widestSpread_41 ?_
      refine z_aald dX6_widestSpread_42 (zkB hΓ rfl) (Or.inl rfl) (by omega) (by omega) (q := 79 + g) (by rw [show (g : Int).toNat = g from Int.toNat_natCast g, zsr78 hΓ (by omega)]; rfl) (fun _ => zvB hΓ (Or.inl (by omega))) ?_
      refine z_il5 dX6_widestSpread_43 ?_
      refine z_iald dX6_widestSpread_45 (zks79 hΓ (by omega)) (by omega) (by omega) ?_
      try simp only [zup_ap, zup_row, ne_eq, not_false_eq_true, zres, Int.toNat_natCast, reduceIte, Nat.reduceEqDiff, Nat.reduceAdd, and_self, and_true, true_and, and_false, false_and]
      try simp only [Int.toNat_natCast]
      rw [hF (79 + g) _ (zSS79 (by omega) _), (hI.prc g i (by omega) (by omega)).1]
      have hp8 := (hI.prc g i (by omega) (by omega)).2
      refine z_mmin dX6_widestSpread_46 zkX6_89 ztJ9_min_7cf53 (Nat.le_of_ble_eq_true rfl) (by first | decide | omega) ⟨Nat.le_refl _, Nat.le_refl _⟩ ?_
      refine z_is3 dX6_widestSpread_49 (Nat.le_of_ble_eq_true rfl) rfl ?_
      refine z_il4 dX6_widestSpread_50 ?_
      refine z_al0 dX6_widestSpread_52 (by first | decide | omega | assumption) ?_
      refine z_getR zfX6_21 dX6_widestSpread_53 (zkB hΓ rfl) rfl (zsB hΓ rfl) (zvB hΓ (by decide)) ?_
      refine z_il2 dX6_widestSpread_56 ?_
      refine z_aald dX6_widestSpread_57 (zkB hΓ rfl) (Or.inl rfl) (by omega) (by omega) (q := 79 + g) (by rw [show (g : Int).toNat = g from Int.toNat_natCast g, zsr78 hΓ (by omega)]; rfl) (fun _ => zvB hΓ (Or.inl (by omega))) ?_
      refine z_il5 dX6_widestSpread_58 ?_
      refine z_iald dX6_widestSpread_60 (zks79 hΓ (by omega)) (by omega) (by omega) ?_
      try simp only [zup_ap, zup_row, ne_eq, not_false_eq_true, zres, Int.toNat_natCast, reduceIte, Nat.reduceEqDiff, Nat.reduceAdd, and_self, and_true, true_and, and_false, false_and]
      try simp only [Int.toNat_natCast]
      rw [hF (79 + g) _ (zSS79 (by omega) _), (hI.prc g i (by omega) (by omega)).1]
      have hp8 := (hI.prc g i (by omega) (by omega)).2
      refine z_mmax dX6_widestSpread_61 zkX6_154 ztJ9_max_7cf53 (Nat.le_of_ble_eq_true rfl) (by first | decide | omega) ⟨Nat.le_refl _, Nat.le_refl _⟩ ?_
      refine z_is4 dX6_widestSpread_64 (Nat.le_of_ble_eq_true rfl) rfl ?_
      refine z_ii5 dX6_widestSpread_66 (by omega) (Nat.le_of_ble_eq_true rfl) rfl ?_
      refine z_goto (t := 21) dX6_widestSpread_69 (by rfl) ?_
      refine ih (i + 1) _ _ (by omega) (by omega) (by constructor <;> split <;> omega) (by constructor <;> split <;> omega) (fun j hj => ?_)
      by_cases ej : j = i
      · subst ej; constructor <;> split <;> omega
      · have := hb j (by omega); constructor <;> split <;> omega
set_option maxRecDepth 4000 in
theorem X6_wS_g {l : Launch} {Γ : zC} {h0 h : zM} {Q : Option zV → zC → zM → Prop} (hI : zIv Γ h0) (hF : zfr zSS h0 h) (hQ : ∀ wd : Int, (0 ≤ wd ∧ wd ≤ 99) → (∀ g9 i j : Nat, (g9 : Int) < h0 89 39 → (i : Int) < h0 89 22 → (j : Int) < h0 89 22 → h0 107 (6 * g9 + j) - h0 107 (6 * g9 + i) ≤ wd) → Q (some (zI wd)) Γ h) : ∀ (m : Nat) (g : Nat) (wd : Int) (x y z : Option zV), 3 - g < m → (g : Int) ≤ h0 89 39 → (0 ≤ wd ∧ wd ≤ 99) → (∀ g9 : Nat, g9 < g → ∀ i j : Nat, (i : Int) < h0 89 22 → (j : Int) < h0 89 22 → h0 107 (6 * g9 + j) - h0 107 (6 * g9 + i) ≤ wd) → zG (zFn l mX6_widestSpread 1 0 0 Γ Q) 0 0 Γ h 4 [some (zR 77), some (zI wd), some (zI (g : Int)), x, y, z] [] := by
  have hΓ := hI.base
  have hx2 := hI.isl
  have hx7 := hI.gds
  intro m
  induction m with
  | zero => intros; omega
  | succ m ih =>
    intro g wd x y z hm hg hw hb0
    refine z_il2 dX6_widestSpread_4 ?_
    refine z_al0 dX6_widestSpread_5 (by first | decide | omega | assumption) ?_
    refine z_getI zfX6_37 dX6_widestSpread_6 (zkB hΓ rfl) rfl ?_
    rw [hF 77 2 rfl, hI.gds.1]
    try simp only [zup_ap, zup_row, ne_eq, not_false_eq_true, zres, Int.toNat_natCast, reduceIte, Nat.reduceEqDiff, Nat.reduceAdd, and_self, and_true, true_and, and_false, false_and]
    refine z_icmp_ge (t := 87) dX6_widestSpread_9 (by rfl) (fun ht9 => ?_) (fun hf9 => ?_)
    · refine z_il1 dX6_widestSpread_87 ?_
      refine z_iret dX6_widestSpread_88 rfl (Nat.le_refl _) (Nat.le_refl _) (zext_rf _) (fun hrr => ?_)
      exact hQ _ hw (fun g9 i j hg9 hi hj => hb0 g9 (by omega) i j hi hj)
    · refine z_bipush (x := 99) dX6_widestSpread_12 (by rfl) (by decide) ?_
      refine z_is3 dX6_widestSpread_14 (Nat.le_of_ble_eq_true rfl) rfl ?_
      refine z_iconst dX6_widestSpread_15 (by decide) ?_
      refine z_is4 dX6_widestSpread_16 (Nat.le_of_ble_eq_true rfl) rfl ?_
      refine z_iconst dX6_widestSpread_18 (by decide) ?_
      refine z_is5 dX6_widestSpread_19 (Nat.le_of_ble_eq_true rfl) rfl ?_
      refine X6_wS_i hI hF (by omega) (fun y a c ha hc hb => ?_) _ 0 _ _ (Nat.lt_succ_self _) (by omega) (by decide) (by decide) (fun j hj => absurd hj (by omega))
      refine z_il1 dX6_widestSpread_72 ?_
      refine z_il4 dX6_widestSpread_73 ?_
      refine z_il3 dX6_widestSpread_75 ?_
      refine z_isub dX6_widestSpread_76 (by omega) ?_
      refine z_mmax dX6_widestSpread_77 zkX6_154 ztJ9_max_7cf53 (Nat.le_of_ble_eq_true rfl) (by first | decide | omega) ⟨Nat.le_refl _, Nat.le_refl _⟩ ?_
      refine z_is1 dX6_widestSpread_80 (Nat.le_of_ble_eq_true rfl) rfl ?_
      refine z_ii2 dX6_widestSpread_81 (by omega) (Nat.le_of_ble_eq_true rfl) rfl ?_
      refine z_goto (t := 4) dX6_widestSpread_84 (by rfl) ?_
      refine ih (g + 1) _ _ _ _ (by omega) (by omega) (by constructor <;> split <;> omega) (fun g9 hg9 i9 j9 hi9 hj9 => ?_)
      by_cases eg : g9 = g
      · subst eg
        have h1 := hb i9 hi9
        have h2 := hb j9 hj9
        split <;> omega
      · have := hb0 g9 (by omega) i9 j9 hi9 hj9
        split <;> omega
set_option maxRecDepth 4000 in
theorem X6_widestSpread_ct {l : Launch} {Γ : zC} {h0 h : zM} {Q : Option zV → zC → zM → Prop} (hI : zIv Γ h0) (hF : zfr zSS h0 h) (hQ : ∀ wd : Int, (0 ≤ wd ∧ wd ≤ 99) → (∀ g9 i j : Nat, (g9 : Int) < h0 89 39 → (i : Int) < h0 89 22 → (j : Int) < h0 89 22 → h0 107 (6 * g9 + j) - h0 107 (6 * g9 + i) ≤ wd) → Q (some (zI wd)) Γ h) : zCT l mX6_widestSpread 1 0 0 Γ [zR 77] h Q := by
  have hΓ := hI.base
  have hx2 := hI.isl
  have hx7 := hI.gds
  refine zCT_of (by decide) (Nat.le_of_ble_eq_true rfl) (ls := [some (zR 77), none, none, none, none, none]) rfl ?_
  refine z_iconst dX6_widestSpread_0 (by decide) ?_
  refine z_is1 dX6_widestSpread_1 (Nat.le_of_ble_eq_true rfl) rfl ?_
  refine z_iconst dX6_widestSpread_2 (by decide) ?_
  refine z_is2 dX6_widestSpread_3 (Nat.le_of_ble_eq_true rfl) rfl ?_
  exact X6_wS_g hI hF hQ _ 0 _ _ _ _ (Nat.lt_succ_self _) (by omega) (by decide) (fun j hj => absurd hj (by omega))
