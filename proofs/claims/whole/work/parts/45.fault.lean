/-! a text's FAULT -/
def zPv (t : Nat → Int) (n : Nat) : zRs := (zPX t n).getD (false, 0, [])
theorem zPv_e {t : Nat → Int} {n : Nat} (hn : n ≤ 160) : zPX t n = some (zPv t n) := by
  obtain ⟨r, hr⟩ := zPX_tot t n hn
  unfold zPv
  rw [hr]; rfl
theorem zRF_fr {h0 h : zM} {n p : Nat} (H : zRF h0 h n p) : zfr zSS h0 h := fun r j q => by
  obtain ⟨⟨h1, h2⟩, -⟩ := H
  by_cases e2 : r = 2
  · subst e2
    exact (h2 j (fun e => by subst e; cases q)).1
  · by_cases e3 : r = 13
    · subst e3
      exact (h2 j (fun e => by subst e; cases q)).2
    · by_cases e4 : r = 14
      · subst e4; cases q
      · rw [h1 r e2 e3 e4]
def zvFault (h : zM) (s : Int) : Int := if s = 0 then (if (zIs (h 3) (h 89 6).toNat).1 = true then -1 else ((zIs (h 3) (h 89 6).toNat).2.1 : Int)) else if s = 1 then (if (zPv (h 3) (h 89 6).toNat).1 = true then -1 else ((zPv (h 3) (h 89 6).toNat).2.1 : Int)) else -2
theorem zIv_tp {Γ : zC} {h : zM} (H : zIv Γ h) : h 2 1 = (((h 89 6).toNat : Nat) : Int) ∧ (h 89 6).toNat ≤ 160 ∧ (∀ j, j < (h 89 6).toNat → 0 ≤ h 3 j ∧ h 3 j ≤ 255) ∧ (∀ j, j < (h 89 6).toNat → h 3 j = h 90 j % 256) ∧ h 89 6 = (((h 89 6).toNat : Nat) : Int) := by
  have h1 := H.len
  have h2 := H.tln
  refine ⟨by omega, by omega, fun j hj => ?_, fun j hj => H.tap j (by omega), by omega⟩
  rw [H.tap j (by omega)]
  omega
theorem X2_read2 {l : Launch} {Γ : zC} {h0 h : zM} {Q : Option zV → zC → zM → Prop} {n : Nat} (hΓ : zBase Γ) (hn : h0 2 1 = (n : Int)) (hn2 : n ≤ 160) (hF : zfr zSS h0 h) (hQ0 : (zPv (h0 3) n).1 = false → ∀ h2, zfr zSS h0 h2 → h2 2 2 = (((zPv (h0 3) n).2.1 : Nat) : Int) → Q (some (zI 0)) Γ h2) (hQ1 : (zPv (h0 3) n).1 = true → ∀ h2, zfr zSS h0 h2 → h2 13 2 = (((zPv (h0 3) n).2.2.length : Nat) : Int) → (∀ i, i < (zPv (h0 3) n).2.2.length → h2 14 i = (zPv (h0 3) n).2.2.getD i 0) → Q (some (zI 1)) Γ h2) : zCT l mX2_read 834 0 0 Γ [zR 13] h Q := by
  have e3 : h 3 = h0 3 := funext fun j => hF 3 j rfl
  refine X2_read_ct (f := 830) (r := zPv (h0 3) n) hΓ hn2 ((hF 2 1 rfl).trans hn) (by rw [e3]; exact zPv_e hn2) ?_
  generalize zPv (h0 3) n = r at hQ0 hQ1
  obtain ⟨b, p, c⟩ := r
  cases b with
  | false => exact fun h2 H2 => hQ0 rfl h2 (zfr_tr hF (zRF_fr H2)) H2.2.2
  | true => exact fun h2 H2 => hQ1 rfl h2 (zfr_tr hF (zRF_fr H2.1)) H2.2.1 H2.2.2
theorem X0_read2 {l : Launch} {Γ : zC} {h0 h : zM} {Q : Option zV → zC → zM → Prop} {n : Nat} (hΓ : zBase Γ) (hn : h0 2 1 = (n : Int)) (hn2 : n ≤ 160) (ht : ∀ j, j < n → 0 ≤ h0 3 j ∧ h0 3 j ≤ 255) (hF : zfr zSS h0 h) (hQ0 : (zIs (h0 3) n).1 = false → ∀ h2, zfr zSS h0 h2 → h2 2 2 = (((zIs (h0 3) n).2.1 : Nat) : Int) → Q (some (zI 0)) Γ h2) (hQ1 : (zIs (h0 3) n).1 = true → ∀ h2, zDf h0 h2 (zIs (h0 3) n).2.1 (zIs (h0 3) n).2.2.1 (zIs (h0 3) n).2.2.2 → Q (some (zI 1)) Γ h2) : zCT l mX0_read 4 0 0 Γ [zR 4, zR 2] h Q := X0_read_ct hΓ hn hn2 ht hF (fun h2 H2 => by
  by_cases e : (zIs (h0 3) n).1 = true
  · rw [if_pos e]; exact hQ1 e h2 H2
  · rw [if_neg e]; exact hQ0 (Bool.eq_false_iff.2 e) h2 H2.1 H2.2.1)
set_option maxRecDepth 4000 in
theorem X8_fault_ct {l : Launch} {Γ : zC} {h0 h : zM} {Q : Option zV → zC → zM → Prop} {s : Int} (hI : zIv Γ h0) (hF : zfr zSS h0 h) (hQ : ∀ h9, zfr zSS h0 h9 → Q (some (zI (zvFault h0 s))) Γ h9) : zCT l mX8_fault 835 0 0 Γ [zR 1, zI s] h Q := by
  have hΓ := hI.base
  obtain ⟨hn, hn2, ht, htap, hn6⟩ := zIv_tp hI
  refine zCT_of (by decide) (Nat.le_of_ble_eq_true rfl) (ls := [some (zR 1), some (zI s)]) rfl ?_
  refine z_il1 dX8_fault_0 ?_
  refine z_if_ne (t := 30) dX8_fault_1 (by rfl) (fun ht1 => ?_) (fun hf1 => ?_)
  · refine z_il1 dX8_fault_30 ?_
    refine z_iconst dX8_fault_31 (by decide) ?_
    refine z_icmp_ne (t := 57) dX8_fault_32 (by rfl) (fun ht32 => ?_) (fun hf32 => ?_)
    · refine z_bipush (x := -2) dX8_fault_57 (by rfl) (by decide) ?_
      refine z_iret dX8_fault_59 rfl (Nat.le_refl _) (Nat.le_refl _) (zext_rf _) (fun hrr => ?_)
      first
      | (have hw9 := hQ _ hF
         unfold zvFault at hw9
         rw [if_neg (by omega), if_neg (by omega)] at hw9
         exact hw9)
      | (have hw9 := hQ _ hD.1
         unfold zvFault at hw9
         rw [if_pos (by omega), if_pos hb] at hw9
         exact hw9)
      | (have hw9 := hQ _ hF9
         unfold zvFault at hw9
         first
         | (rw [if_pos (by omega), if_neg (by rw [hb]; decide)] at hw9; exact hw9)
         | (rw [if_neg (by omega), if_pos (by omega), if_pos hb] at hw9; exact hw9)
         | (rw [if_neg (by omega), if_pos (by omega), if_neg (by rw [hb]; decide)] at hw9; exact hw9))
    · refine z_al0 dX8_fault_35 (by first | decide | omega | assumption) ?_
      refine z_getR zfX8_28 dX8_fault_36 (zkB hΓ rfl) rfl (zsB hΓ rfl) (zvB hΓ (by decide)) ?_
      refine zcv0 dX8_fault_39 zkX8_101 ziX2_read zsX2_read (zkB hΓ rfl) (by decide) rfl (Nat.le_of_ble_eq_true rfl) (by decide) (by first | decide | omega) ⟨Nat.le_refl _, Nat.le_refl _⟩ (X2_read2 hΓ hn hn2 hF (fun hb h hF9 hp9 _ => ?_) (fun hb h hF9 hs9 hc9 _ => ?_))
      · try simp only [zup_ap, zup_row, ne_eq, not_false_eq_true, zres, Int.toNat_natCast, reduceIte, Nat.reduceEqDiff, Nat.reduceAdd, and_self, and_true, true_and, and_false, false_and]
        refine z_if_eq (t := 49) dX8_fault_42 (by rfl) (fun _ => ?_) (fun hx => absurd hx (by decide))
        refine z_al0 dX8_fault_49 (by first | decide | omega | assumption) ?_
        refine z_getR zfX8_10 dX8_fault_50 (zkB hΓ rfl) rfl (zsB hΓ rfl) (zvB hΓ (by decide)) ?_
        refine z_getI zfX8_98 dX8_fault_53 (zkB hΓ rfl) rfl ?_
        rw [hp9]
        try simp only [zup_ap, zup_row, ne_eq, not_false_eq_true, zres, Int.toNat_natCast, reduceIte, Nat.reduceEqDiff, Nat.reduceAdd, and_self, and_true, true_and, and_false, false_and]
        refine z_iret dX8_fault_56 rfl (Nat.le_refl _) (Nat.le_refl _) (zext_rf _) (fun hrr => ?_)
        first
        | (have hw9 := hQ _ hF
           unfold zvFault at hw9
           rw [if_neg (by omega), if_neg (by omega)] at hw9
           exact hw9)
        | (have hw9 := hQ _ hD.1
           unfold zvFault at hw9
           rw [if_pos (by omega), if_pos hb] at hw9
           exact hw9)
        | (have hw9 := hQ _ hF9
           unfold zvFault at hw9
           first
           | (rw [if_pos (by omega), if_neg (by rw [hb]; decide)] at hw9; exact hw9)
           | (rw [if_neg (by omega), if_pos (by omega), if_pos hb] at hw9; exact hw9)
           | (rw [if_neg (by omega), if_pos (by omega), if_neg (by rw [hb]; decide)] at hw9; exact hw9))
      · try simp only [zup_ap, zup_row, ne_eq, not_false_eq_true, zres, Int.toNat_natCast, reduceIte, Nat.reduceEqDiff, Nat.reduceAdd, and_self, and_true, true_and, and_false, false_and]
        refine z_if_eq (t := 49) dX8_fault_42 (by rfl) (fun hx => absurd hx (by decide)) (fun _ => ?_)
        refine z_iconst dX8_fault_45 (by decide) ?_
        refine z_goto (t := 56) dX8_fault_46 (by rfl) ?_
        refine z_iret dX8_fault_56 rfl (Nat.le_refl _) (Nat.le_refl _) (zext_rf _) (fun hrr => ?_)
        first
        | (have hw9 := hQ _ hF
           unfold zvFault at hw9
           rw [if_neg (by omega), if_neg (by omega)] at hw9
           exact hw9)
        | (have hw9 := hQ _ hD.1
           unfold zvFault at hw9
           rw [if_pos (by omega), if_pos hb] at hw9
           exact hw9)
        | (have hw9 := hQ _ hF9
           unfold zvFault at hw9
           first
           | (rw [if_pos (by omega), if_neg (by rw [hb]; decide)] at hw9; exact hw9)
           | (rw [if_neg (by omega), if_pos (by omega), if_pos hb] at hw9; exact hw9)
           | (rw [if_neg (by omega), if_pos (by omega), if_neg (by rw [hb]; decide)] at hw9; exact hw9))
  · refine z_al0 dX8_fault_4 (by first | decide | omega | assumption) ?_
    refine z_getR zfX8_19 dX8_fault_5 (zkB hΓ rfl) rfl (zsB hΓ rfl) (zvB hΓ (by decide)) ?_
    refine z_al0 dX8_fault_8 (by first | decide | omega | assumption) ?_
    refine z_getR zfX8_10 dX8_fault_9 (zkB hΓ rfl) rfl (zsB hΓ rfl) (zvB hΓ (by decide)) ?_
    refine zcv1 dX8_fault_12 zkX8_94 ziX0_read zsX0_read (zkB hΓ rfl) (by decide) rfl (Nat.le_of_ble_eq_true rfl) (by decide) (by first | decide | omega) ⟨Nat.le_refl _, Nat.le_refl _⟩ (X0_read2 hΓ hn hn2 ht hF (fun hb h hF9 hp9 _ => ?_) (fun hb h hD _ => ?_))
    · try simp only [zup_ap, zup_row, ne_eq, not_false_eq_true, zres, Int.toNat_natCast, reduceIte, Nat.reduceEqDiff, Nat.reduceAdd, and_self, and_true, true_and, and_false, false_and]
      refine z_if_eq (t := 22) dX8_fault_15 (by rfl) (fun _ => ?_) (fun hx => absurd hx (by decide))
      refine z_al0 dX8_fault_22 (by first | decide | omega | assumption) ?_
      refine z_getR zfX8_10 dX8_fault_23 (zkB hΓ rfl) rfl (zsB hΓ rfl) (zvB hΓ (by decide)) ?_
      refine z_getI zfX8_98 dX8_fault_26 (zkB hΓ rfl) rfl ?_
      rw [hp9]
      try simp only [zup_ap, zup_row, ne_eq, not_false_eq_true, zres, Int.toNat_natCast, reduceIte, Nat.reduceEqDiff, Nat.reduceAdd, and_self, and_true, true_and, and_false, false_and]
      refine z_iret dX8_fault_29 rfl (Nat.le_refl _) (Nat.le_refl _) (zext_rf _) (fun hrr => ?_)
      first
      | (have hw9 := hQ _ hF
         unfold zvFault at hw9
         rw [if_neg (by omega), if_neg (by omega)] at hw9
         exact hw9)
      | (have hw9 := hQ _ hD.1
         unfold zvFault at hw9
         rw [if_pos (by omega), if_pos hb] at hw9
         exact hw9)
      | (have hw9 := hQ _ hF9
         unfold zvFault at hw9
         first
         | (rw [if_pos (by omega), if_neg (by rw [hb]; decide)] at hw9; exact hw9)
         | (rw [if_neg (by omega), if_pos (by omega), if_pos hb] at hw9; exact hw9)
         | (rw [if_neg (by omega), if_pos (by omega), if_neg (by rw [hb]; decide)] at hw9; exact hw9))
    · try simp only [zup_ap, zup_row, ne_eq, not_false_eq_true, zres, Int.toNat_natCast, reduceIte, Nat.reduceEqDiff, Nat.reduceAdd, and_self, and_true, true_and, and_false, false_and]
      refine z_if_eq (t := 22) dX8_fault_15 (by rfl) (fun hx => absurd hx (by decide)) (fun _ => ?_)
      refine z_iconst dX8_fault_18 (by decide) ?_
      refine z_goto (t := 29) dX8_fault_19 (by rfl) ?_
      refine z_iret dX8_fault_29 rfl (Nat.le_refl _) (Nat.le_refl _) (zext_rf _) (fun hrr => ?_)
      first
      | (have hw9 := hQ _ hF
         unfold zvFault at hw9
         rw [if_neg (by omega), if_neg (by omega)] at hw9
         exact hw9)
      | (have hw9 := hQ _ hD.1
         unfold zvFault at hw9
         rw [if_pos (by omega), if_pos hb] at hw9
         exact hw9)
      | (have hw9 := hQ _ hF9
         unfold zvFault at hw9
         first
         | (rw [if_pos (by omega), if_neg (by rw [hb]; decide)] at hw9; exact hw9)
         | (rw [if_neg (by omega), if_pos (by omega), if_pos hb] at hw9; exact hw9)
         | (rw [if_neg (by omega), if_pos (by omega), if_neg (by rw [hb]; decide)] at hw9; exact hw9))
theorem zMT_fr {h h' : zM} (H : zMT h h') : zfr zSS h h' := fun r j q => by
  by_cases e : r = 89
  · subst e
    exact H.2 j (zsMT_89 q)
  · rw [H.1 r e]
set_option maxRecDepth 4000 in
theorem X9_fault_c {l : Launch} {Γ : zC} {h : zM} {Q : Option zV → zC → zM → Prop} {n : Nat} {s : Int} (hΓ : zBase Γ) (hn : h 89 6 = (n : Int)) (hn2 : n ≤ 160) (ht : ∀ j, j < n → 0 ≤ h 3 j ∧ h 3 j ≤ 255) (htap : ∀ j, j < n → h 3 j = h 90 j % 256) (hA : s = 0 → (zIs (h 3) n).1 = true → ∀ h2 p2, zMr Γ h h2 n p2 (zIs (h 3) n).2.2.1 (zIs (h 3) n).2.2.2 → Q (some (zI (-1))) Γ h2) (hB : s = 0 → (zIs (h 3) n).1 = false → ∀ h2, zfr zSS h h2 → Q (some (zI (((zIs (h 3) n).2.1 : Nat) : Int))) Γ h2) (hC : s = 1 → (zPv (h 3) n).1 = true → ∀ h2, zfr zSS h h2 → Q (some (zI (-1))) Γ h2) (hD : s = 1 → (zPv (h 3) n).1 = false → ∀ h2, zfr zSS h h2 → Q (some (zI (((zPv (h 3) n).2.1 : Nat) : Int))) Γ h2) (hE : ¬ (s = 0 ∨ s = 1) → ∀ h2, zfr zSS h h2 → Q (some (zI (-2))) Γ h2) : zCT l mX9_fault 1675 0 0 Γ [zR 89, zI s] h Q := by
  refine zCT_of (by decide) (Nat.le_of_ble_eq_true rfl) (ls := [some (zR 89), some (zI s)]) rfl ?_
  refine z_al0 dX9_fault_0 (by first | decide | omega | assumption) ?_
  refine z_iconst dX9_fault_1 (by decide) ?_
  refine z_putI zfX9_128 dX9_fault_2 (zkB hΓ rfl) rfl rfl ?_
  refine z_il1 dX9_fault_5 ?_
  refine z_i2l dX9_fault_6 ?_
  refine z_lconst (x := 0) dX9_fault_7 (by rfl) (by decide) ?_
  refine z_lconst (x := 1) dX9_fault_8 (by rfl) (by decide) ?_
  refine zcs3 dX9_fault_9 zkX9_261 ztX9_isIn (Nat.le_of_ble_eq_true rfl) (by decide) (by first | decide | omega) ⟨Nat.le_refl _, Nat.le_refl _⟩ (X9_isIn_ct (fun hg9 _ => ?_) (fun hg9 _ => ?_))
  · try simp only [zup_ap, zup_row, ne_eq, not_false_eq_true, zres, Int.toNat_natCast, reduceIte, Nat.reduceEqDiff, Nat.reduceAdd, and_self, and_true, true_and, and_false, false_and]
    refine z_if_ne (t := 18) dX9_fault_12 (by rfl) (fun hx => absurd hx (by decide)) (fun _ => ?_)
    refine z_bipush (x := -2) dX9_fault_15 (by rfl) (by decide) ?_
    refine z_iret dX9_fault_17 rfl (Nat.le_refl _) (Nat.le_refl _) (zext_rf _) (fun hrr => ?_)
    exact hE (by omega) _ (zfr_up (zfr_rf _ h) rfl)
  · try simp only [zup_ap, zup_row, ne_eq, not_false_eq_true, zres, Int.toNat_natCast, reduceIte, Nat.reduceEqDiff, Nat.reduceAdd, and_self, and_true, true_and, and_false, false_and]
    refine z_if_ne (t := 18) dX9_fault_12 (by rfl) (fun _ => ?_) (fun hx => absurd hx (by decide))
    refine z_il1 dX9_fault_18 ?_
    refine z_if_ne (t := 29) dX9_fault_19 (by rfl) (fun ht19 => ?_) (fun hf19 => ?_)
    · refine z_al0 dX9_fault_29 (by first | decide | omega | assumption) ?_
      refine z_al0 dX9_fault_30 (by first | decide | omega | assumption) ?_
      refine z_getR zfX9_9 dX9_fault_31 (zkB hΓ rfl) rfl (zsB hΓ rfl) (zvB hΓ (by decide)) ?_
      refine z_iconst dX9_fault_34 (by decide) ?_
      refine z_al0 dX9_fault_35 (by first | decide | omega | assumption) ?_
      refine z_getI zfX9_141 dX9_fault_36 (zkB hΓ rfl) rfl ?_
      try rw [zup_ap, if_neg (fun x => absurd x.2 (by decide))]
      rw [hn]
      try simp only [zup_ap, zup_row, ne_eq, not_false_eq_true, zres, Int.toNat_natCast, reduceIte, Nat.reduceEqDiff, Nat.reduceAdd, and_self, and_true, true_and, and_false, false_and]
      refine zcv3 dX9_fault_39 zkX9_268 ziX9_goThrough zsX9_goThrough (zkB hΓ rfl) (by decide) rfl (Nat.le_of_ble_eq_true rfl) (by decide) (by first | decide | omega) ⟨Nat.le_refl _, Nat.le_refl _⟩ (zM_through (R := 90) (b := 0) (n := n) (f := 830) (D := 1674) (t := h 3) (r := zPv (h 3) n) hΓ hn2 (by omega) (by decide) (by decide) ⟨160, zkB hΓ rfl, by omega⟩ (fun j hj => by rw [zup_row (show (90 : Nat) ≠ 89 by decide), Nat.zero_add]; exact htap j hj) (zPv_e hn2) (Nat.le_refl _) ⟨fun p9 c9 e9 h2 hT9 hf9 _ => ?_, fun p9 c9 e9 h2 hT9 hf9 hv9 _ => ?_⟩)
      · have hF9 : zfr zSS h h2 := zfr_tr (zfr_up (zfr_rf _ h) rfl) (zMT_fr hT9)
        try simp only [zup_ap, zup_row, ne_eq, not_false_eq_true, zres, Int.toNat_natCast, reduceIte, Nat.reduceEqDiff, Nat.reduceAdd, and_self, and_true, true_and, and_false, false_and]
        
        refine z_al0 dX9_fault_42 (by first | decide | omega | assumption) ?_
        refine z_getI zfX9_160 dX9_fault_43 (zkB hΓ rfl) rfl ?_
        rw [hf9]
        try simp only [zup_ap, zup_row, ne_eq, not_false_eq_true, zres, Int.toNat_natCast, reduceIte, Nat.reduceEqDiff, Nat.reduceAdd, and_self, and_true, true_and, and_false, false_and]
        refine z_iret dX9_fault_46 rfl (Nat.le_refl _) (Nat.le_refl _) (zext_rf _) (fun hrr => ?_)
        first
        | exact hA (by omega) hb _ _ hM9
        | exact hB (by omega) hb _ hF9
        | (refine hC (by omega) ?_ _ hF9
           rw [e9])
        | (have e8 : (zPv (h 3) n).2.1 = p9 := by rw [e9]
           rw [← e8]
           exact hD (by omega) (by rw [e9]) _ hF9)
      · have hF9 : zfr zSS h h2 := zfr_tr (zfr_up (zfr_rf _ h) rfl) (zMT_fr hT9)
        try simp only [zup_ap, zup_row, ne_eq, not_false_eq_true, zres, Int.toNat_natCast, reduceIte, Nat.reduceEqDiff, Nat.reduceAdd, and_self, and_true, true_and, and_false, false_and]
        
        refine z_al0 dX9_fault_42 (by first | decide | omega | assumption) ?_
        refine z_getI zfX9_160 dX9_fault_43 (zkB hΓ rfl) rfl ?_
        rw [hf9]
        try simp only [zup_ap, zup_row, ne_eq, not_false_eq_true, zres, Int.toNat_natCast, reduceIte, Nat.reduceEqDiff, Nat.reduceAdd, and_self, and_true, true_and, and_false, false_and]
        refine z_iret dX9_fault_46 rfl (Nat.le_refl _) (Nat.le_refl _) (zext_rf _) (fun hrr => ?_)
        first
        | exact hA (by omega) hb _ _ hM9
        | exact hB (by omega) hb _ hF9
        | (refine hC (by omega) ?_ _ hF9
           rw [e9])
        | (have e8 : (zPv (h 3) n).2.1 = p9 := by rw [e9]
           rw [← e8]
           exact hD (by omega) (by rw [e9]) _ hF9)
    · refine z_al0 dX9_fault_22 (by first | decide | omega | assumption) ?_
      refine zcv0 dX9_fault_23 zkX9_265 ziX9_readIsles zsX9_readIsles (zkB hΓ rfl) (by decide) rfl (Nat.le_of_ble_eq_true rfl) (by decide) (by first | decide | omega) ⟨Nat.le_refl _, Nat.le_refl _⟩ (X9_readIsles_ct (h0 := h) hΓ (by first | exact hn | (rw [zup_ap, if_neg (fun x => absurd x.2 (by decide))]; exact hn)) hn2 ht htap (zfr_up (zfr_rf _ h) rfl) (fun hb h2 hF9 hf9 _ => ?_) (fun hb h2 p2 hM9 _ => ?_))
      · try simp only [zup_ap, zup_row, ne_eq, not_false_eq_true, zres, Int.toNat_natCast, reduceIte, Nat.reduceEqDiff, Nat.reduceAdd, and_self, and_true, true_and, and_false, false_and]
        
        refine z_goto (t := 42) dX9_fault_26 (by rfl) ?_
        refine z_al0 dX9_fault_42 (by first | decide | omega | assumption) ?_
        refine z_getI zfX9_160 dX9_fault_43 (zkB hΓ rfl) rfl ?_
        rw [hf9]
        try simp only [zup_ap, zup_row, ne_eq, not_false_eq_true, zres, Int.toNat_natCast, reduceIte, Nat.reduceEqDiff, Nat.reduceAdd, and_self, and_true, true_and, and_false, false_and]
        refine z_iret dX9_fault_46 rfl (Nat.le_refl _) (Nat.le_refl _) (zext_rf _) (fun hrr => ?_)
        first
        | exact hA (by omega) hb _ _ hM9
        | exact hB (by omega) hb _ hF9
        | (refine hC (by omega) ?_ _ hF9
           rw [e9])
        | (have e8 : (zPv (h 3) n).2.1 = p9 := by rw [e9]
           rw [← e8]
           exact hD (by omega) (by rw [e9]) _ hF9)
      · try simp only [zup_ap, zup_row, ne_eq, not_false_eq_true, zres, Int.toNat_natCast, reduceIte, Nat.reduceEqDiff, Nat.reduceAdd, and_self, and_true, true_and, and_false, false_and]
        
        refine z_goto (t := 42) dX9_fault_26 (by rfl) ?_
        refine z_al0 dX9_fault_42 (by first | decide | omega | assumption) ?_
        refine z_getI zfX9_160 dX9_fault_43 (zkB hΓ rfl) rfl ?_
        rw [hM9.1.2.2.2.1]
        try simp only [zup_ap, zup_row, ne_eq, not_false_eq_true, zres, Int.toNat_natCast, reduceIte, Nat.reduceEqDiff, Nat.reduceAdd, and_self, and_true, true_and, and_false, false_and]
        refine z_iret dX9_fault_46 rfl (Nat.le_refl _) (Nat.le_refl _) (zext_rf _) (fun hrr => ?_)
        first
        | exact hA (by omega) hb _ _ hM9
        | exact hB (by omega) hb _ hF9
        | (refine hC (by omega) ?_ _ hF9
           rw [e9])
        | (have e8 : (zPv (h 3) n).2.1 = p9 := by rw [e9]
           rw [← e8]
           exact hD (by omega) (by rw [e9]) _ hF9)
theorem X9_fault_ct {l : Launch} {Γ : zC} {h0 h : zM} {Q : Option zV → zC → zM → Prop} {s : Int} (hI : zIv Γ h0) (hF : zfr zSS h0 h) (hQ : ∀ h9, zfr zSS h0 h9 → Q (some (zI (zvFault h0 s))) Γ h9) : zCT l mX9_fault 1675 0 0 Γ [zR 89, zI s] h Q := by
  have hΓ := hI.base
  obtain ⟨hn, hn2, ht, htap, hn6⟩ := zIv_tp hI
  have e3 : h 3 = h0 3 := funext fun j => hF 3 j rfl
  have e90 : h 90 = h0 90 := funext fun j => hF 90 j rfl
  refine X9_fault_c (n := (h0 89 6).toNat) hΓ ((hF 89 6 rfl).trans hn6) hn2 (by rw [e3]; exact ht) (by rw [e3, e90]; exact htap) ?_ ?_ ?_ ?_ (fun e h2 hM => by
    have hw := hQ h2 (zfr_tr hF hM)
    unfold zvFault at hw
    rw [if_neg (by omega), if_neg (by omega)] at hw
    exact hw) <;> rw [e3]
  · intro e b h2 p2 hM
    have hw := hQ h2 (zfr_tr hF hM.1.1)
    unfold zvFault at hw
    rw [if_pos e, if_pos b] at hw
    exact hw
  · intro e b h2 hM
    have hw := hQ h2 (zfr_tr hF hM)
    unfold zvFault at hw
    rw [if_pos e, if_neg (by rw [b]; decide)] at hw
    exact hw
  · intro e b h2 hM
    have hw := hQ h2 (zfr_tr hF hM)
    unfold zvFault at hw
    rw [if_neg (by omega), if_pos e, if_pos b] at hw
    exact hw
  · intro e b h2 hM
    have hw := hQ h2 (zfr_tr hF hM)
    unfold zvFault at hw
    rw [if_neg (by omega), if_pos e, if_neg (by rw [b]; decide)] at hw
    exact hw
