/-! GAIN: the class: what is looked at ahead -/
def zMk (h0 : zM) (f f' : Nat → Int) (P m : Nat) : Prop := (∀ p, p < 168 → f' p = -1 ∨ 0 ≤ f' p ∧ f' p ≤ 3) ∧ (∀ p, p ≤ P → f' p = f p) ∧ (∀ p, f p ≠ -1 → f' p ≠ -1 ∧ f' p ≤ f p) ∧ (∀ p, p < 168 → f' p ≠ -1 → f p ≠ -1 ∨ ((p % 6 : Nat) : Int) < h0 89 22) ∧ (∀ t, t < m → 0 < h0 96 (6 * (P % 6) + t) → zNx h0 P t < 168 → f' (zNx h0 P t) ≠ -1 ∧ f' (zNx h0 P t) ≤ f P + 1)
theorem zMk_0 {h0 : zM} {f : Nat → Int} {P : Nat} (h : ∀ p, p < 168 → f p = -1 ∨ 0 ≤ f p ∧ f p ≤ 3) : zMk h0 f f P 0 := ⟨h, fun _ _ => rfl, fun p a => ⟨a, Int.le_refl _⟩, fun p _ a => Or.inl a, fun t a => absurd a (by omega)⟩
theorem zMk_n {h0 : zM} {f f' : Nat → Int} {P t : Nat} (H : zMk h0 f f' P t) (c : ¬ (0 < h0 96 (6 * (P % 6) + t) ∧ zNx h0 P t < 168)) : zMk h0 f f' P (t + 1) := by
  obtain ⟨a1, a2, a3, a4, a5⟩ := H
  refine ⟨a1, a2, a3, a4, fun t' b1 b2 b3 => ?_⟩
  by_cases e : t' = t
  · subst e; exact absurd ⟨b2, b3⟩ c
  · exact a5 t' (by omega) b2 b3
theorem zNx_gt {h0 : zM} {P t : Nat} (a : 0 < h0 96 (6 * (P % 6) + t)) : P < zNx h0 P t := by unfold zNx; omega
theorem zMk_u {h0 : zM} {f f' f'' : Nat → Int} {P t : Nat} {v : Int} (H : zMk h0 f f' P t) (c1 : 0 < h0 96 (6 * (P % 6) + t)) (c2 : zNx h0 P t < 168) (c3 : (t : Int) < h0 89 22) (c4 : t < 6) (hP : 0 ≤ f P ∧ f P < 3) (hv : v = if f' (zNx h0 P t) = -1 then f P + 1 else if f P + 1 < f' (zNx h0 P t) then f P + 1 else f' (zNx h0 P t)) (hf : ∀ p, f'' p = if p = zNx h0 P t then v else f' p) : zMk h0 f f'' P (t + 1) := by
  obtain ⟨a1, a2, a3, a4, a5⟩ := H
  have hgt := zNx_gt c1
  have h6 : zNx h0 P t % 6 = t := by unfold zNx; omega
  generalize hN : zNx h0 P t = N at *
  have hvb : 0 ≤ v ∧ v ≤ 3 ∧ v ≤ f P + 1 ∧ (f' N ≠ -1 → v ≤ f' N) := by
    have := a1 N c2
    rw [hv]
    split
    · exact ⟨by omega, by omega, by omega, fun x => absurd (by assumption) x⟩
    · split <;> omega
  refine ⟨fun p hp => ?_, fun p hp => ?_, fun p hp => ?_, fun p hp hp2 => ?_, fun t' b1 b2 b3 => ?_⟩
  · rw [hf]; split
    · exact Or.inr ⟨hvb.1, hvb.2.1⟩
    · exact a1 p hp
  · rw [hf, if_neg (by omega)]; exact a2 p hp
  · rw [hf]; split
    · rename_i e; subst e
      have := a3 p hp
      have := hvb.2.2.2 this.1
      omega
    · exact a3 p hp
  · rw [hf] at hp2
    by_cases e : p = N
    · exact Or.inr (by rw [e, h6]; exact c3)
    · rw [if_neg e] at hp2; exact a4 p hp hp2
  · by_cases e : t' = t
    · subst e
      rw [hN, hf, if_pos rfl]
      exact ⟨by omega, hvb.2.2.1⟩
    · have e2 := a5 t' (by omega) b2 b3
      rw [hf]
      split
      · rename_i e3
        rw [e3] at e2
        have := hvb.2.2.2 e2.1
        exact ⟨by omega, by omega⟩
      · exact e2
set_option maxRecDepth 4000 in
theorem X6_mN_l {l : Launch} {Γ : zC} {h0 h1 : zM} {Q : Option zV → zC → zM → Prop} {P : Nat} (hI : zIv Γ h0) (hF1 : zfr zSS h0 h1) (hP : P < 168) (hP6 : ((P % 6 : Nat) : Int) < h0 89 22) (hP9 : 0 ≤ h1 85 P ∧ h1 85 P < 3) (hQ : ∀ h9, (∀ q, q ≠ 85 → h9 q = h1 q) → zMk h0 (h1 85) (h9 85) P (h0 89 22).toNat → Q none Γ h9) : ∀ (mm : Nat) (t : Nat) (y z : Option zV) (h : zM), (h0 89 22).toNat - t < mm → t ≤ (h0 89 22).toNat → (∀ q, q ≠ 85 → h q = h1 q) → zMk h0 (h1 85) (h 85) P t → zG (zFn l mX6_markNext 1 0 0 Γ Q) 0 0 Γ h 18 [some (zR 77), some (zI (P : Int)), some (zR (19 + P % 6)), some (zI (t : Int)), y, z] [] := by
  have hΓ := hI.base
  have hx2 := hI.isl
  have hx7 := hI.gds
  have hnw := hI.now
  intro mm
  induction mm with
  | zero => intros; omega
  | succ mm ih =>
    intro t y z h hm ht hE hM
    have hF := zfr_1 hF1 (fun _ => rfl) hE
    refine z_il3 dX6_markNext_18 ?_
    refine z_al0 dX6_markNext_19 (by first | decide | omega | assumption) ?_
    refine z_getR zfX6_9 dX6_markNext_20 (zkB hΓ rfl) rfl (zsB hΓ rfl) (zvB hΓ (by decide)) ?_
    refine z_getR zfX6_122 dX6_markNext_23 (zkB hΓ rfl) rfl (zsB hΓ rfl) (zvB hΓ (by decide)) ?_
    refine z_getI zfX6_131 dX6_markNext_26 (zkB hΓ rfl) rfl ?_
    rw [hF 16 0 rfl, hI.cisl]
    try simp only [zup_ap, zup_row, ne_eq, not_false_eq_true, zres, Int.toNat_natCast, reduceIte, Nat.reduceEqDiff, Nat.reduceAdd, and_self, and_true, true_and, and_false, false_and]
    refine z_icmp_ge (t := 115) dX6_markNext_29 (by rfl) (fun ht29 => ?_) (fun hf29 => ?_)
    · refine z_ret dX6_markNext_115 rfl (Nat.le_refl _) (Nat.le_refl _) (zext_rf _) ?_
      exact hQ h hE (by rw [show t = (h0 89 22).toNat by omega] at hM; exact hM)
    · refine z_il1 dX6_markNext_32 ?_
      refine z_bipush (x := 6) dX6_markNext_33 (by rfl) (by decide) ?_
      refine z_idivp dX6_markNext_35 (by omega) (by omega) ?_
      refine z_al2 dX6_markNext_36 (by first | decide | omega | assumption) ?_
      refine z_il3 dX6_markNext_37 ?_
      refine z_iald dX6_markNext_38 (zks19 hΓ (by omega)) (by omega) (by omega) ?_
      try simp only [zup_ap, zup_row, ne_eq, not_false_eq_true, zres, Int.toNat_natCast, reduceIte, Nat.reduceEqDiff, Nat.reduceAdd, and_self, and_true, true_and, and_false, false_and]
      try simp only [Int.toNat_natCast]
      rw [hF (19 + P % 6) _ (zSS19 (by omega) _), (hI.day (P % 6) t (by omega) (by omega)).1]
      have hdy := (hI.day (P % 6) t (by omega) (by omega)).2
      refine z_iadd dX6_markNext_39 (by omega) ?_
      refine z_bipush (x := 6) dX6_markNext_40 (by rfl) (by decide) ?_
      refine z_imul dX6_markNext_42 (by omega) ?_
      refine z_il3 dX6_markNext_43 ?_
      refine z_iadd dX6_markNext_44 (by omega) ?_
      rw [show ((P : Int) / 6 + h0 96 (6 * (P % 6) + t)) * 6 + (t : Int) = ((zNx h0 P t : Nat) : Int) by unfold zNx; omega]
      refine z_is4 dX6_markNext_45 (Nat.le_of_ble_eq_true rfl) rfl ?_
      refine z_al2 dX6_markNext_47 (by first | decide | omega | assumption) ?_
      refine z_il3 dX6_markNext_48 ?_
      refine z_iald dX6_markNext_49 (zks19 hΓ (by omega)) (by omega) (by omega) ?_
      try simp only [zup_ap, zup_row, ne_eq, not_false_eq_true, zres, Int.toNat_natCast, reduceIte, Nat.reduceEqDiff, Nat.reduceAdd, and_self, and_true, true_and, and_false, false_and]
      try simp only [Int.toNat_natCast]
      rw [hF (19 + P % 6) _ (zSS19 (by omega) _), (hI.day (P % 6) t (by omega) (by omega)).1]
      have hdy := (hI.day (P % 6) t (by omega) (by omega)).2
      refine z_if_le (t := 109) dX6_markNext_50 (by rfl) (fun ht50 => ?_) (fun hf50 => ?_)
      · refine z_ii3 dX6_markNext_109 (by omega) (Nat.le_of_ble_eq_true rfl) rfl ?_
        refine z_goto (t := 18) dX6_markNext_112 (by rfl) ?_
        first
        | (refine ih (t + 1) _ _ _ (by omega) (by omega) hE (zMk_n hM (by omega)))
        | (refine ih (t + 1) _ _ _ (by omega) (by omega) (fun q hq => (zup_row hq).trans (hE q hq)) (zMk_u (v := if h 85 (zNx h0 P t) = -1 then h1 85 P + 1 else if h1 85 P + 1 < h 85 (zNx h0 P t) then h1 85 P + 1 else h 85 (zNx h0 P t)) hM (by omega) (by omega) (by omega) (by omega) hP9 rfl (fun p => ?_))
           by_cases e : p = zNx h0 P t
           · subst e; rw [zup_ap, if_pos (show zNx h0 P t = zNx h0 P t from rfl)]
             refine (if_pos ⟨rfl, by omega⟩).trans ?_
             first | (rw [if_pos (show h 85 (zNx h0 P t) = -1 by omega)]; done) | rw [if_neg (show ¬ h 85 (zNx h0 P t) = -1 by omega)]
           · rw [if_neg e, zup_ap, if_neg (fun x => e (by have := x.2; omega))])
      · refine z_il4 dX6_markNext_53 ?_
        refine z_al0 dX6_markNext_55 (by first | decide | omega | assumption) ?_
        refine z_getR zfX6_34 dX6_markNext_56 (zkB hΓ rfl) rfl (zsB hΓ rfl) (zvB hΓ (by decide)) ?_
        refine z_alen dX6_markNext_59 (zkB hΓ rfl) (by decide) ?_
        refine z_icmp_ge (t := 109) dX6_markNext_60 (by rfl) (fun ht60 => ?_) (fun hf60 => ?_)
        · refine z_ii3 dX6_markNext_109 (by omega) (Nat.le_of_ble_eq_true rfl) rfl ?_
          refine z_goto (t := 18) dX6_markNext_112 (by rfl) ?_
          first
          | (refine ih (t + 1) _ _ _ (by omega) (by omega) hE (zMk_n hM (by omega)))
          | (refine ih (t + 1) _ _ _ (by omega) (by omega) (fun q hq => (zup_row hq).trans (hE q hq)) (zMk_u (v := if h 85 (zNx h0 P t) = -1 then h1 85 P + 1 else if h1 85 P + 1 < h 85 (zNx h0 P t) then h1 85 P + 1 else h 85 (zNx h0 P t)) hM (by omega) (by omega) (by omega) (by omega) hP9 rfl (fun p => ?_))
             by_cases e : p = zNx h0 P t
             · subst e; rw [zup_ap, if_pos (show zNx h0 P t = zNx h0 P t from rfl)]
               refine (if_pos ⟨rfl, by omega⟩).trans ?_
               first | (rw [if_pos (show h 85 (zNx h0 P t) = -1 by omega)]; done) | rw [if_neg (show ¬ h 85 (zNx h0 P t) = -1 by omega)]
             · rw [if_neg e, zup_ap, if_neg (fun x => e (by have := x.2; omega))])
        · refine z_al0 dX6_markNext_63 (by first | decide | omega | assumption) ?_
          refine z_getR zfX6_34 dX6_markNext_64 (zkB hΓ rfl) rfl (zsB hΓ rfl) (zvB hΓ (by decide)) ?_
          refine z_il4 dX6_markNext_67 ?_
          refine z_iald dX6_markNext_69 (zkB hΓ rfl) (by omega) (by omega) ?_
          try simp only [zup_ap, zup_row, ne_eq, not_false_eq_true, zres, Int.toNat_natCast, reduceIte, Nat.reduceEqDiff, Nat.reduceAdd, and_self, and_true, true_and, and_false, false_and]
          have hkn := hM.1 (zNx h0 P t) (by omega)
          refine z_is5 dX6_markNext_70 (Nat.le_of_ble_eq_true rfl) rfl ?_
          refine z_al0 dX6_markNext_72 (by first | decide | omega | assumption) ?_
          refine z_getR zfX6_34 dX6_markNext_73 (zkB hΓ rfl) rfl (zsB hΓ rfl) (zvB hΓ (by decide)) ?_
          refine z_il4 dX6_markNext_76 ?_
          refine z_il5 dX6_markNext_78 ?_
          refine z_iconst dX6_markNext_80 (by decide) ?_
          refine z_icmp_ne (t := 95) dX6_markNext_81 (by rfl) (fun ht81 => ?_) (fun hf81 => ?_)
          · refine z_il5 dX6_markNext_95 ?_
            refine z_al0 dX6_markNext_97 (by first | decide | omega | assumption) ?_
            refine z_getR zfX6_34 dX6_markNext_98 (zkB hΓ rfl) rfl (zsB hΓ rfl) (zvB hΓ (by decide)) ?_
            refine z_il1 dX6_markNext_101 ?_
            refine z_iald dX6_markNext_102 (zkB hΓ rfl) (by omega) (by omega) ?_
            try simp only [zup_ap, zup_row, ne_eq, not_false_eq_true, zres, Int.toNat_natCast, reduceIte, Nat.reduceEqDiff, Nat.reduceAdd, and_self, and_true, true_and, and_false, false_and]
            rw [hM.2.1 P (Nat.le_refl _)]
            refine z_iconst dX6_markNext_103 (by decide) ?_
            refine z_iadd dX6_markNext_104 (by omega) ?_
            refine z_mmin dX6_markNext_105 zkX6_89 ztJ9_min_7cf53 (Nat.le_of_ble_eq_true rfl) (by first | decide | omega) ⟨Nat.le_refl _, Nat.le_refl _⟩ ?_
            refine z_iast dX6_markNext_108 (zkB hΓ rfl) (by omega) (by omega) ?_
            refine z_ii3 dX6_markNext_109 (by omega) (Nat.le_of_ble_eq_true rfl) rfl ?_
            refine z_goto (t := 18) dX6_markNext_112 (by rfl) ?_
            first
            | (refine ih (t + 1) _ _ _ (by omega) (by omega) hE (zMk_n hM (by omega)))
            | (refine ih (t + 1) _ _ _ (by omega) (by omega) (fun q hq => (zup_row hq).trans (hE q hq)) (zMk_u (v := if h 85 (zNx h0 P t) = -1 then h1 85 P + 1 else if h1 85 P + 1 < h 85 (zNx h0 P t) then h1 85 P + 1 else h 85 (zNx h0 P t)) hM (by omega) (by omega) (by omega) (by omega) hP9 rfl (fun p => ?_))
               by_cases e : p = zNx h0 P t
               · subst e; rw [zup_ap, if_pos (show zNx h0 P t = zNx h0 P t from rfl)]
                 refine (if_pos ⟨rfl, by omega⟩).trans ?_
                 first | (rw [if_pos (show h 85 (zNx h0 P t) = -1 by omega)]; done) | rw [if_neg (show ¬ h 85 (zNx h0 P t) = -1 by omega)]
               · rw [if_neg e, zup_ap, if_neg (fun x => e (by have := x.2; omega))])
          · refine z_al0 dX6_markNext_84 (by first | decide | omega | assumption) ?_
            refine z_getR zfX6_34 dX6_markNext_85 (zkB hΓ rfl) rfl (zsB hΓ rfl) (zvB hΓ (by decide)) ?_
            refine z_il1 dX6_markNext_88 ?_
            refine z_iald dX6_markNext_89 (zkB hΓ rfl) (by omega) (by omega) ?_
            try simp only [zup_ap, zup_row, ne_eq, not_false_eq_true, zres, Int.toNat_natCast, reduceIte, Nat.reduceEqDiff, Nat.reduceAdd, and_self, and_true, true_and, and_false, false_and]
            rw [hM.2.1 P (Nat.le_refl _)]
            refine z_iconst dX6_markNext_90 (by decide) ?_
            refine z_iadd dX6_markNext_91 (by omega) ?_
            refine z_goto (t := 108) dX6_markNext_92 (by rfl) ?_
            refine z_iast dX6_markNext_108 (zkB hΓ rfl) (by omega) (by omega) ?_
            refine z_ii3 dX6_markNext_109 (by omega) (Nat.le_of_ble_eq_true rfl) rfl ?_
            refine z_goto (t := 18) dX6_markNext_112 (by rfl) ?_
            first
            | (refine ih (t + 1) _ _ _ (by omega) (by omega) hE (zMk_n hM (by omega)))
            | (refine ih (t + 1) _ _ _ (by omega) (by omega) (fun q hq => (zup_row hq).trans (hE q hq)) (zMk_u (v := if h 85 (zNx h0 P t) = -1 then h1 85 P + 1 else if h1 85 P + 1 < h 85 (zNx h0 P t) then h1 85 P + 1 else h 85 (zNx h0 P t)) hM (by omega) (by omega) (by omega) (by omega) hP9 rfl (fun p => ?_))
               by_cases e : p = zNx h0 P t
               · subst e; rw [zup_ap, if_pos (show zNx h0 P t = zNx h0 P t from rfl)]
                 refine (if_pos ⟨rfl, by omega⟩).trans ?_
                 first | (rw [if_pos (show h 85 (zNx h0 P t) = -1 by omega)]; done) | rw [if_neg (show ¬ h 85 (zNx h0 P t) = -1 by omega)]
               · rw [if_neg e, zup_ap, if_neg (fun x => e (by have := x.2; omega))])
set_option maxRecDepth 4000 in
theorem X6_markNext_ct {l : Launch} {Γ : zC} {h0 h1 : zM} {Q : Option zV → zC → zM → Prop} {P : Nat} (hI : zIv Γ h0) (hF1 : zfr zSS h0 h1) (hP : P < 168) (hP6 : ((P % 6 : Nat) : Int) < h0 89 22) (hP9 : 0 ≤ h1 85 P ∧ h1 85 P < 3) (hr : ∀ p, p < 168 → h1 85 p = -1 ∨ 0 ≤ h1 85 p ∧ h1 85 p ≤ 3) (hQ : ∀ h9, (∀ q, q ≠ 85 → h9 q = h1 q) → zMk h0 (h1 85) (h9 85) P (h0 89 22).toNat → Q none Γ h9) : zCT l mX6_markNext 1 0 0 Γ [zR 77, zI (P : Int)] h1 Q := by
  have hΓ := hI.base
  have hx2 := hI.isl
  have hx7 := hI.gds
  have hnw := hI.now
  have hF := hF1
  refine zCT_of (by decide) (Nat.le_of_ble_eq_true rfl) (ls := [some (zR 77), some (zI (P : Int)), none, none, none, none]) rfl ?_
  refine z_al0 dX6_markNext_0 (by first | decide | omega | assumption) ?_
  refine z_getR zfX6_9 dX6_markNext_1 (zkB hΓ rfl) rfl (zsB hΓ rfl) (zvB hΓ (by decide)) ?_
  refine z_getR zfX6_122 dX6_markNext_4 (zkB hΓ rfl) rfl (zsB hΓ rfl) (zvB hΓ (by decide)) ?_
  refine z_getR zfX6_126 dX6_markNext_7 (zkB hΓ rfl) rfl (zsB hΓ rfl) (zvB hΓ (by decide)) ?_
  refine z_il1 dX6_markNext_10 ?_
  refine z_bipush (x := 6) dX6_markNext_11 (by rfl) (by decide) ?_
  refine z_iremp dX6_markNext_13 (by omega) (by omega) ?_
  refine z_aald dX6_markNext_14 (zkB hΓ rfl) (Or.inl rfl) (by omega) (by omega) (q := 19 + P % 6) (by rw [show ((P : Int) % 6).toNat = P % 6 by omega, zsr18 hΓ (by omega)]; rfl) (fun _ => zvB hΓ (Or.inl (by omega))) ?_
  refine z_as2 dX6_markNext_15 (Nat.le_of_ble_eq_true rfl) rfl (by first | decide | omega | assumption) ?_
  refine z_iconst dX6_markNext_16 (by decide) ?_
  refine z_is3 dX6_markNext_17 (Nat.le_of_ble_eq_true rfl) rfl ?_
  exact X6_mN_l hI hF1 hP hP6 hP9 hQ _ 0 _ _ _ (Nat.lt_succ_self _) (by omega) (fun _ _ => rfl) (zMk_0 hr)
theorem zKn_r {h0 h : zM} {L P : Nat} (H : zKn h0 h L P) (p : Nat) (hp : p < 168) : h 85 p = -1 ∨ 0 ≤ h 85 p ∧ h 85 p ≤ 3 := by
  by_cases e : h 85 p = -1
  · exact Or.inl e
  · have := (H p hp e).1; exact Or.inr ⟨this.1, this.2.1⟩
theorem zKn_skip {h0 h : zM} {L P : Nat} (H : zKn h0 h L P) (c : h 85 P = -1) : zKn h0 h L (P + 1) := fun p hp e => ⟨(H p hp e).1, fun x => (H p hp e).2 (by
  by_cases e2 : p = P
  · subst e2; exact absurd c e
  · omega)⟩
theorem zKn_last {h0 h h' : zM} {L P : Nat} {x : Int} (H : zKn h0 h L P) (c : ¬ h 85 P < (L : Int)) (hx : zDb x (zdF2 h0 (P % 6) (zdO h0 (P / 6) : Nat) (6 * (h0 89 39).toNat))) (e84 : ∀ p, h' 84 p = if p = P then x else h 84 p) (e85 : h' 85 = h 85) : zKn h0 h' L (P + 1) := fun p hp e => by
  rw [e85] at e ⊢
  have h1 := H p hp e
  refine ⟨h1.1, fun a => ?_⟩
  by_cases e2 : p = P
  · subst e2
    rw [e84, if_pos rfl]
    exact ⟨hx, fun b => absurd b c⟩
  · rw [e84, if_neg e2]
    exact h1.2 (by omega)
theorem zKn_mark {h0 h h' : zM} {L P : Nat} {x : Int} (H : zKn h0 h L P) (hisl : h0 89 22 ≤ 6) (hx : zDb x (zdF2 h0 (P % 6) (zdO h0 (P / 6) : Nat) (6 * (h0 89 39).toNat))) (e84 : ∀ p, h' 84 p = if p = P then x else h 84 p) (hM : zMk h0 (h 85) (h' 85) P (h0 89 22).toNat) : zKn h0 h' L (P + 1) := fun p hp e => by
  obtain ⟨a1, a2, a3, a4, a5⟩ := hM
  have hr := a1 p hp
  have h6 : ((p % 6 : Nat) : Int) < h0 89 22 := by
    rcases a4 p hp e with e3 | e3
    · exact (H p hp e3).1.2.2
    · exact e3
  refine ⟨⟨by omega, by omega, h6⟩, fun a => ?_⟩
  have ep := a2 p (by omega)
  rw [ep] at e ⊢
  by_cases e2 : p = P
  · subst e2
    rw [e84, if_pos rfl]
    exact ⟨hx, fun b t c1 c2 c3 => a5 t (by omega) c2 c3⟩
  · rw [e84, if_neg e2]
    have h1 := (H p hp e).2 (by omega)
    refine ⟨h1.1, fun b t c1 c2 c3 => ?_⟩
    have h2 := h1.2 b t c1 c2 c3
    have h3 := a3 _ h2.1
    exact ⟨h3.1, by omega⟩
set_option maxRecDepth 4000 in
theorem X6_lD_p {l : Launch} {Γ : zC} {h0 : zM} {Q : Option zV → zC → zM → Prop} {i L hd : Nat} (hI : zIv Γ h0) (hO : h0 89 30 = -1) (hi : (i : Int) < h0 89 22) (hL : L ≤ 3) (hhd : h0 89 32 = (hd : Int)) (hQ : ∀ h9, zfr zSS h0 h9 → zKn h0 h9 L 168 → h9 85 i = 0 → Q none Γ h9) : ∀ (mm : Nat) (P : Nat) (y : Option zV) (h : zM), 168 - P < mm → P ≤ 168 → zfr zSS h0 h → zKn h0 h L P → h 85 i = 0 → zG (zFn l mX6_learnDeals 5 0 0 Γ Q) 0 0 Γ h 18 [some (zR 77), some (zI (i : Int)), some (zI (L : Int)), some (zI (hd : Int)), some (zI (P : Int)), y] [] := by
  have hΓ := hI.base
  have hx2 := hI.isl
  have hx7 := hI.gds
  have hnw := hI.now
  intro mm
  induction mm with
  | zero => intros; omega
  | succ mm ih =>
    intro P y h hm hPP hF hK h85i
    refine z_il4 dX6_learnDeals_18 ?_
    refine z_al0 dX6_learnDeals_20 (by first | decide | omega | assumption) ?_
    refine z_getR zfX6_31 dX6_learnDeals_21 (zkB hΓ rfl) rfl (zsB hΓ rfl) (zvB hΓ (by decide)) ?_
    refine z_alen dX6_learnDeals_24 (zkB hΓ rfl) (by decide) ?_
    refine z_icmp_ge (t := 115) dX6_learnDeals_25 (by rfl) (fun ht25 => ?_) (fun hf25 => ?_)
    · refine z_ret dX6_learnDeals_115 rfl (Nat.le_refl _) (Nat.le_refl _) (zext_rf _) ?_
      have eP : P = 168 := by omega
      subst eP
      exact hQ h hF hK (h85i)
    · refine z_al0 dX6_learnDeals_28 (by first | decide | omega | assumption) ?_
      refine z_getR zfX6_34 dX6_learnDeals_29 (zkB hΓ rfl) rfl (zsB hΓ rfl) (zvB hΓ (by decide)) ?_
      refine z_il4 dX6_learnDeals_32 ?_
      refine z_iald dX6_learnDeals_34 (zkB hΓ rfl) (by omega) (by omega) ?_
      try simp only [zup_ap, zup_row, ne_eq, not_false_eq_true, zres, Int.toNat_natCast, reduceIte, Nat.reduceEqDiff, Nat.reduceAdd, and_self, and_true, true_and, and_false, false_and]
      refine z_iconst dX6_learnDeals_35 (by decide) ?_
      refine z_icmp_eq (t := 109) dX6_learnDeals_36 (by rfl) (fun ht36 => ?_) (fun hf36 => ?_)
      · refine z_ii4 dX6_learnDeals_109 (by omega) (Nat.le_of_ble_eq_true rfl) rfl ?_
        refine z_goto (t := 18) dX6_learnDeals_112 (by rfl) ?_
        first
        | (refine ih (P + 1) _ _ (by omega) (by omega) hF (zKn_skip hK (by omega)) h85i; done)
        | (refine ih (P + 1) _ _ (by omega) (by omega) (zfr_1 (zfr_up (r := 84) hF rfl) (fun _ => rfl) hE4) (zKn_mark hKx hx2.2 hx9 (fun p => ?_) ?_) ?_
           · rw [hE4 84 (by decide), zup_ap]
             by_cases e : p = P
             · rw [if_pos ⟨rfl, by omega⟩, if_pos e]
             · rw [if_neg (fun x => e (by have := x.2; omega)), if_neg e]
           · rw [zup_row (by decide)] at hM4; exact hM4
           · rw [zup_row (by decide), e85x] at hM4
             have := hM4.2.2.1 i (by omega)
             have := hM4.1 i (by omega)
             omega)
        | (refine ih (P + 1) _ _ (by omega) (by omega) (zfr_up (r := 84) hF rfl) (zKn_last hKx ?_ hx9 (fun p => ?_) (zup_row (by decide))) ?_
           · omega
           · rw [zup_ap]
             by_cases e : p = P
             · rw [if_pos ⟨rfl, by omega⟩, if_pos e]
             · rw [if_neg (fun x => e (by have := x.2; omega)), if_neg e]
           · rw [zup_row (by decide), e85x]; exact h85i)
      · have hkp := hK P (by omega) (by simpa using hf36)
        have hP6 := hkp.1.2.2
        refine z_bipush (x := 99) dX6_learnDeals_39 (by rfl) (by decide) ?_
        refine z_al0 dX6_learnDeals_41 (by first | decide | omega | assumption) ?_
        refine z_getR zfX6_9 dX6_learnDeals_42 (zkB hΓ rfl) rfl (zsB hΓ rfl) (zvB hΓ (by decide)) ?_
        refine z_getR zfX6_80 dX6_learnDeals_45 (zkB hΓ rfl) rfl (zsB hΓ rfl) (zvB hΓ (by decide)) ?_
        refine z_getI zfX6_84 dX6_learnDeals_48 (zkB hΓ rfl) rfl ?_
        rw [hF 25 0 rfl, hI.now.1]
        try simp only [zup_ap, zup_row, ne_eq, not_false_eq_true, zres, Int.toNat_natCast, reduceIte, Nat.reduceEqDiff, Nat.reduceAdd, and_self, and_true, true_and, and_false, false_and]
        refine z_il4 dX6_learnDeals_51 ?_
        refine z_bipush (x := 6) dX6_learnDeals_53 (by rfl) (by decide) ?_
        refine z_idivp dX6_learnDeals_55 (by omega) (by omega) ?_
        refine z_iadd dX6_learnDeals_56 (by omega) ?_
        refine z_mmin dX6_learnDeals_57 zkX6_89 ztJ9_min_7cf53 (Nat.le_of_ble_eq_true rfl) (by first | decide | omega) ⟨Nat.le_refl _, Nat.le_refl _⟩ ?_
        rw [show (if h0 89 29 + (P : Int) / 6 < (99 : Int) then h0 89 29 + (P : Int) / 6 else (99 : Int)) = ((zdO h0 (P / 6) : Nat) : Int) by unfold zdO; split <;> omega]
        refine z_is5 dX6_learnDeals_60 (Nat.le_of_ble_eq_true rfl) rfl ?_
        refine z_al0 dX6_learnDeals_62 (by first | decide | omega | assumption) ?_
        refine z_getR zfX6_31 dX6_learnDeals_63 (zkB hΓ rfl) rfl (zsB hΓ rfl) (zvB hΓ (by decide)) ?_
        refine z_il4 dX6_learnDeals_66 ?_
        refine z_al0 dX6_learnDeals_68 (by first | decide | omega | assumption) ?_
        refine z_getI zfX6_37 dX6_learnDeals_69 (zkB hΓ rfl) rfl ?_
        rw [hF 77 2 rfl, hI.gds.1]
        try simp only [zup_ap, zup_row, ne_eq, not_false_eq_true, zres, Int.toNat_natCast, reduceIte, Nat.reduceEqDiff, Nat.reduceAdd, and_self, and_true, true_and, and_false, false_and]
        refine z_if_le (t := 90) dX6_learnDeals_72 (by rfl) (fun ht72 => ?_) (fun hf72 => ?_)
        · refine z_iconst dX6_learnDeals_90 (by decide) ?_
          have hx9 : zDb 0 (zdF2 h0 (P % 6) (zdO h0 (P / 6) : Nat) (6 * (h0 89 39).toNat)) := zDb_cg zDb_0 (fun k hk => by
            show false = (decide (k < 6 * (h0 89 39).toNat) && _)
            rw [decide_eq_false (by omega)]; rfl)
          have hKx : zKn h0 h L P := hK
          have e84x : h 84 = h 84 := rfl
          have e85x : h 85 = h 85 := rfl
          have e85P := congrFun e85x P
          refine z_iast dX6_learnDeals_91 (zkB hΓ rfl) (by omega) (by omega) ?_
          refine z_al0 dX6_learnDeals_92 (by first | decide | omega | assumption) ?_
          refine z_getR zfX6_34 dX6_learnDeals_93 (zkB hΓ rfl) rfl (zsB hΓ rfl) (zvB hΓ (by decide)) ?_
          refine z_il4 dX6_learnDeals_96 ?_
          refine z_iald dX6_learnDeals_98 (zkB hΓ rfl) (by omega) (by omega) ?_
          try simp only [zup_ap, zup_row, ne_eq, not_false_eq_true, zres, Int.toNat_natCast, reduceIte, Nat.reduceEqDiff, Nat.reduceAdd, and_self, and_true, true_and, and_false, false_and]
          refine z_il2 dX6_learnDeals_99 ?_
          refine z_icmp_ge (t := 109) dX6_learnDeals_100 (by rfl) (fun ht100 => ?_) (fun hf100 => ?_)
          · refine z_ii4 dX6_learnDeals_109 (by omega) (Nat.le_of_ble_eq_true rfl) rfl ?_
            refine z_goto (t := 18) dX6_learnDeals_112 (by rfl) ?_
            first
            | (refine ih (P + 1) _ _ (by omega) (by omega) hF (zKn_skip hK (by omega)) h85i; done)
            | (refine ih (P + 1) _ _ (by omega) (by omega) (zfr_1 (zfr_up (r := 84) hF rfl) (fun _ => rfl) hE4) (zKn_mark hKx hx2.2 hx9 (fun p => ?_) ?_) ?_
               · rw [hE4 84 (by decide), zup_ap]
                 by_cases e : p = P
                 · rw [if_pos ⟨rfl, by omega⟩, if_pos e]
                 · rw [if_neg (fun x => e (by have := x.2; omega)), if_neg e]
               · rw [zup_row (by decide)] at hM4; exact hM4
               · rw [zup_row (by decide), e85x] at hM4
                 have := hM4.2.2.1 i (by omega)
                 have := hM4.1 i (by omega)
                 omega)
            | (refine ih (P + 1) _ _ (by omega) (by omega) (zfr_up (r := 84) hF rfl) (zKn_last hKx ?_ hx9 (fun p => ?_) (zup_row (by decide))) ?_
               · omega
               · rw [zup_ap]
                 by_cases e : p = P
                 · rw [if_pos ⟨rfl, by omega⟩, if_pos e]
                 · rw [if_neg (fun x => e (by have := x.2; omega)), if_neg e]
               · rw [zup_row (by decide), e85x]; exact h85i)
          · refine z_al0 dX6_learnDeals_103 (by first | decide | omega | assumption) ?_
            refine z_il4 dX6_learnDeals_104 ?_
            refine zcv1 dX6_learnDeals_106 zkX6_98 ziX6_markNext zsX6_markNext (zkB hΓ rfl) (by decide) rfl (Nat.le_of_ble_eq_true rfl) (by decide) (by first | decide | omega) ⟨Nat.le_refl _, Nat.le_refl _⟩ (X6_markNext_ct hI (zfr_up hF rfl) (by omega) (by omega) (by rw [zup_row (by decide)]; omega) (fun p hp => by rw [zup_row (by decide)]; exact zKn_r hKx p hp) (fun h4 hE4 hM4 _ => ?_))
            try simp only [zup_ap, zup_row, ne_eq, not_false_eq_true, zres, Int.toNat_natCast, reduceIte, Nat.reduceEqDiff, Nat.reduceAdd, and_self, and_true, true_and, and_false, false_and]
            refine z_ii4 dX6_learnDeals_109 (by omega) (Nat.le_of_ble_eq_true rfl) rfl ?_
            refine z_goto (t := 18) dX6_learnDeals_112 (by rfl) ?_
            first
            | (refine ih (P + 1) _ _ (by omega) (by omega) hF (zKn_skip hK (by omega)) h85i; done)
            | (refine ih (P + 1) _ _ (by omega) (by omega) (zfr_1 (zfr_up (r := 84) hF rfl) (fun _ => rfl) hE4) (zKn_mark hKx hx2.2 hx9 (fun p => ?_) ?_) ?_
               · rw [hE4 84 (by decide), zup_ap]
                 by_cases e : p = P
                 · rw [if_pos ⟨rfl, by omega⟩, if_pos e]
                 · rw [if_neg (fun x => e (by have := x.2; omega)), if_neg e]
               · rw [zup_row (by decide)] at hM4; exact hM4
               · rw [zup_row (by decide), e85x] at hM4
                 have := hM4.2.2.1 i (by omega)
                 have := hM4.1 i (by omega)
                 omega)
            | (refine ih (P + 1) _ _ (by omega) (by omega) (zfr_up (r := 84) hF rfl) (zKn_last hKx ?_ hx9 (fun p => ?_) (zup_row (by decide))) ?_
               · omega
               · rw [zup_ap]
                 by_cases e : p = P
                 · rw [if_pos ⟨rfl, by omega⟩, if_pos e]
                 · rw [if_neg (fun x => e (by have := x.2; omega)), if_neg e]
               · rw [zup_row (by decide), e85x]; exact h85i)
        · refine z_al0 dX6_learnDeals_75 (by first | decide | omega | assumption) ?_
          refine z_il4 dX6_learnDeals_76 ?_
          refine z_bipush (x := 6) dX6_learnDeals_78 (by rfl) (by decide) ?_
          refine z_iremp dX6_learnDeals_80 (by omega) (by omega) ?_
          refine z_il5 dX6_learnDeals_81 ?_
          refine z_il3 dX6_learnDeals_83 ?_
          rw [show (P : Int) % 6 = ((P % 6 : Nat) : Int) by omega]
          refine zcv3 dX6_learnDeals_84 zkX6_94 ziX6_lawfulDeals zsX6_lawfulDeals (zkB hΓ rfl) (by decide) rfl (Nat.le_of_ble_eq_true rfl) (by decide) (by first | decide | omega) ⟨Nat.le_refl _, Nat.le_refl _⟩ (X6_lawfulDeals_ct (i := P % 6) hI hF hO hP6 hhd (fun x h2 hF2 hL2 hD2 _ => ?_))
          try simp only [zup_ap, zup_row, ne_eq, not_false_eq_true, zres, Int.toNat_natCast, reduceIte, Nat.reduceEqDiff, Nat.reduceAdd, and_self, and_true, true_and, and_false, false_and]
          refine z_goto (t := 91) dX6_learnDeals_87 (by rfl) ?_
          have hx9 := hD2
          have e84x : h2 84 = h 84 := hL2 84 (by decide) (by decide) (by decide) (Or.inl (by decide))
          have e85x : h2 85 = h 85 := hL2 85 (by decide) (by decide) (by decide) (Or.inl (by decide))
          have hKx : zKn h0 h2 L P := zKn_cg hK e84x e85x
          replace hF := hF2
          have e85P := congrFun e85x P
          refine z_iast dX6_learnDeals_91 (zkB hΓ rfl) (by omega) (by omega) ?_
          refine z_al0 dX6_learnDeals_92 (by first | decide | omega | assumption) ?_
          refine z_getR zfX6_34 dX6_learnDeals_93 (zkB hΓ rfl) rfl (zsB hΓ rfl) (zvB hΓ (by decide)) ?_
          refine z_il4 dX6_learnDeals_96 ?_
          refine z_iald dX6_learnDeals_98 (zkB hΓ rfl) (by omega) (by omega) ?_
          try simp only [zup_ap, zup_row, ne_eq, not_false_eq_true, zres, Int.toNat_natCast, reduceIte, Nat.reduceEqDiff, Nat.reduceAdd, and_self, and_true, true_and, and_false, false_and]
          refine z_il2 dX6_learnDeals_99 ?_
          refine z_icmp_ge (t := 109) dX6_learnDeals_100 (by rfl) (fun ht100 => ?_) (fun hf100 => ?_)
          · refine z_ii4 dX6_learnDeals_109 (by omega) (Nat.le_of_ble_eq_true rfl) rfl ?_
            refine z_goto (t := 18) dX6_learnDeals_112 (by rfl) ?_
            first
            | (refine ih (P + 1) _ _ (by omega) (by omega) hF (zKn_skip hK (by omega)) h85i; done)
            | (refine ih (P + 1) _ _ (by omega) (by omega) (zfr_1 (zfr_up (r := 84) hF rfl) (fun _ => rfl) hE4) (zKn_mark hKx hx2.2 hx9 (fun p => ?_) ?_) ?_
               · rw [hE4 84 (by decide), zup_ap]
                 by_cases e : p = P
                 · rw [if_pos ⟨rfl, by omega⟩, if_pos e]
                 · rw [if_neg (fun x => e (by have := x.2; omega)), if_neg e]
               · rw [zup_row (by decide)] at hM4; exact hM4
               · rw [zup_row (by decide), e85x] at hM4
                 have := hM4.2.2.1 i (by omega)
                 have := hM4.1 i (by omega)
                 omega)
            | (refine ih (P + 1) _ _ (by omega) (by omega) (zfr_up (r := 84) hF rfl) (zKn_last hKx ?_ hx9 (fun p => ?_) (zup_row (by decide))) ?_
               · omega
               · rw [zup_ap]
                 by_cases e : p = P
                 · rw [if_pos ⟨rfl, by omega⟩, if_pos e]
                 · rw [if_neg (fun x => e (by have := x.2; omega)), if_neg e]
               · rw [zup_row (by decide), e85x]; exact h85i)
          · refine z_al0 dX6_learnDeals_103 (by first | decide | omega | assumption) ?_
            refine z_il4 dX6_learnDeals_104 ?_
            refine zcv1 dX6_learnDeals_106 zkX6_98 ziX6_markNext zsX6_markNext (zkB hΓ rfl) (by decide) rfl (Nat.le_of_ble_eq_true rfl) (by decide) (by first | decide | omega) ⟨Nat.le_refl _, Nat.le_refl _⟩ (X6_markNext_ct hI (zfr_up hF rfl) (by omega) (by omega) (by rw [zup_row (by decide)]; omega) (fun p hp => by rw [zup_row (by decide)]; exact zKn_r hKx p hp) (fun h4 hE4 hM4 _ => ?_))
            try simp only [zup_ap, zup_row, ne_eq, not_false_eq_true, zres, Int.toNat_natCast, reduceIte, Nat.reduceEqDiff, Nat.reduceAdd, and_self, and_true, true_and, and_false, false_and]
            refine z_ii4 dX6_learnDeals_109 (by omega) (Nat.le_of_ble_eq_true rfl) rfl ?_
            refine z_goto (t := 18) dX6_learnDeals_112 (by rfl) ?_
            first
            | (refine ih (P + 1) _ _ (by omega) (by omega) hF (zKn_skip hK (by omega)) h85i; done)
            | (refine ih (P + 1) _ _ (by omega) (by omega) (zfr_1 (zfr_up (r := 84) hF rfl) (fun _ => rfl) hE4) (zKn_mark hKx hx2.2 hx9 (fun p => ?_) ?_) ?_
               · rw [hE4 84 (by decide), zup_ap]
                 by_cases e : p = P
                 · rw [if_pos ⟨rfl, by omega⟩, if_pos e]
                 · rw [if_neg (fun x => e (by have := x.2; omega)), if_neg e]
               · rw [zup_row (by decide)] at hM4; exact hM4
               · rw [zup_row (by decide), e85x] at hM4
                 have := hM4.2.2.1 i (by omega)
                 have := hM4.1 i (by omega)
                 omega)
            | (refine ih (P + 1) _ _ (by omega) (by omega) (zfr_up (r := 84) hF rfl) (zKn_last hKx ?_ hx9 (fun p => ?_) (zup_row (by decide))) ?_
               · omega
               · rw [zup_ap]
                 by_cases e : p = P
                 · rw [if_pos ⟨rfl, by omega⟩, if_pos e]
                 · rw [if_neg (fun x => e (by have := x.2; omega)), if_neg e]
               · rw [zup_row (by decide), e85x]; exact h85i)
set_option maxRecDepth 4000 in
theorem X6_learnDeals_ct {l : Launch} {Γ : zC} {h0 : zM} {Q : Option zV → zC → zM → Prop} {i L hd : Nat} (hI : zIv Γ h0) (hO : h0 89 30 = -1) (hi : (i : Int) < h0 89 22) (hL : L ≤ 3) (hhd : h0 89 32 = (hd : Int)) {h : zM} (hF : zfr zSS h0 h) (hQ : ∀ h9, zfr zSS h0 h9 → zKn h0 h9 L 168 → h9 85 i = 0 → Q none Γ h9) : zCT l mX6_learnDeals 5 0 0 Γ [zR 77, zI (i : Int), zI (L : Int), zI (hd : Int)] h Q := by
  have hΓ := hI.base
  have hx2 := hI.isl
  have hx7 := hI.gds
  have hnw := hI.now
  refine zCT_of (by decide) (Nat.le_of_ble_eq_true rfl) (ls := [some (zR 77), some (zI (i : Int)), some (zI (L : Int)), some (zI (hd : Int)), none, none]) rfl ?_
  refine z_al0 dX6_learnDeals_0 (by first | decide | omega | assumption) ?_
  refine z_getR zfX6_34 dX6_learnDeals_1 (zkB hΓ rfl) rfl (zsB hΓ rfl) (zvB hΓ (by decide)) ?_
  refine z_iconst dX6_learnDeals_4 (by decide) ?_
  refine zcs2 dX6_learnDeals_5 zkX6_41 ztJ7_fill_53178 (Nat.le_of_ble_eq_true rfl) (by decide) (by first | decide | omega) ⟨Nat.le_refl _, Nat.le_refl _⟩ (J7_fill_53178_ct (by decide) (zkB hΓ rfl) (by decide) (fun h2 hE2 hD2 _ => ?_))
  try simp only [zup_ap, zup_row, ne_eq, not_false_eq_true, zres, Int.toNat_natCast, reduceIte, Nat.reduceEqDiff, Nat.reduceAdd, and_self, and_true, true_and, and_false, false_and]
  refine z_al0 dX6_learnDeals_8 (by first | decide | omega | assumption) ?_
  refine z_getR zfX6_34 dX6_learnDeals_9 (zkB hΓ rfl) rfl (zsB hΓ rfl) (zvB hΓ (by decide)) ?_
  refine z_il1 dX6_learnDeals_12 ?_
  refine z_iconst dX6_learnDeals_13 (by decide) ?_
  refine z_iast dX6_learnDeals_14 (zkB hΓ rfl) (by omega) (by omega) ?_
  refine z_iconst dX6_learnDeals_15 (by decide) ?_
  refine z_is4 dX6_learnDeals_16 (Nat.le_of_ble_eq_true rfl) rfl ?_
  refine X6_lD_p hI hO hi hL hhd hQ _ 0 _ _ (Nat.lt_succ_self _) (by omega) (zfr_up (zfr_1 hF (fun _ => rfl) hE2) rfl) (fun p hp e => ?_) (by rw [zup_ap]; exact if_pos ⟨rfl, by omega⟩)
  by_cases e2 : p = i
  · subst e2
    rw [zup_ap, if_pos ⟨rfl, by omega⟩]
    exact ⟨⟨by decide, by decide, by rw [show p % 6 = p by omega]; exact hi⟩, fun x => absurd x (by omega)⟩
  · exfalso
    apply e
    rw [zup_ap, if_neg (fun x => e2 (by have := x.2; omega))]
    exact hD2 p hp
theorem zlm_of {h : zM} {hold : Nat} {wd : Int} (hw : 0 ≤ wd) (hb : ∀ g i j : Nat, (g : Int) < h 89 39 → (i : Int) < h 89 22 → (j : Int) < h 89 22 → h 107 (6 * g + j) - h 107 (6 * g + i) ≤ wd) : zlmP h hold ((hold : Int) * wd) := by
  refine ⟨Int.mul_nonneg (by omega) hw, fun g i j q a b c d => ?_⟩
  have h1 := hb g i j a b c
  have h2 : (q : Int) * h 107 (6 * g + j) ≤ (q : Int) * (h 107 (6 * g + i) + wd) := Int.mul_le_mul_of_nonneg_left (by omega) (by omega)
  have h3 : (q : Int) * wd ≤ (hold : Int) * wd := Int.mul_le_mul_of_nonneg_right (by omega) hw
  rw [Int.mul_add] at h2
  omega
theorem zhw {hold : Nat} {wd : Int} (hh : 1 ≤ hold ∧ hold ≤ 6) (hw : 0 ≤ wd ∧ wd ≤ 99) : 0 ≤ (hold : Int) * wd ∧ (hold : Int) * wd ≤ 594 := by
  rcases (show hold = 1 ∨ hold = 2 ∨ hold = 3 ∨ hold = 4 ∨ hold = 5 ∨ hold = 6 by omega) with rfl | rfl | rfl | rfl | rfl | rfl <;> omega
set_option maxRecDepth 4000 in
theorem X6_land_top {l : Launch} {Γ : zC} {h0 h : zM} (hI : zIv Γ h0) {L hold : Nat} {lm : Int} (hL : L ≤ 3) (hh : 1 ≤ hold ∧ hold ≤ 6) (hl : zlmP h0 hold lm) (hl9 : lm ≤ 594) {i : Nat} {m : Int} {R : Nat → Int} {B : zBs2} {Q : Option zV → zC → zM → Prop} (hi : (i : Int) < h0 89 22) (hkn : h 85 i = 0) (hm9 : 0 ≤ m ∧ m ≤ 999) (hS : zGt h0 h L hold lm B) (hQ : ∀ h9, zGt h0 h9 L hold lm (zLg h0 hold L L i (zdO h0 0) m 0 0 R B) → Q none Γ h9) : zCT l mX6_land (2 + 3 * L) 0 0 Γ [zR 77, zI 0, zI (i : Int), zI 0, zI m, zI (-1), zI 0] h Q := by
  have e := X6_land_ct (l := l) (on := 0) (g := 0) (q := 0) (gI := -1) (R := R) (Q := Q) hI hL hh hl hl9 L (Nat.le_refl L) hi (by omega) (by rw [show 6 * 0 + i = i by omega, hkn]; exact ⟨by decide, by omega⟩) (by omega) (fun x => absurd x (by omega)) hS (fun j hj => absurd hj (by omega)) (fun h9 a _ _ => hQ h9 a)
  rw [Nat.sub_self] at e
  exact e
set_option maxRecDepth 4000 in
theorem X6_mostMoney_ct {l : Launch} {Γ : zC} {h0 h : zM} {Q : Option zV → zC → zM → Prop} {i L hold : Nat} {m : Int} (hI : zIv Γ h0) (hF : zfr zSS h0 h) (hi : (i : Int) < h0 89 22) (hL : L ≤ 3) (hh : 1 ≤ hold ∧ hold ≤ 6) (hm9 : 0 ≤ m ∧ m ≤ 999) (hK : zKn h0 h L 168) (hkn : h 85 i = 0) (hQ : ∀ (lm : Int) h9, zGt h0 h9 L hold lm (zLg h0 hold L L i (zdO h0 0) m 0 0 (fun _ => -1) (-1, fun _ => -1)) → Q (some (zI (zLg h0 hold L L i (zdO h0 0) m 0 0 (fun _ => -1) (-1, fun _ => -1)).1)) Γ h9) : zCT l mX6_mostMoney (3 + 3 * L) 0 0 Γ [zR 77, zI (i : Int), zI m, zI (hold : Int), zI (L : Int)] h Q := by
  have hΓ := hI.base
  have hx2 := hI.isl
  have hx7 := hI.gds
  have hnw := hI.now
  refine zCT_of (by decide) (Nat.le_of_ble_eq_true rfl) (ls := [some (zR 77), some (zI (i : Int)), some (zI m), some (zI (hold : Int)), some (zI (L : Int))]) rfl ?_
  refine z_al0 dX6_mostMoney_0 (by first | decide | omega | assumption) ?_
  refine z_il3 dX6_mostMoney_1 ?_
  refine z_putI zfX6_102 dX6_mostMoney_2 (zkB hΓ rfl) rfl rfl ?_
  refine z_al0 dX6_mostMoney_5 (by first | decide | omega | assumption) ?_
  refine z_il4 dX6_mostMoney_6 ?_
  refine z_putI zfX6_105 dX6_mostMoney_8 (zkB hΓ rfl) rfl rfl ?_
  refine z_al0 dX6_mostMoney_11 (by first | decide | omega | assumption) ?_
  refine z_iconst dX6_mostMoney_12 (by decide) ?_
  refine z_putI zfX6_108 dX6_mostMoney_13 (zkB hΓ rfl) rfl rfl ?_
  refine z_al0 dX6_mostMoney_16 (by first | decide | omega | assumption) ?_
  refine z_al0 dX6_mostMoney_17 (by first | decide | omega | assumption) ?_
  refine z_getI zfX6_102 dX6_mostMoney_18 (zkB hΓ rfl) rfl ?_
  try simp only [zup_ap, zup_row, ne_eq, not_false_eq_true, zres, Int.toNat_natCast, reduceIte, Nat.reduceEqDiff, Nat.reduceAdd, and_self, and_true, true_and, and_false, false_and]
  refine z_al0 dX6_mostMoney_21 (by first | decide | omega | assumption) ?_
  refine zcv0 dX6_mostMoney_22 zkX6_111 ziX6_widestSpread zsX6_widestSpread (zkB hΓ rfl) (by decide) rfl (Nat.le_of_ble_eq_true rfl) (by decide) (by first | decide | omega) ⟨Nat.le_refl _, Nat.le_refl _⟩ (X6_widestSpread_ct hI (zfr_up (zfr_up (zfr_up hF rfl) rfl) rfl) (fun wd hw hb _ => ?_))
  try simp only [zup_ap, zup_row, ne_eq, not_false_eq_true, zres, Int.toNat_natCast, reduceIte, Nat.reduceEqDiff, Nat.reduceAdd, and_self, and_true, true_and, and_false, false_and]
  have hhw := zhw hh hw
  refine z_imul dX6_mostMoney_25 (by omega) ?_
  refine z_putI zfX6_115 dX6_mostMoney_26 (zkB hΓ rfl) rfl rfl ?_
  have hS5 : zGt h0 (zup (zup (zup (zup h 77 8 (hold : Int)) 77 9 (L : Int)) 77 11 (-1)) 77 10 ((hold : Int) * wd)) L hold ((hold : Int) * wd) (-1, fun _ => -1) := ⟨zfr_up (zfr_up (zfr_up (zfr_up hF rfl) rfl) rfl) rfl, zKn_cg hK (by rw [zup_row (by decide), zup_row (by decide), zup_row (by decide), zup_row (by decide)]) (by rw [zup_row (by decide), zup_row (by decide), zup_row (by decide), zup_row (by decide)]), rfl, fun x => absurd rfl x, rfl, rfl, rfl⟩
  refine z_al0 dX6_mostMoney_29 (by first | decide | omega | assumption) ?_
  refine z_iconst dX6_mostMoney_30 (by decide) ?_
  refine z_il1 dX6_mostMoney_31 ?_
  refine z_iconst dX6_mostMoney_32 (by decide) ?_
  refine z_il2 dX6_mostMoney_33 ?_
  refine z_iconst dX6_mostMoney_34 (by decide) ?_
  refine z_iconst dX6_mostMoney_35 (by decide) ?_
  refine zcv6 dX6_mostMoney_36 zkX6_118 ziX6_land zsX6_land (zkB hΓ rfl) (by decide) rfl (Nat.le_of_ble_eq_true rfl) (by decide) (by first | decide | omega) ⟨Nat.le_refl _, Nat.le_refl _⟩ (X6_land_top (R := fun _ => -1) hI hL hh (zlm_of hw.1 hb) hhw.2 hi (by rw [zup_row (by decide), zup_row (by decide), zup_row (by decide), zup_row (by decide)]; exact hkn) hm9 hS5 (fun h9 hS9 _ => ?_))
  try simp only [zup_ap, zup_row, ne_eq, not_false_eq_true, zres, Int.toNat_natCast, reduceIte, Nat.reduceEqDiff, Nat.reduceAdd, and_self, and_true, true_and, and_false, false_and]
  refine z_al0 dX6_mostMoney_39 (by first | decide | omega | assumption) ?_
  refine z_getI zfX6_108 dX6_mostMoney_40 (zkB hΓ rfl) rfl ?_
  rw [hS9.2.2.1]
  try simp only [zup_ap, zup_row, ne_eq, not_false_eq_true, zres, Int.toNat_natCast, reduceIte, Nat.reduceEqDiff, Nat.reduceAdd, and_self, and_true, true_and, and_false, false_and]
  refine z_iret dX6_mostMoney_43 rfl (Nat.le_refl _) (Nat.le_refl _) (zext_rf _) (fun hrr => ?_)
  exact hQ _ _ hS9
set_option maxRecDepth 4000 in
theorem X8_gain_ct {l : Launch} {Γ : zC} {h0 h : zM} {Q : Option zV → zC → zM → Prop} {i m hold L s : Int} (hI : zIv Γ h0) (hF : zfr zSS h0 h) (hO : h0 89 30 = -1) (hQ : ∀ h9, zfr zSS h0 h9 → Q (some (zI (zvGain h0 i m hold L s))) Γ h9) : zCT l mX8_gain 13 0 0 Γ [zR 1, zI i, zI m, zI hold, zI L, zI s] h Q := by
  have hΓ := hI.base
  have hx2 := hI.isl
  have hx3 := hI.hnd
  obtain ⟨hd, hhd⟩ := Int.eq_ofNat_of_zero_le (show 0 ≤ h0 89 32 by omega)
  have hdn : (h0 89 32).toNat = hd := by omega
  have hnw := hI.now
  have hx7 := hI.gds
  refine zCT_of (by decide) (Nat.le_of_ble_eq_true rfl) (ls := [some (zR 1), some (zI i), some (zI m), some (zI hold), some (zI L), some (zI s), none]) rfl ?_
  refine z_al0 dX8_gain_0 (by first | decide | omega | assumption) ?_
  refine z_getR zfX8_35 dX8_gain_1 (zkB hΓ rfl) rfl (zsB hΓ rfl) (zvB hΓ (by decide)) ?_
  refine z_il1 dX8_gain_4 ?_
  refine zcv1 dX8_gain_5 zkX8_114 ziX7_isIsle zsX7_isIsle (zkB hΓ rfl) (by decide) rfl (Nat.le_of_ble_eq_true rfl) (by decide) (by first | decide | omega) ⟨Nat.le_refl _, Nat.le_refl _⟩ (X7_isIsle_ct hI hF (fun hg1 _ => ?_) (fun hg1 _ => ?_))
  · try simp only [zup_ap, zup_row, ne_eq, not_false_eq_true, zres, Int.toNat_natCast, reduceIte, Nat.reduceEqDiff, Nat.reduceAdd, and_self, and_true, true_and, and_false, false_and]
    refine z_if_eq (t := 33) dX8_gain_8 (by rfl) (fun _ => ?_) (fun hx => absurd hx (by decide))
    refine z_ldc (x := -1000000) dX8_gain_33 zqX8_228 (by decide) ?_
    refine z_iret dX8_gain_35 rfl (Nat.le_refl _) (Nat.le_refl _) (zext_rf _) (fun hrr => ?_)
    have hw9 := hQ _ hF
    unfold zvGain at hw9
    rw [if_neg (by omega)] at hw9
    exact hw9
  · try simp only [zup_ap, zup_row, ne_eq, not_false_eq_true, zres, Int.toNat_natCast, reduceIte, Nat.reduceEqDiff, Nat.reduceAdd, and_self, and_true, true_and, and_false, false_and]
    refine z_if_eq (t := 33) dX8_gain_8 (by rfl) (fun hx => absurd hx (by decide)) (fun _ => ?_)
    refine z_il2 dX8_gain_11 ?_
    refine z_if_lt (t := 33) dX8_gain_12 (by rfl) (fun ht12 => ?_) (fun hf12 => ?_)
    · refine z_ldc (x := -1000000) dX8_gain_33 zqX8_228 (by decide) ?_
      refine z_iret dX8_gain_35 rfl (Nat.le_refl _) (Nat.le_refl _) (zext_rf _) (fun hrr => ?_)
      have hw9 := hQ _ hF
      unfold zvGain at hw9
      rw [if_neg (by omega)] at hw9
      exact hw9
    · refine z_il2 dX8_gain_15 ?_
      refine z_sipush (x := 999) dX8_gain_16 (by rfl) (by decide) ?_
      refine z_icmp_gt (t := 33) dX8_gain_19 (by rfl) (fun ht19 => ?_) (fun hf19 => ?_)
      · refine z_ldc (x := -1000000) dX8_gain_33 zqX8_228 (by decide) ?_
        refine z_iret dX8_gain_35 rfl (Nat.le_refl _) (Nat.le_refl _) (zext_rf _) (fun hrr => ?_)
        have hw9 := hQ _ hF
        unfold zvGain at hw9
        rw [if_neg (by omega)] at hw9
        exact hw9
      · refine z_il3 dX8_gain_22 ?_
        refine z_iconst dX8_gain_23 (by decide) ?_
        refine z_icmp_lt (t := 33) dX8_gain_24 (by rfl) (fun ht24 => ?_) (fun hf24 => ?_)
        · refine z_ldc (x := -1000000) dX8_gain_33 zqX8_228 (by decide) ?_
          refine z_iret dX8_gain_35 rfl (Nat.le_refl _) (Nat.le_refl _) (zext_rf _) (fun hrr => ?_)
          have hw9 := hQ _ hF
          unfold zvGain at hw9
          rw [if_neg (by omega)] at hw9
          exact hw9
        · refine z_il3 dX8_gain_27 ?_
          refine z_bipush (x := 6) dX8_gain_28 (by rfl) (by decide) ?_
          refine z_icmp_le (t := 36) dX8_gain_30 (by rfl) (fun ht30 => ?_) (fun hf30 => ?_)
          · refine z_il4 dX8_gain_36 ?_
            refine z_if_lt (t := 62) dX8_gain_38 (by rfl) (fun ht38 => ?_) (fun hf38 => ?_)
            · refine z_ldc (x := -1000000) dX8_gain_62 zqX8_228 (by decide) ?_
              refine z_iret dX8_gain_64 rfl (Nat.le_refl _) (Nat.le_refl _) (zext_rf _) (fun hrr => ?_)
              have hw9 := hQ _ hF
              unfold zvGain at hw9
              rw [if_neg (by omega)] at hw9
              exact hw9
            · refine z_il4 dX8_gain_41 ?_
              refine z_iconst dX8_gain_43 (by decide) ?_
              refine z_icmp_gt (t := 62) dX8_gain_44 (by rfl) (fun ht44 => ?_) (fun hf44 => ?_)
              · refine z_ldc (x := -1000000) dX8_gain_62 zqX8_228 (by decide) ?_
                refine z_iret dX8_gain_64 rfl (Nat.le_refl _) (Nat.le_refl _) (zext_rf _) (fun hrr => ?_)
                have hw9 := hQ _ hF
                unfold zvGain at hw9
                rw [if_neg (by omega)] at hw9
                exact hw9
              · refine z_il5 dX8_gain_47 ?_
                refine z_iconst dX8_gain_49 (by decide) ?_
                refine z_icmp_lt (t := 62) dX8_gain_50 (by rfl) (fun ht50 => ?_) (fun hf50 => ?_)
                · refine z_ldc (x := -1000000) dX8_gain_62 zqX8_228 (by decide) ?_
                  refine z_iret dX8_gain_64 rfl (Nat.le_refl _) (Nat.le_refl _) (zext_rf _) (fun hrr => ?_)
                  have hw9 := hQ _ hF
                  unfold zvGain at hw9
                  rw [if_neg (by omega)] at hw9
                  exact hw9
                · refine z_il5 dX8_gain_53 ?_
                  refine z_iconst dX8_gain_55 (by decide) ?_
                  refine z_il4 dX8_gain_56 ?_
                  refine z_imul dX8_gain_58 (by omega) ?_
                  refine z_icmp_lt (t := 65) dX8_gain_59 (by rfl) (fun ht59 => ?_) (fun hf59 => ?_)
                  · obtain ⟨i, rfl⟩ := Int.eq_ofNat_of_zero_le (show 0 ≤ i by omega)
                    obtain ⟨hold, rfl⟩ := Int.eq_ofNat_of_zero_le (show 0 ≤ hold by omega)
                    obtain ⟨L, rfl⟩ := Int.eq_ofNat_of_zero_le (show 0 ≤ L by omega)
                    refine z_al0 dX8_gain_65 (by first | decide | omega | assumption) ?_
                    refine z_getR zfX8_58 dX8_gain_66 (zkB hΓ rfl) rfl (zsB hΓ rfl) (zvB hΓ (by decide)) ?_
                    refine z_il1 dX8_gain_69 ?_
                    refine z_il4 dX8_gain_70 ?_
                    refine z_al0 dX8_gain_72 (by first | decide | omega | assumption) ?_
                    refine z_getI zfX8_79 dX8_gain_73 (zkB hΓ rfl) rfl ?_
                    rw [hF 1 11 rfl, hI.hnd.1, hhd]
                    try simp only [zup_ap, zup_row, ne_eq, not_false_eq_true, zres, Int.toNat_natCast, reduceIte, Nat.reduceEqDiff, Nat.reduceAdd, and_self, and_true, true_and, and_false, false_and]
                    refine zcv3 dX8_gain_76 zkX8_229 ziX6_learnDeals zsX6_learnDeals (zkB hΓ rfl) (by decide) rfl (Nat.le_of_ble_eq_true rfl) (by decide) (by first | decide | omega) ⟨Nat.le_refl _, Nat.le_refl _⟩ (X6_learnDeals_ct hI hO hg1.2 (by omega) hhd hF (fun h2 hF2 hK2 h85 _ => ?_))
                    try simp only [zup_ap, zup_row, ne_eq, not_false_eq_true, zres, Int.toNat_natCast, reduceIte, Nat.reduceEqDiff, Nat.reduceAdd, and_self, and_true, true_and, and_false, false_and]
                    refine z_al0 dX8_gain_79 (by first | decide | omega | assumption) ?_
                    refine z_getR zfX8_58 dX8_gain_80 (zkB hΓ rfl) rfl (zsB hΓ rfl) (zvB hΓ (by decide)) ?_
                    refine z_il1 dX8_gain_83 ?_
                    refine z_il2 dX8_gain_84 ?_
                    refine z_il3 dX8_gain_85 ?_
                    refine z_il4 dX8_gain_86 ?_
                    refine zcv4 dX8_gain_88 zkX8_232 ziX6_mostMoney zsX6_mostMoney (zkB hΓ rfl) (by decide) rfl (Nat.le_of_ble_eq_true rfl) (by decide) (by first | decide | omega) ⟨Nat.le_refl _, Nat.le_refl _⟩ (X6_mostMoney_ct hI hF2 hg1.2 (by omega) (by omega) (by omega) hK2 h85 (fun lm h9 hS9 _ => ?_))
                    try simp only [zup_ap, zup_row, ne_eq, not_false_eq_true, zres, Int.toNat_natCast, reduceIte, Nat.reduceEqDiff, Nat.reduceAdd, and_self, and_true, true_and, and_false, false_and]
                    have hge : -1 ≤ _ := zLg_ge (h := h0) (hold := hold) (L := L) L i (zdO h0 0) m 0 0 (fun _ => -1) (-1, fun _ => -1)
                    refine z_is6 dX8_gain_91 (Nat.le_of_ble_eq_true rfl) rfl ?_
                    refine z_il6 dX8_gain_93 ?_
                    refine z_iconst dX8_gain_95 (by decide) ?_
                    refine z_icmp_ne (t := 102) dX8_gain_96 (by rfl) (fun ht96 => ?_) (fun hf96 => ?_)
                    · refine z_il5 dX8_gain_102 ?_
                      refine z_iconst dX8_gain_104 (by decide) ?_
                      refine z_icmp_ne (t := 115) dX8_gain_105 (by rfl) (fun ht105 => ?_) (fun hf105 => ?_)
                      · refine z_al0 dX8_gain_115 (by first | decide | omega | assumption) ?_
                        refine z_getR zfX8_58 dX8_gain_116 (zkB hΓ rfl) rfl (zsB hΓ rfl) (zvB hΓ (by decide)) ?_
                        refine z_getR zfX8_236 dX8_gain_119 (zkB hΓ rfl) rfl (zsB hΓ rfl) (zvB hΓ (by decide)) ?_
                        refine z_il5 dX8_gain_122 ?_
                        refine z_iald dX8_gain_124 (zkB hΓ rfl) (by omega) (by omega) ?_
                        rw [hS9.2.2.2.1 (by omega) _ (by omega)]
                        try simp only [zup_ap, zup_row, ne_eq, not_false_eq_true, zres, Int.toNat_natCast, reduceIte, Nat.reduceEqDiff, Nat.reduceAdd, and_self, and_true, true_and, and_false, false_and]
                        refine z_iret dX8_gain_125 rfl (Nat.le_refl _) (Nat.le_refl _) (zext_rf _) (fun hrr => ?_)
                        have hw9 := hQ _ hS9.1
                        unfold zvGain at hw9
                        rw [if_pos (by omega), Int.toNat_natCast, Int.toNat_natCast, Int.toNat_natCast, show (h0 89 29).toNat = zdO h0 0 by unfold zdO; omega] at hw9
                        first
                        | (rw [if_pos (by omega)] at hw9; exact hw9)
                        | (rw [if_neg (by omega), if_pos (by omega)] at hw9; exact hw9)
                        | (rw [if_neg (by omega), if_neg (by omega)] at hw9; exact hw9)
                      · refine z_il6 dX8_gain_108 ?_
                        refine zrngS (fun hr110 => ?_)
                        refine z_il2 dX8_gain_110 ?_
                        refine z_isub dX8_gain_111 (by omega) ?_
                        refine z_goto (t := 125) dX8_gain_112 (by rfl) ?_
                        refine z_iret dX8_gain_125 rfl (Nat.le_refl _) (Nat.le_refl _) (zext_rf _) (fun hrr => ?_)
                        have hw9 := hQ _ hS9.1
                        unfold zvGain at hw9
                        rw [if_pos (by omega), Int.toNat_natCast, Int.toNat_natCast, Int.toNat_natCast, show (h0 89 29).toNat = zdO h0 0 by unfold zdO; omega] at hw9
                        first
                        | (rw [if_pos (by omega)] at hw9; exact hw9)
                        | (rw [if_neg (by omega), if_pos (by omega)] at hw9; exact hw9)
                        | (rw [if_neg (by omega), if_neg (by omega)] at hw9; exact hw9)
                    · refine z_ldc (x := -1000000) dX8_gain_99 zqX8_228 (by decide) ?_
                      refine z_iret dX8_gain_101 rfl (Nat.le_refl _) (Nat.le_refl _) (zext_rf _) (fun hrr => ?_)
                      have hw9 := hQ _ hS9.1
                      unfold zvGain at hw9
                      rw [if_pos (by omega), Int.toNat_natCast, Int.toNat_natCast, Int.toNat_natCast, show (h0 89 29).toNat = zdO h0 0 by unfold zdO; omega] at hw9
                      first
                      | (rw [if_pos (by omega)] at hw9; exact hw9)
                      | (rw [if_neg (by omega), if_pos (by omega)] at hw9; exact hw9)
                      | (rw [if_neg (by omega), if_neg (by omega)] at hw9; exact hw9)
                  · refine z_ldc (x := -1000000) dX8_gain_62 zqX8_228 (by decide) ?_
                    refine z_iret dX8_gain_64 rfl (Nat.le_refl _) (Nat.le_refl _) (zext_rf _) (fun hrr => ?_)
                    have hw9 := hQ _ hF
                    unfold zvGain at hw9
                    rw [if_neg (by omega)] at hw9
                    exact hw9
          · refine z_ldc (x := -1000000) dX8_gain_33 zqX8_228 (by decide) ?_
            refine z_iret dX8_gain_35 rfl (Nat.le_refl _) (Nat.le_refl _) (zext_rf _) (fun hrr => ?_)
            have hw9 := hQ _ hF
            unfold zvGain at hw9
            rw [if_neg (by omega)] at hw9
            exact hw9
