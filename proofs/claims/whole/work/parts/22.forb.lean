/-! who forbids what: the reference; the rows of what is barred -/
abbrev zds (v : Int) : Int := v / 100 + v / 10 % 10 + v % 10
theorem zds_st {v : Int} (h0 : 0 ≤ v) (h9 : v ≤ 999) : zds v = v % 10 + zds (v / 10) := by
  have e1 : v / 10 / 10 = v / 100 := by omega
  show v / 100 + v / 10 % 10 + v % 10 = v % 10 + (v / 10 / 100 + v / 10 / 10 % 10 + v / 10 % 10)
  rw [e1]; omega
theorem zds_b {v : Int} (h0 : 0 ≤ v) (h9 : v ≤ 999) : 0 ≤ zds v ∧ zds v ≤ 30 := by
  show 0 ≤ v / 100 + v / 10 % 10 + v % 10 ∧ v / 100 + v / 10 % 10 + v % 10 ≤ 30
  omega
theorem zMT_M {h h1 h' : zM} (h93 : ∀ r, r ≠ 93 → h1 r = h r) (H : zMT h1 h') : zfM h h' := ⟨fun r a b => by rw [H.1 r a, h93 r b], fun j a => by rw [H.2 j a, h93 89 (by decide)]⟩
set_option maxRecDepth 4000 in
theorem X9_isForbidden_l {l : Launch} {Γ : zC} {h : zM} {Q : Option zV → zC → zM → Prop} {i nn d t : Int} (hn0 : 0 ≤ nn) (hn9 : nn ≤ 999) (hK : zG (zFn l mX9_isForbidden 1680 0 0 Γ Q) 0 0 Γ h 65 [some (zR 89), some (zI i), some (zI nn), some (zI d), some (zI t), some (zI (zds nn)), some (zI 0)] []) : ∀ (m : Nat) (v dg : Int), v < m → 0 ≤ v → v ≤ 999 → 0 ≤ dg → dg + zds v = zds nn → zG (zFn l mX9_isForbidden 1680 0 0 Γ Q) 0 0 Γ h 40 [some (zR 89), some (zI i), some (zI nn), some (zI d), some (zI t), some (zI dg), some (zI v)] [] := by
  intro m
  induction m with
  | zero => intros; omega
  | succ m ih =>
    intro v dg hm h0v hv9 hdg hds
    have hd0 := zds_st h0v hv9
    have hd1 := zds_b h0v hv9
    have hd2 := zds_b hn0 hn9
    have hd3 := zds_b (v := v / 10) (by omega) (by omega)
    refine z_il6 dX9_isForbidden_40 ?_
    refine z_if_le (t := 65) dX9_isForbidden_42 (by rfl) (fun ht42 => ?_) (fun hf42 => ?_)
    · have e2 : v = 0 := by omega
      subst e2
      have e0 : zds 0 = 0 := rfl
      have e1 : dg = zds nn := by omega
      rw [e1]; exact hK
    · refine z_il5 dX9_isForbidden_45 ?_
      refine z_il6 dX9_isForbidden_47 ?_
      refine z_bipush (x := 10) dX9_isForbidden_49 (by rfl) (by decide) ?_
      refine z_iremp dX9_isForbidden_51 (by omega) (by omega) ?_
      refine z_iadd dX9_isForbidden_52 (by omega) ?_
      refine z_is5 dX9_isForbidden_53 (Nat.le_of_ble_eq_true rfl) rfl ?_
      refine z_il6 dX9_isForbidden_55 ?_
      refine z_bipush (x := 10) dX9_isForbidden_57 (by rfl) (by decide) ?_
      refine z_idivp dX9_isForbidden_59 (by omega) (by omega) ?_
      refine z_is6 dX9_isForbidden_60 (Nat.le_of_ble_eq_true rfl) rfl ?_
      refine z_goto (t := 40) dX9_isForbidden_62 (by rfl) ?_
      refine ih _ _ (by omega) (by omega) (by omega) (by omega) ?_
      omega
set_option maxRecDepth 4000 in
theorem X9_isForbidden_ct {l : Launch} {Γ : zC} {h0 h : zM} {Q : Option zV → zC → zM → Prop} {i nn d : Int} (hI : zIv Γ h0) (hF : zfr zSS h0 h) (hv : 0 ≤ i ∧ i < h0 89 22) (hn9 : nn ≤ 999) (hQ : ∀ h9, zfM h h9 → Q (some (zI (zFo h0 i nn d))) Γ h9) : zCT l mX9_isForbidden 1680 0 0 Γ [zR 89, zI i, zI nn, zI d] h Q := by
  have hΓ := hI.base
  have hx2 := hI.isl
  refine zCT_of (by decide) (Nat.le_of_ble_eq_true rfl) (ls := [some (zR 89), some (zI i), some (zI nn), some (zI d), none, none, none]) rfl ?_
  refine z_il2 dX9_isForbidden_0 ?_
  refine z_if_gt (t := 6) dX9_isForbidden_1 (by rfl) (fun ht1 => ?_) (fun hf1 => ?_)
  · refine z_al0 dX9_isForbidden_6 (by first | decide | omega | assumption) ?_
    refine z_il1 dX9_isForbidden_7 ?_
    refine z_il3 dX9_isForbidden_8 ?_
    refine zcv2 dX9_isForbidden_9 zkX9_305 ziX9_tabooOn zsX9_tabooOn (zkB hΓ rfl) (by decide) rfl (Nat.le_of_ble_eq_true rfl) (by decide) (by first | decide | omega) ⟨Nat.le_refl _, Nat.le_refl _⟩ (X9_tabooOn_ct hI hF hv (fun _ => ?_))
    try simp only [zup_ap, zup_row, ne_eq, not_false_eq_true, zres, Int.toNat_natCast, reduceIte, Nat.reduceEqDiff, Nat.reduceAdd, and_self, and_true, true_and, and_false, false_and]
    refine z_is4 dX9_isForbidden_12 (Nat.le_of_ble_eq_true rfl) rfl ?_
    refine z_il2 dX9_isForbidden_14 ?_
    refine z_il4 dX9_isForbidden_15 ?_
    refine z_icmp_ne (t := 22) dX9_isForbidden_17 (by rfl) (fun ht17 => ?_) (fun hf17 => ?_)
    · refine z_al0 dX9_isForbidden_22 (by first | decide | omega | assumption) ?_
      refine z_getR zfX9_49 dX9_isForbidden_23 (zkB hΓ rfl) rfl (zsB hΓ rfl) (zvB hΓ (by decide)) ?_
      refine z_il1 dX9_isForbidden_26 ?_
      refine z_iald dX9_isForbidden_27 (zkB hΓ rfl) (by omega) (by omega) ?_
      try simp only [zup_ap, zup_row, ne_eq, not_false_eq_true, zres, Int.toNat_natCast, reduceIte, Nat.reduceEqDiff, Nat.reduceAdd, and_self, and_true, true_and, and_false, false_and]
      rw [hF 98 _ rfl]
      try simp only [zup_ap, zup_row, ne_eq, not_false_eq_true, zres, Int.toNat_natCast, reduceIte, Nat.reduceEqDiff, Nat.reduceAdd, and_self, and_true, true_and, and_false, false_and]
      refine z_iconst dX9_isForbidden_28 (by decide) ?_
      refine z_icmp_ne (t := 34) dX9_isForbidden_29 (by rfl) (fun ht29 => ?_) (fun hf29 => ?_)
      · have htx := hI.txt (h0 98 i.toNat).toNat (by have := hI.cof i.toNat (by omega) (by omega); omega)
        have hcof := hI.cof i.toNat (by omega) (by omega)
        have hcus := hI.cus
        obtain ⟨hc1, ⟨p9, hp9⟩, -⟩ := id htx
        have hcz := zcd_of htx
        generalize hcc : (h0 98 i.toNat).toNat = c at hc1 hp9 hcz
        have hc9 : (c : Int) = h0 98 i.toNat := by omega
        refine z_iconst dX9_isForbidden_34 (by decide) ?_
        refine z_is5 dX9_isForbidden_35 (Nat.le_of_ble_eq_true rfl) rfl ?_
        refine z_il2 dX9_isForbidden_37 ?_
        refine z_is6 dX9_isForbidden_38 (Nat.le_of_ble_eq_true rfl) rfl ?_
        refine X9_isForbidden_l (by omega) hn9 ?_ 1000 nn 0 (by omega) (by omega) (by omega) (by omega) (Int.zero_add _)
        refine z_al0 dX9_isForbidden_65 (by first | decide | omega | assumption) ?_
        refine z_getR zfX9_20 dX9_isForbidden_66 (zkB hΓ rfl) rfl (zsB hΓ rfl) (zvB hΓ (by decide)) ?_
        refine z_bipush (x := 110) dX9_isForbidden_69 (by rfl) (by decide) ?_
        refine z_il2 dX9_isForbidden_71 ?_
        refine z_iast dX9_isForbidden_72 (zkB hΓ rfl) (by omega) (by omega) ?_
        refine z_al0 dX9_isForbidden_73 (by first | decide | omega | assumption) ?_
        refine z_getR zfX9_20 dX9_isForbidden_74 (zkB hΓ rfl) rfl (zsB hΓ rfl) (zvB hΓ (by decide)) ?_
        refine z_bipush (x := 116) dX9_isForbidden_77 (by rfl) (by decide) ?_
        refine z_il4 dX9_isForbidden_79 ?_
        refine z_iast dX9_isForbidden_81 (zkB hΓ rfl) (by omega) (by omega) ?_
        refine z_al0 dX9_isForbidden_82 (by first | decide | omega | assumption) ?_
        refine z_getR zfX9_20 dX9_isForbidden_83 (zkB hΓ rfl) rfl (zsB hΓ rfl) (zvB hΓ (by decide)) ?_
        refine z_bipush (x := 115) dX9_isForbidden_86 (by rfl) (by decide) ?_
        refine z_il5 dX9_isForbidden_88 ?_
        refine z_iast dX9_isForbidden_90 (zkB hΓ rfl) (by omega) (by omega) ?_
        refine z_al0 dX9_isForbidden_91 (by first | decide | omega | assumption) ?_
        refine z_getR zfX9_20 dX9_isForbidden_92 (zkB hΓ rfl) rfl (zsB hΓ rfl) (zvB hΓ (by decide)) ?_
        refine z_bipush (x := 108) dX9_isForbidden_95 (by rfl) (by decide) ?_
        refine z_il2 dX9_isForbidden_97 ?_
        refine z_bipush (x := 10) dX9_isForbidden_98 (by rfl) (by decide) ?_
        refine z_iremp dX9_isForbidden_100 (by omega) (by omega) ?_
        refine z_iast dX9_isForbidden_101 (zkB hΓ rfl) (by omega) (by omega) ?_
        refine z_al0 dX9_isForbidden_102 (by first | decide | omega | assumption) ?_
        refine z_getR zfX9_20 dX9_isForbidden_103 (zkB hΓ rfl) rfl (zsB hΓ rfl) (zvB hΓ (by decide)) ?_
        refine z_bipush (x := 105) dX9_isForbidden_106 (by rfl) (by decide) ?_
        refine z_il1 dX9_isForbidden_108 ?_
        refine z_iast dX9_isForbidden_109 (zkB hΓ rfl) (by omega) (by omega) ?_
        refine z_al0 dX9_isForbidden_110 (by first | decide | omega | assumption) ?_
        refine z_getR zfX9_20 dX9_isForbidden_111 (zkB hΓ rfl) rfl (zsB hΓ rfl) (zvB hΓ (by decide)) ?_
        refine z_bipush (x := 100) dX9_isForbidden_114 (by rfl) (by decide) ?_
        refine z_il3 dX9_isForbidden_116 ?_
        refine z_iast dX9_isForbidden_117 (zkB hΓ rfl) (by omega) (by omega) ?_
        refine z_al0 dX9_isForbidden_118 (by first | decide | omega | assumption) ?_
        refine z_al0 dX9_isForbidden_119 (by first | decide | omega | assumption) ?_
        refine z_getR zfX9_13 dX9_isForbidden_120 (zkB hΓ rfl) rfl (zsB hΓ rfl) (zvB hΓ (by decide)) ?_
        refine z_sipush (x := 160) dX9_isForbidden_123 (by rfl) (by decide) ?_
        refine z_al0 dX9_isForbidden_126 (by first | decide | omega | assumption) ?_
        refine z_getR zfX9_49 dX9_isForbidden_127 (zkB hΓ rfl) rfl (zsB hΓ rfl) (zvB hΓ (by decide)) ?_
        refine z_il1 dX9_isForbidden_130 ?_
        refine z_iald dX9_isForbidden_131 (zkB hΓ rfl) (by omega) (by omega) ?_
        try simp only [zup_ap, zup_row, ne_eq, not_false_eq_true, zres, Int.toNat_natCast, reduceIte, Nat.reduceEqDiff, Nat.reduceAdd, and_self, and_true, true_and, and_false, false_and]
        rw [hF 98 _ rfl]
        try simp only [zup_ap, zup_row, ne_eq, not_false_eq_true, zres, Int.toNat_natCast, reduceIte, Nat.reduceEqDiff, Nat.reduceAdd, and_self, and_true, true_and, and_false, false_and]
        refine z_imul dX9_isForbidden_132 (by omega) ?_
        refine z_al0 dX9_isForbidden_133 (by first | decide | omega | assumption) ?_
        refine z_getR zfX9_16 dX9_isForbidden_134 (zkB hΓ rfl) rfl (zsB hΓ rfl) (zvB hΓ (by decide)) ?_
        refine z_al0 dX9_isForbidden_137 (by first | decide | omega | assumption) ?_
        refine z_getR zfX9_49 dX9_isForbidden_138 (zkB hΓ rfl) rfl (zsB hΓ rfl) (zvB hΓ (by decide)) ?_
        refine z_il1 dX9_isForbidden_141 ?_
        refine z_iald dX9_isForbidden_142 (zkB hΓ rfl) (by omega) (by omega) ?_
        try simp only [zup_ap, zup_row, ne_eq, not_false_eq_true, zres, Int.toNat_natCast, reduceIte, Nat.reduceEqDiff, Nat.reduceAdd, and_self, and_true, true_and, and_false, false_and]
        rw [hF 98 _ rfl]
        try simp only [zup_ap, zup_row, ne_eq, not_false_eq_true, zres, Int.toNat_natCast, reduceIte, Nat.reduceEqDiff, Nat.reduceAdd, and_self, and_true, true_and, and_false, false_and]
        refine z_iald dX9_isForbidden_143 (zkB hΓ rfl) (by omega) (by omega) ?_
        try simp only [zup_ap, zup_row, ne_eq, not_false_eq_true, zres, Int.toNat_natCast, reduceIte, Nat.reduceEqDiff, Nat.reduceAdd, and_self, and_true, true_and, and_false, false_and]
        rw [hF 92 _ rfl]
        try simp only [zup_ap, zup_row, ne_eq, not_false_eq_true, zres, Int.toNat_natCast, reduceIte, Nat.reduceEqDiff, Nat.reduceAdd, and_self, and_true, true_and, and_false, false_and]
        rw [hcc, show 160 * h0 98 i.toNat = ((160 * c : Nat) : Int) by omega, show h0 92 c = (((h0 92 c).toNat : Nat) : Int) by omega]
        refine zcv3 dX9_isForbidden_144 zkX9_268 ziX9_goThrough zsX9_goThrough (zkB hΓ rfl) (by decide) rfl (Nat.le_of_ble_eq_true rfl) (by decide) (by first | decide | omega) ⟨Nat.le_refl _, Nat.le_refl _⟩ (zM_through (R := 91) (b := 160 * c) (n := (h0 92 c).toNat) (f := 830) (D := 1674) (t := zTxt h0 c) (r := (true, p9, zcd h0 c)) hΓ (by omega) (by omega) (by decide) (by decide) ⟨640, zkB hΓ rfl, by omega⟩ (fun j hj => by simp only [zup_row (show (91 : Nat) ≠ 93 by decide)]; rw [hF 91 _ rfl]; rfl) hp9 (Nat.le_refl _) ⟨fun p9 c9 e => (by cases e), fun p8 c8 e h9 hT9 hf9 hv9 _ => ?_⟩)
        try simp only [zup_ap, zup_row, ne_eq, not_false_eq_true, zres, Int.toNat_natCast, reduceIte, Nat.reduceEqDiff, Nat.reduceAdd, and_self, and_true, true_and, and_false, false_and]
        cases e
        have hM9 : zfM h h9 := zMT_M (fun r hr => by simp only [zup_row hr]) hT9
        have hw9 : h9 89 14 = zwor (zlt nn (zTbR h0 i d) i d) (zcd h0 c) [] false := by
          rw [hv9]
          refine zwor_L (fun s hs => ?_) _ _ _ hcz.2
          rcases hs with rfl | rfl | rfl | rfl | rfl | rfl <;> rfl
        refine z_al0 dX9_isForbidden_147 (by first | decide | omega | assumption) ?_
        refine z_getI zfX9_236 dX9_isForbidden_148 (zkB hΓ rfl) rfl ?_
        try simp only [zup_ap, zup_row, ne_eq, not_false_eq_true, zres, Int.toNat_natCast, reduceIte, Nat.reduceEqDiff, Nat.reduceAdd, and_self, and_true, true_and, and_false, false_and]
        refine z_if_le (t := 158) dX9_isForbidden_151 (by rfl) (fun ht151 => ?_) (fun hf151 => ?_)
        · refine z_iconst dX9_isForbidden_158 (by decide) ?_
          refine z_zret dX9_isForbidden_159 rfl (Nat.le_refl _) (Nat.le_refl _) (zext_rf _) (by first | exact Or.inl rfl | exact Or.inr rfl | omega) ?_
          refine zQi (hQ _ hM9) ?_ rfl
          unfold zFo zFb
          rw [if_neg (by omega), if_neg (by omega), if_neg (by omega), hcc, ← hw9]
          first | rw [if_pos (by omega)] | rw [if_neg (by omega)]
        · refine z_iconst dX9_isForbidden_154 (by decide) ?_
          refine z_goto (t := 159) dX9_isForbidden_155 (by rfl) ?_
          refine z_zret dX9_isForbidden_159 rfl (Nat.le_refl _) (Nat.le_refl _) (zext_rf _) (by first | exact Or.inl rfl | exact Or.inr rfl | omega) ?_
          refine zQi (hQ _ hM9) ?_ rfl
          unfold zFo zFb
          rw [if_neg (by omega), if_neg (by omega), if_neg (by omega), hcc, ← hw9]
          first | rw [if_pos (by omega)] | rw [if_neg (by omega)]
      · refine z_iconst dX9_isForbidden_32 (by decide) ?_
        refine z_zret dX9_isForbidden_33 rfl (Nat.le_refl _) (Nat.le_refl _) (zext_rf _) (by first | exact Or.inl rfl | exact Or.inr rfl | omega) ?_
        refine zQi (hQ _ (zfM_rf _)) ?_ rfl
        unfold zFo zFb
        rw [if_neg (by omega), if_neg (by omega), if_pos (by omega)]
    · refine z_iconst dX9_isForbidden_20 (by decide) ?_
      refine z_zret dX9_isForbidden_21 rfl (Nat.le_refl _) (Nat.le_refl _) (zext_rf _) (by first | exact Or.inl rfl | exact Or.inr rfl | omega) ?_
      refine zQi (hQ _ (zfM_rf _)) ?_ rfl
      unfold zFo zFb
      rw [if_neg (by omega), if_pos (by omega)]
  · refine z_iconst dX9_isForbidden_4 (by decide) ?_
    refine z_zret dX9_isForbidden_5 rfl (Nat.le_refl _) (Nat.le_refl _) (zext_rf _) (by first | exact Or.inl rfl | exact Or.inr rfl | omega) ?_
    refine zQi (hQ _ (zfM_rf _)) ?_ rfl
    unfold zFo zFb
    rw [if_pos (by omega)]
