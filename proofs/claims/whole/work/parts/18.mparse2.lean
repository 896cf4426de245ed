/-! the reference's parser: comparisons, conditions, clauses -/
theorem zop_c1 {L : Int → Int} {x a b : Int} {s : List Int} (h : (x = 61 ∧ a = b) ∨ (x = 60 ∧ a < b) ∨ (x = 62 ∧ b < a)) : zE L [-x] (b :: a :: s) (1 :: s) := by
  have := zE_jn (L := L) (x := x) (a := a) (b := b) (s := s) (by omega)
  rwa [show zbn (zjn x a b) = 1 by rcases h with ⟨h1, h2⟩ | ⟨h1, h2⟩ | ⟨h1, h2⟩ <;> simp [zjn, zbn, h1, h2]] at this
theorem zop_c0 {L : Int → Int} {x a b : Int} {s : List Int} (h : (x = 61 ∧ ¬ a = b) ∨ (x = 60 ∧ ¬ a < b) ∨ (x = 62 ∧ ¬ b < a)) : zE L [-x] (b :: a :: s) (0 :: s) := by
  have := zE_jn (L := L) (x := x) (a := a) (b := b) (s := s) (by omega)
  have e : zjn x a b = 0 := by
    rcases h with ⟨h1, h2⟩ | ⟨h1, h2⟩ | ⟨h1, h2⟩
    · have e : (if a = b then (1 : Int) else 0) = 0 := if_neg h2
      rw [h1]; unfold zjn; rw [if_neg (by decide), if_neg (by decide), if_neg (by decide), if_neg (by decide), if_pos rfl, e]
    · have e : (if a < b then (1 : Int) else 0) = 0 := if_neg h2
      rw [h1]; unfold zjn; rw [if_neg (by decide), if_neg (by decide), if_neg (by decide), if_neg (by decide), if_neg (by decide), if_pos rfl, e]
    · have e : (if b < a then (1 : Int) else 0) = 0 := if_neg h2
      rw [h1]; unfold zjn; rw [if_neg (by decide), if_neg (by decide), if_neg (by decide), if_neg (by decide), if_neg (by decide), if_neg (by decide), if_pos rfl, e]
  rw [e] at this
  exact this
theorem zop_a1 {L : Int → Int} {a b : Int} {s : List Int} (ha : a = 1) (hb : b = 1) : zE L [-38] (b :: a :: s) (1 :: s) := by
  have := zE_jn (L := L) (x := 38) (a := a) (b := b) (s := s) (by decide)
  rwa [show zbn (zjn 38 a b) = 1 by subst ha; subst hb; decide +kernel] at this
theorem zop_a0 {L : Int → Int} {a b : Int} {s : List Int} (ha : a = 0 ∨ a = 1) (hb : b = 0 ∨ b = 1) (h : a = 0 ∨ b = 0) : zE L [-38] (b :: a :: s) (0 :: s) := by
  have := zE_jn (L := L) (x := 38) (a := a) (b := b) (s := s) (by decide)
  rwa [show zbn (zjn 38 a b) = 0 by rcases ha with rfl | rfl <;> rcases hb with rfl | rfl <;> first | decide +kernel | omega] at this
theorem zop_o1 {L : Int → Int} {a b : Int} {s : List Int} (ha : a = 0 ∨ a = 1) (hb : b = 0 ∨ b = 1) (h : a = 1 ∨ b = 1) : zE L [-124] (b :: a :: s) (1 :: s) := by
  have := zE_jn (L := L) (x := 124) (a := a) (b := b) (s := s) (by decide)
  rwa [show zbn (zjn 124 a b) = 1 by rcases ha with rfl | rfl <;> rcases hb with rfl | rfl <;> first | decide +kernel | omega] at this
theorem zop_o0 {L : Int → Int} {a b : Int} {s : List Int} (ha : a = 0) (hb : b = 0) : zE L [-124] (b :: a :: s) (0 :: s) := by
  have := zE_jn (L := L) (x := 124) (a := a) (b := b) (s := s) (by decide)
  rwa [show zbn (zjn 124 a b) = 0 by subst ha; subst hb; decide +kernel] at this
theorem zop_n1 {L : Int → Int} {a : Int} {s : List Int} (ha : a = 0) : zE L [-33] (a :: s) (1 :: s) := by
  have := zE_not (L := L) (a := a) (s := s)
  rwa [show zw_isub 1 a = 1 by subst ha; decide +kernel] at this
theorem zop_n0 {L : Int → Int} {a : Int} {s : List Int} (ha : a = 1) : zE L [-33] (a :: s) (0 :: s) := by
  have := zE_not (L := L) (a := a) (s := s)
  rwa [show zw_isub 1 a = 0 by subst ha; decide +kernel] at this
theorem zbd_as (A : Option zRs) (k k' : Nat → List Int → Option zRs) : zbd (zbd A k) k' = zbd A (fun p c => zbd (k p c) k') := by
  rcases A with _ | ⟨b, p, c⟩
  · rfl
  · cases b <;> rfl
set_option maxRecDepth 4000 in
theorem zM_cmp0 {l : Launch} {Γ : zC} {h0 : zM} {R b n : Nat} {t : Nat → Int} (hΓ : zBase Γ) (hT : zTx Γ h0 R b n t) {f : Nat} (iS : ∀ g, g < f + 1 → zSm l Γ h0 n t (fun s => h0 93 s.toNat) g 3 0 mX9_sum []) : ∀ (D f1 f2 p dep : Nat) (h : zM) (r : zRs) (Q : Option zV → zC → zM → Prop), f1 ≤ f → f2 ≤ f → 2 * f + 9 ≤ D → zMS h0 h p dep → p ≤ 160 → dep ≤ 6 → zbd (zP t n f1 3 (zskip t n p) dep) (fun p c => zbd (zP t n f2 5 p dep) (fun p2 c2 => zok p2 (c ++ c2))) = some r →
  (∀ (p1 : Nat) (c1 : List Int) (pp : Nat) (v : Int) (h' : zM), r = (true, p1, c1) → zskip t n pp = p1 → pp ≤ 160 → (1 = 1 → v = 0 ∨ v = 1) → zMS h0 h' pp dep → (∀ s, zE (fun s => h0 93 s.toNat) c1 (s) (v :: s)) → Q (some (zI v)) Γ h') →
  (∀ (p1 : Nat) (v : Int) (h' : zM), (r.1 = false ∨ zdg (zsg t n p1)) → r.2.1 = p1 → (1 = 1 → v = 0 ∨ v = 1) → zMX h0 h' p1 dep → Q (some (zI v)) Γ h') → zCT l mX9_compares D 0 0 Γ [zR 89, zI 0, zI 0] h Q := by
  intro D f1 f2 p dep h r Q hf1 hf2 hD hR hp hdep hP hN hXc
  have sk1 := fun k => zskip_b t n k
  have s0 := sk1 p
  have hn2 := hT.2.2.2.1
  refine zCT_of (by decide) (Nat.le_of_ble_eq_true rfl) (ls := [some (zR 89), some (zI 0), some (zI 0), none, none, none]) rfl ?_
  refine z_il1 dX9_compares_0 ?_
  refine z_if_eq (t := 8) dX9_compares_1 (by rfl) (fun _ => ?_) (fun hx => absurd hx (by decide))
  refine z_al0 dX9_compares_8 (by first | decide | omega | assumption) ?_
  obtain ⟨r1, hP1, hK1⟩ := zbd_e hP
  refine zcv0 dX9_compares_9 zkX9_193 ziX9_sum zsX9_sum (zkB hΓ rfl) (by decide) rfl (Nat.le_of_ble_eq_true rfl) (by decide) (by first | decide | omega) ⟨Nat.le_refl _, Nat.le_refl _⟩ (iS f1 (by omega) (2 * f1 + 8) _ _ _ r1 _ (Nat.le_refl _) hR (by omega) (by omega) hP1 (fun p1 c1 pp1 v1 h hr1 hz1 hpp1 hb1 hR hE1 _ => ?_) (fun p1 v1 h hd1 he1 hb1 hX _ => ?_))
  · subst hr1
    have hP := zN_gen hK1 rfl
    try dsimp only at hP
    have b1 := zP_c hP1 (by decide)
    try simp only [zup_ap, zup_row, ne_eq, not_false_eq_true, zres, Int.toNat_natCast, reduceIte, Nat.reduceEqDiff, Nat.reduceAdd, and_self, and_true, true_and, and_false, false_and]
    skip
    refine z_is3 dX9_compares_12 (Nat.le_of_ble_eq_true rfl) rfl ?_
    refine z_al0 dX9_compares_13 (by first | decide | omega | assumption) ?_
    refine z_getI zfX9_160 dX9_compares_14 (zkB hΓ rfl) rfl ?_
    try simp only [zup_ap, zup_row, ne_eq, not_false_eq_true, zres, Int.toNat_natCast, reduceIte, Nat.reduceEqDiff, Nat.reduceAdd, and_self, and_true, true_and, and_false, false_and]
    refine z_iconst dX9_compares_17 (by decide) ?_
    refine z_icmp_eq (t := 23) dX9_compares_18 (by rfl) (fun ht18 => ?_) (fun hf18 => ?_)
    · refine z_al0 dX9_compares_23 (by first | decide | omega | assumption) ?_
      refine zcv0 dX9_compares_24 zkX9_170 ziX9_look zsX9_look (zkB hΓ rfl) (by decide) rfl (Nat.le_of_ble_eq_true rfl) (by decide) (by first | decide | omega) ⟨Nat.le_refl _, Nat.le_refl _⟩ (zM_look hΓ hT hR (by omega) (fun h hR _ => ?_))
      try simp only [zup_ap, zup_row, ne_eq, not_false_eq_true, zres, Int.toNat_natCast, reduceIte, Nat.reduceEqDiff, Nat.reduceAdd, and_self, and_true, true_and, and_false, false_and]
      simp only [hz1] at hR ⊢
      refine z_is4 dX9_compares_27 (Nat.le_of_ble_eq_true rfl) rfl ?_
      refine z_il4 dX9_compares_29 ?_
      refine zcs1 dX9_compares_31 zkX9_213 ztX9_isSign (Nat.le_of_ble_eq_true rfl) (by decide) (by first | decide | omega) ⟨Nat.le_refl _, Nat.le_refl _⟩ (X9_isSign_ct (fun _ => ?_))
      try simp only [zup_ap, zup_row, ne_eq, not_false_eq_true, zres, Int.toNat_natCast, reduceIte, Nat.reduceEqDiff, Nat.reduceAdd, and_self, and_true, true_and, and_false, false_and]
      refine z_if_ne (t := 42) dX9_compares_34 (by rfl) (fun ht34 => ?_) (fun hf34 => ?_)
      · have hz := zif1.mp ht34
        obtain ⟨g, hg, hP⟩ := zP5p hz hP
        have l8 : p1 < n := by rcases hz with h | h | h <;> exact zsg_lt h (by decide)
        have s8 := sk1 (p1 + 1)
        have hz : _ ∨ _ ∨ _ := hz
        refine z_al0 dX9_compares_42 (by first | decide | omega | assumption) ?_
        have a1 := hR.2.1
        refine z_dup dX9_compares_43 rfl ?_
        refine z_getI zfX9_151 dX9_compares_44 (zkB hΓ rfl) rfl ?_
        try simp only [zup_ap, zup_row, ne_eq, not_false_eq_true, zres, Int.toNat_natCast, reduceIte, Nat.reduceEqDiff, Nat.reduceAdd, and_self, and_true, true_and, and_false, false_and]
        refine z_iconst dX9_compares_47 (by decide) ?_
        refine z_iadd dX9_compares_48 (by omega) ?_
        refine z_putI zfX9_151 dX9_compares_49 (zkB hΓ rfl) rfl rfl ?_
        have hR := zMS_inc hR
        refine z_al0 dX9_compares_52 (by first | decide | omega | assumption) ?_
        obtain ⟨r2, hP2, hK2⟩ := zbd_e hP
        refine zcv0 dX9_compares_53 zkX9_193 ziX9_sum zsX9_sum (zkB hΓ rfl) (by decide) rfl (Nat.le_of_ble_eq_true rfl) (by decide) (by first | decide | omega) ⟨Nat.le_refl _, Nat.le_refl _⟩ (iS g (by omega) (2 * g + 8) _ _ _ r2 _ (Nat.le_refl _) hR (by omega) (by omega) hP2 (fun p2 c2 pp2 v2 h hr2 hz2 hpp2 hb2 hR hE2 _ => ?_) (fun p2 v2 h hd2 he2 hb2 hX _ => ?_))
        · subst hr2
          have hP := zN_gen hK2 rfl
          try dsimp only at hP
          have b2 := zP_c hP2 (by decide)
          try simp only [zup_ap, zup_row, ne_eq, not_false_eq_true, zres, Int.toNat_natCast, reduceIte, Nat.reduceEqDiff, Nat.reduceAdd, and_self, and_true, true_and, and_false, false_and]
          skip
          refine z_is5 dX9_compares_56 (Nat.le_of_ble_eq_true rfl) rfl ?_
          refine z_il4 dX9_compares_58 ?_
          refine z_bipush (x := 61) dX9_compares_60 (by rfl) (by decide) ?_
          refine z_icmp_ne (t := 79) dX9_compares_62 (by rfl) (fun ht62 => ?_) (fun hf62 => ?_)
          · refine z_il4 dX9_compares_79 ?_
            refine z_bipush (x := 60) dX9_compares_81 (by rfl) (by decide) ?_
            refine z_icmp_ne (t := 100) dX9_compares_83 (by rfl) (fun ht83 => ?_) (fun hf83 => ?_)
            · refine z_il3 dX9_compares_100 ?_
              refine z_il5 dX9_compares_101 ?_
              refine z_icmp_le (t := 110) dX9_compares_103 (by rfl) (fun ht103 => ?_) (fun hf103 => ?_)
              · refine z_iconst dX9_compares_110 (by decide) ?_
                refine z_zret dX9_compares_111 rfl (Nat.le_refl _) (Nat.le_refl _) (zext_rf _) (by first | exact Or.inl rfl | exact Or.inr rfl | omega) ?_
                cases hP
                refine hN _ _ _ _ _ rfl hz2 hpp2 (fun _ => by omega) hR (fun s => ?_)
                refine zE_app (hE1 _) (zE_app (hE2 _) ?_)
                first
                | exact zop_c1 (by omega)
                | exact zop_c0 (by omega)
              · refine z_iconst dX9_compares_106 (by decide) ?_
                refine z_goto (t := 111) dX9_compares_107 (by rfl) ?_
                refine z_zret dX9_compares_111 rfl (Nat.le_refl _) (Nat.le_refl _) (zext_rf _) (by first | exact Or.inl rfl | exact Or.inr rfl | omega) ?_
                cases hP
                refine hN _ _ _ _ _ rfl hz2 hpp2 (fun _ => by omega) hR (fun s => ?_)
                refine zE_app (hE1 _) (zE_app (hE2 _) ?_)
                first
                | exact zop_c1 (by omega)
                | exact zop_c0 (by omega)
            · refine z_il3 dX9_compares_86 ?_
              refine z_il5 dX9_compares_87 ?_
              refine z_icmp_ge (t := 96) dX9_compares_89 (by rfl) (fun ht89 => ?_) (fun hf89 => ?_)
              · refine z_iconst dX9_compares_96 (by decide) ?_
                refine z_goto (t := 111) dX9_compares_97 (by rfl) ?_
                refine z_zret dX9_compares_111 rfl (Nat.le_refl _) (Nat.le_refl _) (zext_rf _) (by first | exact Or.inl rfl | exact Or.inr rfl | omega) ?_
                cases hP
                refine hN _ _ _ _ _ rfl hz2 hpp2 (fun _ => by omega) hR (fun s => ?_)
                refine zE_app (hE1 _) (zE_app (hE2 _) ?_)
                first
                | exact zop_c1 (by omega)
                | exact zop_c0 (by omega)
              · refine z_iconst dX9_compares_92 (by decide) ?_
                refine z_goto (t := 111) dX9_compares_93 (by rfl) ?_
                refine z_zret dX9_compares_111 rfl (Nat.le_refl _) (Nat.le_refl _) (zext_rf _) (by first | exact Or.inl rfl | exact Or.inr rfl | omega) ?_
                cases hP
                refine hN _ _ _ _ _ rfl hz2 hpp2 (fun _ => by omega) hR (fun s => ?_)
                refine zE_app (hE1 _) (zE_app (hE2 _) ?_)
                first
                | exact zop_c1 (by omega)
                | exact zop_c0 (by omega)
          · refine z_il3 dX9_compares_65 ?_
            refine z_il5 dX9_compares_66 ?_
            refine z_icmp_ne (t := 75) dX9_compares_68 (by rfl) (fun ht68 => ?_) (fun hf68 => ?_)
            · refine z_iconst dX9_compares_75 (by decide) ?_
              refine z_goto (t := 111) dX9_compares_76 (by rfl) ?_
              refine z_zret dX9_compares_111 rfl (Nat.le_refl _) (Nat.le_refl _) (zext_rf _) (by first | exact Or.inl rfl | exact Or.inr rfl | omega) ?_
              cases hP
              refine hN _ _ _ _ _ rfl hz2 hpp2 (fun _ => by omega) hR (fun s => ?_)
              refine zE_app (hE1 _) (zE_app (hE2 _) ?_)
              first
              | exact zop_c1 (by omega)
              | exact zop_c0 (by omega)
            · refine z_iconst dX9_compares_71 (by decide) ?_
              refine z_goto (t := 111) dX9_compares_72 (by rfl) ?_
              refine z_zret dX9_compares_111 rfl (Nat.le_refl _) (Nat.le_refl _) (zext_rf _) (by first | exact Or.inl rfl | exact Or.inr rfl | omega) ?_
              cases hP
              refine hN _ _ _ _ _ rfl hz2 hpp2 (fun _ => by omega) hR (fun s => ?_)
              refine zE_app (hE1 _) (zE_app (hE2 _) ?_)
              first
              | exact zop_c1 (by omega)
              | exact zop_c0 (by omega)
        · have hX1 := hX.2.1
          have hX2 := hX.2.2.1
          have hX3 := hX.2.2.2
          try simp only [zup_ap, zup_row, ne_eq, not_false_eq_true, zres, Int.toNat_natCast, reduceIte, Nat.reduceEqDiff, Nat.reduceAdd, and_self, and_true, true_and, and_false, false_and]
          skip
          refine z_is5 dX9_compares_56 (Nat.le_of_ble_eq_true rfl) rfl ?_
          refine z_il4 dX9_compares_58 ?_
          refine z_bipush (x := 61) dX9_compares_60 (by rfl) (by decide) ?_
          refine z_icmp_ne (t := 79) dX9_compares_62 (by rfl) (fun ht62 => ?_) (fun hf62 => ?_)
          · refine z_il4 dX9_compares_79 ?_
            refine z_bipush (x := 60) dX9_compares_81 (by rfl) (by decide) ?_
            refine z_icmp_ne (t := 100) dX9_compares_83 (by rfl) (fun ht83 => ?_) (fun hf83 => ?_)
            · refine z_il3 dX9_compares_100 ?_
              refine z_il5 dX9_compares_101 ?_
              refine z_icmp_le (t := 110) dX9_compares_103 (by rfl) (fun ht103 => ?_) (fun hf103 => ?_)
              · refine z_iconst dX9_compares_110 (by decide) ?_
                refine z_zret dX9_compares_111 rfl (Nat.le_refl _) (Nat.le_refl _) (zext_rf _) (by first | exact Or.inl rfl | exact Or.inr rfl | omega) ?_
                have hx9 := zX_gen hK2 hd2 he2 (fun hd c => zDg_ok hd)
                exact hXc _ _ _ hx9.1 hx9.2 (fun _ => by omega) hX
              · refine z_iconst dX9_compares_106 (by decide) ?_
                refine z_goto (t := 111) dX9_compares_107 (by rfl) ?_
                refine z_zret dX9_compares_111 rfl (Nat.le_refl _) (Nat.le_refl _) (zext_rf _) (by first | exact Or.inl rfl | exact Or.inr rfl | omega) ?_
                have hx9 := zX_gen hK2 hd2 he2 (fun hd c => zDg_ok hd)
                exact hXc _ _ _ hx9.1 hx9.2 (fun _ => by omega) hX
            · refine z_il3 dX9_compares_86 ?_
              refine z_il5 dX9_compares_87 ?_
              refine z_icmp_ge (t := 96) dX9_compares_89 (by rfl) (fun ht89 => ?_) (fun hf89 => ?_)
              · refine z_iconst dX9_compares_96 (by decide) ?_
                refine z_goto (t := 111) dX9_compares_97 (by rfl) ?_
                refine z_zret dX9_compares_111 rfl (Nat.le_refl _) (Nat.le_refl _) (zext_rf _) (by first | exact Or.inl rfl | exact Or.inr rfl | omega) ?_
                have hx9 := zX_gen hK2 hd2 he2 (fun hd c => zDg_ok hd)
                exact hXc _ _ _ hx9.1 hx9.2 (fun _ => by omega) hX
              · refine z_iconst dX9_compares_92 (by decide) ?_
                refine z_goto (t := 111) dX9_compares_93 (by rfl) ?_
                refine z_zret dX9_compares_111 rfl (Nat.le_refl _) (Nat.le_refl _) (zext_rf _) (by first | exact Or.inl rfl | exact Or.inr rfl | omega) ?_
                have hx9 := zX_gen hK2 hd2 he2 (fun hd c => zDg_ok hd)
                exact hXc _ _ _ hx9.1 hx9.2 (fun _ => by omega) hX
          · refine z_il3 dX9_compares_65 ?_
            refine z_il5 dX9_compares_66 ?_
            refine z_icmp_ne (t := 75) dX9_compares_68 (by rfl) (fun ht68 => ?_) (fun hf68 => ?_)
            · refine z_iconst dX9_compares_75 (by decide) ?_
              refine z_goto (t := 111) dX9_compares_76 (by rfl) ?_
              refine z_zret dX9_compares_111 rfl (Nat.le_refl _) (Nat.le_refl _) (zext_rf _) (by first | exact Or.inl rfl | exact Or.inr rfl | omega) ?_
              have hx9 := zX_gen hK2 hd2 he2 (fun hd c => zDg_ok hd)
              exact hXc _ _ _ hx9.1 hx9.2 (fun _ => by omega) hX
            · refine z_iconst dX9_compares_71 (by decide) ?_
              refine z_goto (t := 111) dX9_compares_72 (by rfl) ?_
              refine z_zret dX9_compares_111 rfl (Nat.le_refl _) (Nat.le_refl _) (zext_rf _) (by first | exact Or.inl rfl | exact Or.inr rfl | omega) ?_
              have hx9 := zX_gen hK2 hd2 he2 (fun hd c => zDg_ok hd)
              exact hXc _ _ _ hx9.1 hx9.2 (fun _ => by omega) hX
      · have hz := zif0.mp hf34
        have e9 := zP5n hz hP
        subst e9
        refine z_al0 dX9_compares_37 (by first | decide | omega | assumption) ?_
        refine zcv0 dX9_compares_38 zkX9_166 ziX9_fails zsX9_fails (zkB hΓ rfl) (by decide) rfl (Nat.le_of_ble_eq_true rfl) (by decide) (by first | decide | omega) ⟨Nat.le_refl _, Nat.le_refl _⟩ (zM_fail hΓ hR (by omega) (by omega) (fun h hX _ => ?_))
        try simp only [zup_ap, zup_row, ne_eq, not_false_eq_true, zres, Int.toNat_natCast, reduceIte, Nat.reduceEqDiff, Nat.reduceAdd, and_self, and_true, true_and, and_false, false_and]
        refine z_zret dX9_compares_41 rfl (Nat.le_refl _) (Nat.le_refl _) (zext_rf _) (by first | exact Or.inl rfl | exact Or.inr rfl | omega) ?_
        exact hXc _ _ _ (Or.inl rfl) rfl (fun _ => by omega) hX
    · exfalso; exact hf18 hR.2.2.1
  · have hX1 := hX.2.1
    have hX2 := hX.2.2.1
    have hX3 := hX.2.2.2
    try simp only [zup_ap, zup_row, ne_eq, not_false_eq_true, zres, Int.toNat_natCast, reduceIte, Nat.reduceEqDiff, Nat.reduceAdd, and_self, and_true, true_and, and_false, false_and]
    skip
    refine z_is3 dX9_compares_12 (Nat.le_of_ble_eq_true rfl) rfl ?_
    refine z_al0 dX9_compares_13 (by first | decide | omega | assumption) ?_
    refine z_getI zfX9_160 dX9_compares_14 (zkB hΓ rfl) rfl ?_
    try simp only [zup_ap, zup_row, ne_eq, not_false_eq_true, zres, Int.toNat_natCast, reduceIte, Nat.reduceEqDiff, Nat.reduceAdd, and_self, and_true, true_and, and_false, false_and]
    refine z_iconst dX9_compares_17 (by decide) ?_
    refine z_icmp_eq (t := 23) dX9_compares_18 (by rfl) (fun ht18 => ?_) (fun hf18 => ?_)
    · exfalso; omega
    · skip
      refine z_iconst dX9_compares_21 (by decide) ?_
      refine z_zret dX9_compares_22 rfl (Nat.le_refl _) (Nat.le_refl _) (zext_rf _) (by first | exact Or.inl rfl | exact Or.inr rfl | omega) ?_
      have hx9 := zX_gen hK1 hd1 he1 (fun hd c => zDg_51 hd (Or.inl rfl))
      exact hXc _ _ _ hx9.1 hx9.2 (fun _ => by omega) hX
set_option maxRecDepth 4000 in
theorem zM_cmp1 {l : Launch} {Γ : zC} {h0 : zM} {R b n : Nat} {t : Nat → Int} (hΓ : zBase Γ) (hT : zTx Γ h0 R b n t) {f : Nat} (iS : ∀ g, g < f + 1 → zSm l Γ h0 n t (fun s => h0 93 s.toNat) g 3 0 mX9_sum []) : ∀ (D f2 p dep : Nat) (v0 : Int) (h : zM) (r : zRs) (Q : Option zV → zC → zM → Prop), f2 ≤ f → 2 * f + 9 ≤ D → zMS h0 h p dep → p ≤ 160 → dep ≤ 6 → zP t n f2 5 (zskip t n p) dep = some r →
  (∀ (p1 : Nat) (c1 : List Int) (pp : Nat) (v : Int) (h' : zM), r = (true, p1, c1) → zskip t n pp = p1 → pp ≤ 160 → (1 = 1 → v = 0 ∨ v = 1) → zMS h0 h' pp dep → (∀ s, zE (fun s => h0 93 s.toNat) c1 (v0 :: s) (v :: s)) → Q (some (zI v)) Γ h') →
  (∀ (p1 : Nat) (v : Int) (h' : zM), (r.1 = false ∨ zdg (zsg t n p1)) → r.2.1 = p1 → (1 = 1 → v = 0 ∨ v = 1) → zMX h0 h' p1 dep → Q (some (zI v)) Γ h') → zCT l mX9_compares D 0 0 Γ [zR 89, zI 1, zI v0] h Q := by
  intro D f2 p dep v0 h r Q hf2 hD hR hp hdep hP hN hXc
  have sk1 := fun k => zskip_b t n k
  have s0 := sk1 p
  have hn2 := hT.2.2.2.1
  obtain ⟨g, rfl⟩ : ∃ g, f2 = g + 1 := by cases f2 with | zero => cases hP | succ g => exact ⟨g, rfl⟩
  simp only [zP] at hP
  refine zCT_of (by decide) (Nat.le_of_ble_eq_true rfl) (ls := [some (zR 89), some (zI 1), some (zI v0), none, none, none]) rfl ?_
  refine z_il1 dX9_compares_0 ?_
  refine z_if_eq (t := 8) dX9_compares_1 (by rfl) (fun hx => absurd hx (by decide)) (fun _ => ?_)
  refine z_il2 dX9_compares_4 ?_
  refine z_goto (t := 12) dX9_compares_5 (by rfl) ?_
  refine z_is3 dX9_compares_12 (Nat.le_of_ble_eq_true rfl) rfl ?_
  refine z_al0 dX9_compares_13 (by first | decide | omega | assumption) ?_
  refine z_getI zfX9_160 dX9_compares_14 (zkB hΓ rfl) rfl ?_
  try simp only [zup_ap, zup_row, ne_eq, not_false_eq_true, zres, Int.toNat_natCast, reduceIte, Nat.reduceEqDiff, Nat.reduceAdd, and_self, and_true, true_and, and_false, false_and]
  refine z_iconst dX9_compares_17 (by decide) ?_
  refine z_icmp_eq (t := 23) dX9_compares_18 (by rfl) (fun ht18 => ?_) (fun hf18 => ?_)
  · refine z_al0 dX9_compares_23 (by first | decide | omega | assumption) ?_
    refine zcv0 dX9_compares_24 zkX9_170 ziX9_look zsX9_look (zkB hΓ rfl) (by decide) rfl (Nat.le_of_ble_eq_true rfl) (by decide) (by first | decide | omega) ⟨Nat.le_refl _, Nat.le_refl _⟩ (zM_look hΓ hT hR (by omega) (fun h hR _ => ?_))
    try simp only [zup_ap, zup_row, ne_eq, not_false_eq_true, zres, Int.toNat_natCast, reduceIte, Nat.reduceEqDiff, Nat.reduceAdd, and_self, and_true, true_and, and_false, false_and]
    refine z_is4 dX9_compares_27 (Nat.le_of_ble_eq_true rfl) rfl ?_
    refine z_il4 dX9_compares_29 ?_
    refine zcs1 dX9_compares_31 zkX9_213 ztX9_isSign (Nat.le_of_ble_eq_true rfl) (by decide) (by first | decide | omega) ⟨Nat.le_refl _, Nat.le_refl _⟩ (X9_isSign_ct (fun _ => ?_))
    try simp only [zup_ap, zup_row, ne_eq, not_false_eq_true, zres, Int.toNat_natCast, reduceIte, Nat.reduceEqDiff, Nat.reduceAdd, and_self, and_true, true_and, and_false, false_and]
    refine z_if_ne (t := 42) dX9_compares_34 (by rfl) (fun ht34 => ?_) (fun hf34 => ?_)
    · have hz := zif1.mp ht34
      rw [if_pos hz] at hP
      have l8 : zskip t n p < n := by rcases hz with h | h | h <;> exact zsg_lt h (by decide)
      have s8 := sk1 (zskip t n p + 1)
      have hz : _ ∨ _ ∨ _ := hz
      refine z_al0 dX9_compares_42 (by first | decide | omega | assumption) ?_
      have a1 := hR.2.1
      refine z_dup dX9_compares_43 rfl ?_
      refine z_getI zfX9_151 dX9_compares_44 (zkB hΓ rfl) rfl ?_
      try simp only [zup_ap, zup_row, ne_eq, not_false_eq_true, zres, Int.toNat_natCast, reduceIte, Nat.reduceEqDiff, Nat.reduceAdd, and_self, and_true, true_and, and_false, false_and]
      refine z_iconst dX9_compares_47 (by decide) ?_
      refine z_iadd dX9_compares_48 (by omega) ?_
      refine z_putI zfX9_151 dX9_compares_49 (zkB hΓ rfl) rfl rfl ?_
      have hR := zMS_inc hR
      refine z_al0 dX9_compares_52 (by first | decide | omega | assumption) ?_
      obtain ⟨r2, hP2, hK2⟩ := zbd_e hP
      refine zcv0 dX9_compares_53 zkX9_193 ziX9_sum zsX9_sum (zkB hΓ rfl) (by decide) rfl (Nat.le_of_ble_eq_true rfl) (by decide) (by first | decide | omega) ⟨Nat.le_refl _, Nat.le_refl _⟩ (iS g (by omega) (2 * g + 8) _ _ _ r2 _ (Nat.le_refl _) hR (by omega) (by omega) hP2 (fun p2 c2 pp2 v2 h hr2 hz2 hpp2 hb2 hR hE2 _ => ?_) (fun p2 v2 h hd2 he2 hb2 hX _ => ?_))
      · subst hr2
        have hP := zN_gen hK2 rfl
        try dsimp only at hP
        have b2 := zP_c hP2 (by decide)
        try simp only [zup_ap, zup_row, ne_eq, not_false_eq_true, zres, Int.toNat_natCast, reduceIte, Nat.reduceEqDiff, Nat.reduceAdd, and_self, and_true, true_and, and_false, false_and]
        skip
        refine z_is5 dX9_compares_56 (Nat.le_of_ble_eq_true rfl) rfl ?_
        refine z_il4 dX9_compares_58 ?_
        refine z_bipush (x := 61) dX9_compares_60 (by rfl) (by decide) ?_
        refine z_icmp_ne (t := 79) dX9_compares_62 (by rfl) (fun ht62 => ?_) (fun hf62 => ?_)
        · refine z_il4 dX9_compares_79 ?_
          refine z_bipush (x := 60) dX9_compares_81 (by rfl) (by decide) ?_
          refine z_icmp_ne (t := 100) dX9_compares_83 (by rfl) (fun ht83 => ?_) (fun hf83 => ?_)
          · refine z_il3 dX9_compares_100 ?_
            refine z_il5 dX9_compares_101 ?_
            refine z_icmp_le (t := 110) dX9_compares_103 (by rfl) (fun ht103 => ?_) (fun hf103 => ?_)
            · refine z_iconst dX9_compares_110 (by decide) ?_
              refine z_zret dX9_compares_111 rfl (Nat.le_refl _) (Nat.le_refl _) (zext_rf _) (by first | exact Or.inl rfl | exact Or.inr rfl | omega) ?_
              cases hP
              refine hN _ _ _ _ _ rfl hz2 hpp2 (fun _ => by omega) hR (fun s => ?_)
              refine zE_app (hE2 _) ?_
              first
              | exact zop_c1 (by omega)
              | exact zop_c0 (by omega)
            · refine z_iconst dX9_compares_106 (by decide) ?_
              refine z_goto (t := 111) dX9_compares_107 (by rfl) ?_
              refine z_zret dX9_compares_111 rfl (Nat.le_refl _) (Nat.le_refl _) (zext_rf _) (by first | exact Or.inl rfl | exact Or.inr rfl | omega) ?_
              cases hP
              refine hN _ _ _ _ _ rfl hz2 hpp2 (fun _ => by omega) hR (fun s => ?_)
              refine zE_app (hE2 _) ?_
              first
              | exact zop_c1 (by omega)
              | exact zop_c0 (by omega)
          · refine z_il3 dX9_compares_86 ?_
            refine z_il5 dX9_compares_87 ?_
            refine z_icmp_ge (t := 96) dX9_compares_89 (by rfl) (fun ht89 => ?_) (fun hf89 => ?_)
            · refine z_iconst dX9_compares_96 (by decide) ?_
              refine z_goto (t := 111) dX9_compares_97 (by rfl) ?_
              refine z_zret dX9_compares_111 rfl (Nat.le_refl _) (Nat.le_refl _) (zext_rf _) (by first | exact Or.inl rfl | exact Or.inr rfl | omega) ?_
              cases hP
              refine hN _ _ _ _ _ rfl hz2 hpp2 (fun _ => by omega) hR (fun s => ?_)
              refine zE_app (hE2 _) ?_
              first
              | exact zop_c1 (by omega)
              | exact zop_c0 (by omega)
            · refine z_iconst dX9_compares_92 (by decide) ?_
              refine z_goto (t := 111) dX9_compares_93 (by rfl) ?_
              refine z_zret dX9_compares_111 rfl (Nat.le_refl _) (Nat.le_refl _) (zext_rf _) (by first | exact Or.inl rfl | exact Or.inr rfl | omega) ?_
              cases hP
              refine hN _ _ _ _ _ rfl hz2 hpp2 (fun _ => by omega) hR (fun s => ?_)
              refine zE_app (hE2 _) ?_
              first
              | exact zop_c1 (by omega)
              | exact zop_c0 (by omega)
        · refine z_il3 dX9_compares_65 ?_
          refine z_il5 dX9_compares_66 ?_
          refine z_icmp_ne (t := 75) dX9_compares_68 (by rfl) (fun ht68 => ?_) (fun hf68 => ?_)
          · refine z_iconst dX9_compares_75 (by decide) ?_
            refine z_goto (t := 111) dX9_compares_76 (by rfl) ?_
            refine z_zret dX9_compares_111 rfl (Nat.le_refl _) (Nat.le_refl _) (zext_rf _) (by first | exact Or.inl rfl | exact Or.inr rfl | omega) ?_
            cases hP
            refine hN _ _ _ _ _ rfl hz2 hpp2 (fun _ => by omega) hR (fun s => ?_)
            refine zE_app (hE2 _) ?_
            first
            | exact zop_c1 (by omega)
            | exact zop_c0 (by omega)
          · refine z_iconst dX9_compares_71 (by decide) ?_
            refine z_goto (t := 111) dX9_compares_72 (by rfl) ?_
            refine z_zret dX9_compares_111 rfl (Nat.le_refl _) (Nat.le_refl _) (zext_rf _) (by first | exact Or.inl rfl | exact Or.inr rfl | omega) ?_
            cases hP
            refine hN _ _ _ _ _ rfl hz2 hpp2 (fun _ => by omega) hR (fun s => ?_)
            refine zE_app (hE2 _) ?_
            first
            | exact zop_c1 (by omega)
            | exact zop_c0 (by omega)
      · have hX1 := hX.2.1
        have hX2 := hX.2.2.1
        have hX3 := hX.2.2.2
        try simp only [zup_ap, zup_row, ne_eq, not_false_eq_true, zres, Int.toNat_natCast, reduceIte, Nat.reduceEqDiff, Nat.reduceAdd, and_self, and_true, true_and, and_false, false_and]
        skip
        refine z_is5 dX9_compares_56 (Nat.le_of_ble_eq_true rfl) rfl ?_
        refine z_il4 dX9_compares_58 ?_
        refine z_bipush (x := 61) dX9_compares_60 (by rfl) (by decide) ?_
        refine z_icmp_ne (t := 79) dX9_compares_62 (by rfl) (fun ht62 => ?_) (fun hf62 => ?_)
        · refine z_il4 dX9_compares_79 ?_
          refine z_bipush (x := 60) dX9_compares_81 (by rfl) (by decide) ?_
          refine z_icmp_ne (t := 100) dX9_compares_83 (by rfl) (fun ht83 => ?_) (fun hf83 => ?_)
          · refine z_il3 dX9_compares_100 ?_
            refine z_il5 dX9_compares_101 ?_
            refine z_icmp_le (t := 110) dX9_compares_103 (by rfl) (fun ht103 => ?_) (fun hf103 => ?_)
            · refine z_iconst dX9_compares_110 (by decide) ?_
              refine z_zret dX9_compares_111 rfl (Nat.le_refl _) (Nat.le_refl _) (zext_rf _) (by first | exact Or.inl rfl | exact Or.inr rfl | omega) ?_
              have hx9 := zX_gen hK2 hd2 he2 (fun hd c => zDg_ok hd)
              exact hXc _ _ _ hx9.1 hx9.2 (fun _ => by omega) hX
            · refine z_iconst dX9_compares_106 (by decide) ?_
              refine z_goto (t := 111) dX9_compares_107 (by rfl) ?_
              refine z_zret dX9_compares_111 rfl (Nat.le_refl _) (Nat.le_refl _) (zext_rf _) (by first | exact Or.inl rfl | exact Or.inr rfl | omega) ?_
              have hx9 := zX_gen hK2 hd2 he2 (fun hd c => zDg_ok hd)
              exact hXc _ _ _ hx9.1 hx9.2 (fun _ => by omega) hX
          · refine z_il3 dX9_compares_86 ?_
            refine z_il5 dX9_compares_87 ?_
            refine z_icmp_ge (t := 96) dX9_compares_89 (by rfl) (fun ht89 => ?_) (fun hf89 => ?_)
            · refine z_iconst dX9_compares_96 (by decide) ?_
              refine z_goto (t := 111) dX9_compares_97 (by rfl) ?_
              refine z_zret dX9_compares_111 rfl (Nat.le_refl _) (Nat.le_refl _) (zext_rf _) (by first | exact Or.inl rfl | exact Or.inr rfl | omega) ?_
              have hx9 := zX_gen hK2 hd2 he2 (fun hd c => zDg_ok hd)
              exact hXc _ _ _ hx9.1 hx9.2 (fun _ => by omega) hX
            · refine z_iconst dX9_compares_92 (by decide) ?_
              refine z_goto (t := 111) dX9_compares_93 (by rfl) ?_
              refine z_zret dX9_compares_111 rfl (Nat.le_refl _) (Nat.le_refl _) (zext_rf _) (by first | exact Or.inl rfl | exact Or.inr rfl | omega) ?_
              have hx9 := zX_gen hK2 hd2 he2 (fun hd c => zDg_ok hd)
              exact hXc _ _ _ hx9.1 hx9.2 (fun _ => by omega) hX
        · refine z_il3 dX9_compares_65 ?_
          refine z_il5 dX9_compares_66 ?_
          refine z_icmp_ne (t := 75) dX9_compares_68 (by rfl) (fun ht68 => ?_) (fun hf68 => ?_)
          · refine z_iconst dX9_compares_75 (by decide) ?_
            refine z_goto (t := 111) dX9_compares_76 (by rfl) ?_
            refine z_zret dX9_compares_111 rfl (Nat.le_refl _) (Nat.le_refl _) (zext_rf _) (by first | exact Or.inl rfl | exact Or.inr rfl | omega) ?_
            have hx9 := zX_gen hK2 hd2 he2 (fun hd c => zDg_ok hd)
            exact hXc _ _ _ hx9.1 hx9.2 (fun _ => by omega) hX
          · refine z_iconst dX9_compares_71 (by decide) ?_
            refine z_goto (t := 111) dX9_compares_72 (by rfl) ?_
            refine z_zret dX9_compares_111 rfl (Nat.le_refl _) (Nat.le_refl _) (zext_rf _) (by first | exact Or.inl rfl | exact Or.inr rfl | omega) ?_
            have hx9 := zX_gen hK2 hd2 he2 (fun hd c => zDg_ok hd)
            exact hXc _ _ _ hx9.1 hx9.2 (fun _ => by omega) hX
    · have hz := zif0.mp hf34
      rw [if_neg hz] at hP
      refine z_al0 dX9_compares_37 (by first | decide | omega | assumption) ?_
      refine zcv0 dX9_compares_38 zkX9_166 ziX9_fails zsX9_fails (zkB hΓ rfl) (by decide) rfl (Nat.le_of_ble_eq_true rfl) (by decide) (by first | decide | omega) ⟨Nat.le_refl _, Nat.le_refl _⟩ (zM_fail hΓ hR (by omega) (by omega) (fun h hX _ => ?_))
      try simp only [zup_ap, zup_row, ne_eq, not_false_eq_true, zres, Int.toNat_natCast, reduceIte, Nat.reduceEqDiff, Nat.reduceAdd, and_self, and_true, true_and, and_false, false_and]
      refine z_zret dX9_compares_41 rfl (Nat.le_refl _) (Nat.le_refl _) (zext_rf _) (by first | exact Or.inl rfl | exact Or.inr rfl | omega) ?_
      cases hP
      exact hXc _ _ _ (Or.inl rfl) rfl (fun _ => by omega) hX
  · exfalso; exact hf18 hR.2.2.1
set_option maxRecDepth 4000 in
theorem zM_unit {l : Launch} {Γ : zC} {h0 : zM} {R b n : Nat} {t : Nat → Int} (hΓ : zBase Γ) (hT : zTx Γ h0 R b n t) {f : Nat} (iS : ∀ g, g < f + 1 → zSm l Γ h0 n t (fun s => h0 93 s.toNat) g 3 0 mX9_sum []) (iU : ∀ g, g < f + 1 → zSm l Γ h0 n t (fun s => h0 93 s.toNat) g 6 1 mX9_unit []) (iC : ∀ g, g < f + 1 → zSm l Γ h0 n t (fun s => h0 93 s.toNat) g 10 1 mX9_condition [zI 0, zI 0]) : zSm l Γ h0 n t (fun s => h0 93 s.toNat) (f + 1) 6 1 mX9_unit [] := by
  intro D p dep h r Q hD hR hp hdep hP hN hXc
  have sk1 := fun k => zskip_b t n k
  have s0 := sk1 p
  have hn2 := hT.2.2.2.1
  simp only [zP] at hP
  refine zCT_of (by decide) (Nat.le_of_ble_eq_true rfl) (ls := [some (zR 89), none, none]) rfl ?_
  refine z_al0 dX9_unit_0 (by first | decide | omega | assumption) ?_
  refine zcv0 dX9_unit_1 zkX9_170 ziX9_look zsX9_look (zkB hΓ rfl) (by decide) rfl (Nat.le_of_ble_eq_true rfl) (by decide) (by first | decide | omega) ⟨Nat.le_refl _, Nat.le_refl _⟩ (zM_look hΓ hT hR (by omega) (fun h hR _ => ?_))
  try simp only [zup_ap, zup_row, ne_eq, not_false_eq_true, zres, Int.toNat_natCast, reduceIte, Nat.reduceEqDiff, Nat.reduceAdd, and_self, and_true, true_and, and_false, false_and]
  refine z_is1 dX9_unit_4 (Nat.le_of_ble_eq_true rfl) rfl ?_
  refine z_il1 dX9_unit_5 ?_
  refine z_bipush (x := 33) dX9_unit_6 (by rfl) (by decide) ?_
  refine z_icmp_ne (t := 45) dX9_unit_8 (by rfl) (fun ht8 => ?_) (fun hf8 => ?_)
  · rw [if_neg ht8] at hP
    refine z_il1 dX9_unit_45 ?_
    refine z_bipush (x := 40) dX9_unit_46 (by rfl) (by decide) ?_
    refine z_icmp_ne (t := 90) dX9_unit_48 (by rfl) (fun ht48 => ?_) (fun hf48 => ?_)
    · rw [if_neg ht48] at hP
      refine z_al0 dX9_unit_90 (by first | decide | omega | assumption) ?_
      refine z_iconst dX9_unit_91 (by decide) ?_
      refine z_iconst dX9_unit_92 (by decide) ?_
      refine zcv2 dX9_unit_93 zkX9_223 ziX9_compares zsX9_compares (zkB hΓ rfl) (by decide) rfl (Nat.le_of_ble_eq_true rfl) (by decide) (by first | decide | omega) ⟨Nat.le_refl _, Nat.le_refl _⟩ (zM_cmp0 (f := f) hΓ hT (fun g hg => iS g (by omega)) (2 * f + 9) f f _ dep _ r _ (Nat.le_refl _) (Nat.le_refl _) (Nat.le_refl _) hR (by omega) hdep (by rw [zskip_id]; exact hP) (fun p1 c1 pp1 v1 h hr1 hz1 hpp1 hb1 hR hE1 _ => ?_) (fun p1 v1 h hd1 he1 hb1 hX _ => ?_))
      · try simp only [zup_ap, zup_row, ne_eq, not_false_eq_true, zres, Int.toNat_natCast, reduceIte, Nat.reduceEqDiff, Nat.reduceAdd, and_self, and_true, true_and, and_false, false_and]
        skip
        refine z_zret dX9_unit_96 rfl (Nat.le_refl _) (Nat.le_refl _) (zext_rf _) (by exact hb1 rfl) ?_
        exact hN _ _ _ _ _ hr1 hz1 hpp1 hb1 hR hE1
      · try simp only [zup_ap, zup_row, ne_eq, not_false_eq_true, zres, Int.toNat_natCast, reduceIte, Nat.reduceEqDiff, Nat.reduceAdd, and_self, and_true, true_and, and_false, false_and]
        skip
        refine z_zret dX9_unit_96 rfl (Nat.le_refl _) (Nat.le_refl _) (zext_rf _) (by exact hb1 rfl) ?_
        exact hXc _ _ _ hd1 he1 hb1 hX
    · rw [if_pos hf48] at hP
      have l0 := zsg_lt hf48 (by decide)
      refine z_al0 dX9_unit_51 (by first | decide | omega | assumption) ?_
      refine zcv0 dX9_unit_52 zkX9_190 ziX9_goesIn zsX9_goesIn (zkB hΓ rfl) (by decide) rfl (Nat.le_of_ble_eq_true rfl) (by decide) (by first | decide | omega) ⟨Nat.le_refl _, Nat.le_refl _⟩ (zM_goes hΓ hR hdep (by omega) (fun hd h hX _ => ?_) (fun hd h hR _ => ?_))
      · rw [if_neg (by omega)] at hP
        try simp only [zup_ap, zup_row, ne_eq, not_false_eq_true, zres, Int.toNat_natCast, reduceIte, Nat.reduceEqDiff, Nat.reduceAdd, and_self, and_true, true_and, and_false, false_and]
        refine z_if_ne (t := 60) dX9_unit_55 (by rfl) (fun hx => absurd hx (by decide)) (fun _ => ?_)
        refine z_iconst dX9_unit_58 (by decide) ?_
        refine z_zret dX9_unit_59 rfl (Nat.le_refl _) (Nat.le_refl _) (zext_rf _) (by first | exact Or.inl rfl | exact Or.inr rfl | omega) ?_
        cases hP
        exact hXc _ _ _ (Or.inl rfl) rfl (fun _ => by omega) hX
      · rw [if_pos hd] at hP
        try simp only [zup_ap, zup_row, ne_eq, not_false_eq_true, zres, Int.toNat_natCast, reduceIte, Nat.reduceEqDiff, Nat.reduceAdd, and_self, and_true, true_and, and_false, false_and]
        refine z_if_ne (t := 60) dX9_unit_55 (by rfl) (fun _ => ?_) (fun hx => absurd hx (by decide))
        refine z_al0 dX9_unit_60 (by first | decide | omega | assumption) ?_
        refine z_iconst dX9_unit_61 (by decide) ?_
        refine z_iconst dX9_unit_62 (by decide) ?_
        obtain ⟨r1, hP1, hK1⟩ := zbd_e hP
        refine zcv2 dX9_unit_63 zkX9_219 ziX9_condition zsX9_condition (zkB hΓ rfl) (by decide) rfl (Nat.le_of_ble_eq_true rfl) (by decide) (by first | decide | omega) ⟨Nat.le_refl _, Nat.le_refl _⟩ (iC f (by omega) (2 * f + 8) _ (dep + 1) _ r1 _ (Nat.le_refl _) hR (by omega) (by omega) hP1 (fun p1 c1 pp1 v1 h hr1 hz1 hpp1 hb1 hR hE1 _ => ?_) (fun p1 v1 h hd1 he1 hb1 hX _ => ?_))
        · subst hr1
          have hP := zN_gen hK1 rfl
          try dsimp only at hP
          have b1 := zP_c hP1 (by decide)
          try simp only [zup_ap, zup_row, ne_eq, not_false_eq_true, zres, Int.toNat_natCast, reduceIte, Nat.reduceEqDiff, Nat.reduceAdd, and_self, and_true, true_and, and_false, false_and]
          skip
          refine z_is2 dX9_unit_66 (Nat.le_of_ble_eq_true rfl) rfl ?_
          refine z_al0 dX9_unit_67 (by first | decide | omega | assumption) ?_
          refine z_bipush (x := 41) dX9_unit_68 (by rfl) (by decide) ?_
          refine zcv1 dX9_unit_70 zkX9_196 ziX9_takes zsX9_takes (zkB hΓ rfl) (by decide) rfl (Nat.le_of_ble_eq_true rfl) (by decide) (by first | decide | omega) ⟨Nat.le_refl _, Nat.le_refl _⟩ (zM_takes hΓ hT hR (by omega) (by omega) (fun hc h hX _ => ?_) (fun hc h hR _ => ?_))
          · rw [hz1] at hc hX
            rw [if_neg hc] at hP
            try simp only [zup_ap, zup_row, ne_eq, not_false_eq_true, zres, Int.toNat_natCast, reduceIte, Nat.reduceEqDiff, Nat.reduceAdd, and_self, and_true, true_and, and_false, false_and]
            refine z_if_ne (t := 78) dX9_unit_73 (by rfl) (fun hx => absurd hx (by decide)) (fun _ => ?_)
            refine z_iconst dX9_unit_76 (by decide) ?_
            refine z_zret dX9_unit_77 rfl (Nat.le_refl _) (Nat.le_refl _) (zext_rf _) (by first | exact Or.inl rfl | exact Or.inr rfl | omega) ?_
            cases hP
            exact hXc _ _ _ (Or.inl rfl) rfl (fun _ => by omega) (zMX_le hX)
          · rw [hz1] at hc hR
            rw [if_pos hc] at hP
            have l2 := zsg_lt hc (by decide)
            try simp only [zup_ap, zup_row, ne_eq, not_false_eq_true, zres, Int.toNat_natCast, reduceIte, Nat.reduceEqDiff, Nat.reduceAdd, and_self, and_true, true_and, and_false, false_and]
            refine z_if_ne (t := 78) dX9_unit_73 (by rfl) (fun _ => ?_) (fun hx => absurd hx (by decide))
            refine z_al0 dX9_unit_78 (by first | decide | omega | assumption) ?_
            have a3 := hR.2.2.2
            refine z_dup dX9_unit_79 rfl ?_
            refine z_getI zfX9_163 dX9_unit_80 (zkB hΓ rfl) rfl ?_
            try simp only [zup_ap, zup_row, ne_eq, not_false_eq_true, zres, Int.toNat_natCast, reduceIte, Nat.reduceEqDiff, Nat.reduceAdd, and_self, and_true, true_and, and_false, false_and]
            refine z_iconst dX9_unit_83 (by decide) ?_
            refine z_isub dX9_unit_84 (by omega) ?_
            refine z_putI zfX9_163 dX9_unit_85 (zkB hΓ rfl) rfl rfl ?_
            have hR := zMS_dec hR
            refine z_il2 dX9_unit_88 ?_
            refine z_zret dX9_unit_89 rfl (Nat.le_refl _) (Nat.le_refl _) (zext_rf _) (by exact hb1 rfl) ?_
            cases hP
            exact hN _ _ _ _ _ rfl rfl (by omega) hb1 hR hE1
        · have hX1 := hX.2.1
          have hX2 := hX.2.2.1
          have hX3 := hX.2.2.2
          try simp only [zup_ap, zup_row, ne_eq, not_false_eq_true, zres, Int.toNat_natCast, reduceIte, Nat.reduceEqDiff, Nat.reduceAdd, and_self, and_true, true_and, and_false, false_and]
          skip
          refine z_is2 dX9_unit_66 (Nat.le_of_ble_eq_true rfl) rfl ?_
          refine z_al0 dX9_unit_67 (by first | decide | omega | assumption) ?_
          refine z_bipush (x := 41) dX9_unit_68 (by rfl) (by decide) ?_
          refine zcv1 dX9_unit_70 zkX9_196 ziX9_takes zsX9_takes (zkB hΓ rfl) (by decide) rfl (Nat.le_of_ble_eq_true rfl) (by decide) (by first | decide | omega) ⟨Nat.le_refl _, Nat.le_refl _⟩ (zM_takesX hΓ hX (fun _ => ?_))
          · try simp only [zup_ap, zup_row, ne_eq, not_false_eq_true, zres, Int.toNat_natCast, reduceIte, Nat.reduceEqDiff, Nat.reduceAdd, and_self, and_true, true_and, and_false, false_and]
            refine z_if_ne (t := 78) dX9_unit_73 (by rfl) (fun hx => absurd hx (by decide)) (fun _ => ?_)
            refine z_iconst dX9_unit_76 (by decide) ?_
            refine z_zret dX9_unit_77 rfl (Nat.le_refl _) (Nat.le_refl _) (zext_rf _) (by first | exact Or.inl rfl | exact Or.inr rfl | omega) ?_
            have hx9 := zX_gen hK1 hd1 he1 (fun hd c => zDg_if hd (by decide))
            exact hXc _ _ _ hx9.1 hx9.2 (fun _ => by omega) (zMX_le hX)
  · rw [if_pos hf8] at hP
    have l0 := zsg_lt hf8 (by decide)
    refine z_al0 dX9_unit_11 (by first | decide | omega | assumption) ?_
    refine zcv0 dX9_unit_12 zkX9_190 ziX9_goesIn zsX9_goesIn (zkB hΓ rfl) (by decide) rfl (Nat.le_of_ble_eq_true rfl) (by decide) (by first | decide | omega) ⟨Nat.le_refl _, Nat.le_refl _⟩ (zM_goes hΓ hR hdep (by omega) (fun hd h hX _ => ?_) (fun hd h hR _ => ?_))
    · rw [if_neg (by omega)] at hP
      try simp only [zup_ap, zup_row, ne_eq, not_false_eq_true, zres, Int.toNat_natCast, reduceIte, Nat.reduceEqDiff, Nat.reduceAdd, and_self, and_true, true_and, and_false, false_and]
      refine z_if_ne (t := 20) dX9_unit_15 (by rfl) (fun hx => absurd hx (by decide)) (fun _ => ?_)
      refine z_iconst dX9_unit_18 (by decide) ?_
      refine z_zret dX9_unit_19 rfl (Nat.le_refl _) (Nat.le_refl _) (zext_rf _) (by first | exact Or.inl rfl | exact Or.inr rfl | omega) ?_
      cases hP
      exact hXc _ _ _ (Or.inl rfl) rfl (fun _ => by omega) hX
    · rw [if_pos hd] at hP
      try simp only [zup_ap, zup_row, ne_eq, not_false_eq_true, zres, Int.toNat_natCast, reduceIte, Nat.reduceEqDiff, Nat.reduceAdd, and_self, and_true, true_and, and_false, false_and]
      refine z_if_ne (t := 20) dX9_unit_15 (by rfl) (fun _ => ?_) (fun hx => absurd hx (by decide))
      refine z_al0 dX9_unit_20 (by first | decide | omega | assumption) ?_
      obtain ⟨r1, hP1, hK1⟩ := zbd_e hP
      refine zcv0 dX9_unit_21 zkX9_216 ziX9_unit zsX9_unit (zkB hΓ rfl) (by decide) rfl (Nat.le_of_ble_eq_true rfl) (by decide) (by first | decide | omega) ⟨Nat.le_refl _, Nat.le_refl _⟩ (iU f (by omega) (2 * f + 8) _ (dep + 1) _ r1 _ (Nat.le_refl _) hR (by omega) (by omega) hP1 (fun p1 c1 pp1 v1 h hr1 hz1 hpp1 hb1 hR hE1 _ => ?_) (fun p1 v1 h hd1 he1 hb1 hX _ => ?_))
      · subst hr1
        have hP := zN_gen hK1 rfl
        try dsimp only at hP
        have b1 := zP_c hP1 (by decide)
        try simp only [zup_ap, zup_row, ne_eq, not_false_eq_true, zres, Int.toNat_natCast, reduceIte, Nat.reduceEqDiff, Nat.reduceAdd, and_self, and_true, true_and, and_false, false_and]
        skip
        refine z_is2 dX9_unit_24 (Nat.le_of_ble_eq_true rfl) rfl ?_
        refine z_al0 dX9_unit_25 (by first | decide | omega | assumption) ?_
        have a3 := hR.2.2.2
        refine z_dup dX9_unit_26 rfl ?_
        refine z_getI zfX9_163 dX9_unit_27 (zkB hΓ rfl) rfl ?_
        try simp only [zup_ap, zup_row, ne_eq, not_false_eq_true, zres, Int.toNat_natCast, reduceIte, Nat.reduceEqDiff, Nat.reduceAdd, and_self, and_true, true_and, and_false, false_and]
        refine z_iconst dX9_unit_30 (by decide) ?_
        refine z_isub dX9_unit_31 (by omega) ?_
        refine z_putI zfX9_163 dX9_unit_32 (zkB hΓ rfl) rfl rfl ?_
        have hR := zMS_dec hR
        refine z_il2 dX9_unit_35 ?_
        refine z_if_ne (t := 43) dX9_unit_36 (by rfl) (fun ht36 => ?_) (fun hf36 => ?_)
        · refine z_iconst dX9_unit_43 (by decide) ?_
          refine z_zret dX9_unit_44 rfl (Nat.le_refl _) (Nat.le_refl _) (zext_rf _) (by first | exact Or.inl rfl | exact Or.inr rfl | omega) ?_
          cases hP
          have hb1 := hb1 rfl
          refine hN _ _ _ _ _ rfl hz1 hpp1 (fun _ => by omega) hR (fun s => ?_)
          refine zE_app (hE1 _) ?_
          first
          | exact zop_n1 (by omega)
          | exact zop_n0 (by omega)
        · refine z_iconst dX9_unit_39 (by decide) ?_
          refine z_goto (t := 44) dX9_unit_40 (by rfl) ?_
          refine z_zret dX9_unit_44 rfl (Nat.le_refl _) (Nat.le_refl _) (zext_rf _) (by first | exact Or.inl rfl | exact Or.inr rfl | omega) ?_
          cases hP
          have hb1 := hb1 rfl
          refine hN _ _ _ _ _ rfl hz1 hpp1 (fun _ => by omega) hR (fun s => ?_)
          refine zE_app (hE1 _) ?_
          first
          | exact zop_n1 (by omega)
          | exact zop_n0 (by omega)
      · have hX1 := hX.2.1
        have hX2 := hX.2.2.1
        have hX3 := hX.2.2.2
        try simp only [zup_ap, zup_row, ne_eq, not_false_eq_true, zres, Int.toNat_natCast, reduceIte, Nat.reduceEqDiff, Nat.reduceAdd, and_self, and_true, true_and, and_false, false_and]
        skip
        refine z_is2 dX9_unit_24 (Nat.le_of_ble_eq_true rfl) rfl ?_
        refine z_al0 dX9_unit_25 (by first | decide | omega | assumption) ?_
        skip
        refine z_dup dX9_unit_26 rfl ?_
        refine z_getI zfX9_163 dX9_unit_27 (zkB hΓ rfl) rfl ?_
        try simp only [zup_ap, zup_row, ne_eq, not_false_eq_true, zres, Int.toNat_natCast, reduceIte, Nat.reduceEqDiff, Nat.reduceAdd, and_self, and_true, true_and, and_false, false_and]
        refine z_iconst dX9_unit_30 (by decide) ?_
        refine z_isub dX9_unit_31 (by omega) ?_
        refine z_putI zfX9_163 dX9_unit_32 (zkB hΓ rfl) rfl rfl ?_
        have hX := zMX_dec hX
        refine z_il2 dX9_unit_35 ?_
        refine z_if_ne (t := 43) dX9_unit_36 (by rfl) (fun ht36 => ?_) (fun hf36 => ?_)
        · refine z_iconst dX9_unit_43 (by decide) ?_
          refine z_zret dX9_unit_44 rfl (Nat.le_refl _) (Nat.le_refl _) (zext_rf _) (by first | exact Or.inl rfl | exact Or.inr rfl | omega) ?_
          have hx9 := zX_gen hK1 hd1 he1 (fun hd c => zDg_ok hd)
          exact hXc _ _ _ hx9.1 hx9.2 (fun _ => by omega) hX
        · refine z_iconst dX9_unit_39 (by decide) ?_
          refine z_goto (t := 44) dX9_unit_40 (by rfl) ?_
          refine z_zret dX9_unit_44 rfl (Nat.le_refl _) (Nat.le_refl _) (zext_rf _) (by first | exact Or.inl rfl | exact Or.inr rfl | omega) ?_
          have hx9 := zX_gen hK1 hd1 he1 (fun hd c => zDg_ok hd)
          exact hXc _ _ _ hx9.1 hx9.2 (fun _ => by omega) hX
set_option maxRecDepth 4000 in
theorem zM_pl {l : Launch} {Γ : zC} {h0 : zM} {R b n : Nat} {t : Nat → Int} (hΓ : zBase Γ) (hT : zTx Γ h0 R b n t) (G D : Nat) (hD : 2 * G + 8 ≤ D) (iU : ∀ g, g < G → zSm l Γ h0 n t (fun s => h0 93 s.toNat) g 6 1 mX9_unit []) : ∀ g, g ≤ G → ∀ (p dep : Nat) (v0 : Int) (h : zM) (r : zRs) (Q : Option zV → zC → zM → Prop) (w1 w2 : Int) (w3 : Option zV), (v0 = 0 ∨ v0 = 1) → zMS h0 h p dep → p ≤ 160 → dep ≤ 6 → zP t n g 7 (zskip t n p) dep = some r →
  (∀ (p1 : Nat) (c1 : List Int) (pp : Nat) (v : Int) (h' : zM), r = (true, p1, c1) → zskip t n pp = p1 → pp ≤ 160 → (1 = 1 → v = 0 ∨ v = 1) → zMS h0 h' pp dep → (∀ s, zE (fun s => h0 93 s.toNat) c1 (v0 :: s) (v :: s)) → Q (some (zI v)) Γ h') →
  (∀ (p1 : Nat) (v : Int) (h' : zM), (r.1 = false ∨ zdg (zsg t n p1)) → r.2.1 = p1 → (1 = 1 → v = 0 ∨ v = 1) → zMX h0 h' p1 dep → Q (some (zI v)) Γ h') → zG (zFn l mX9_part D 0 0 Γ Q) 0 0 Γ h 18 [some (zR 89), some (zI w1), some (zI w2), some (zI v0), w3] [] := by
  intro g
  induction g with
  | zero => intro _ p dep v0 h r Q w1 w2 w3 hv0 hR hp hdep hP; cases hP
  | succ g ih =>
    intro hg p dep v0 h r Q w1 w2 w3 hv0 hR hp hdep hP hN hXc
    have sk1 := fun k => zskip_b t n k
    have s0 := sk1 p
    have hn2 := hT.2.2.2.1
    have a2 := hR.2.2.1
    simp only [zP] at hP
    refine z_al0 dX9_part_18 (by first | decide | omega | assumption) ?_
    refine z_getI zfX9_160 dX9_part_19 (zkB hΓ rfl) rfl ?_
    try simp only [zup_ap, zup_row, ne_eq, not_false_eq_true, zres, Int.toNat_natCast, reduceIte, Nat.reduceEqDiff, Nat.reduceAdd, and_self, and_true, true_and, and_false, false_and]
    refine z_iconst dX9_part_22 (by decide) ?_
    refine z_icmp_ne (t := 69) dX9_part_23 (by rfl) (fun ht23 => ?_) (fun hf23 => ?_)
    · exfalso; omega
    · refine z_al0 dX9_part_26 (by first | decide | omega | assumption) ?_
      refine zcv0 dX9_part_27 zkX9_170 ziX9_look zsX9_look (zkB hΓ rfl) (by decide) rfl (Nat.le_of_ble_eq_true rfl) (by decide) (by first | decide | omega) ⟨Nat.le_refl _, Nat.le_refl _⟩ (zM_look hΓ hT hR (by omega) (fun h hR _ => ?_))
      try simp only [zup_ap, zup_row, ne_eq, not_false_eq_true, zres, Int.toNat_natCast, reduceIte, Nat.reduceEqDiff, Nat.reduceAdd, and_self, and_true, true_and, and_false, false_and]
      refine z_bipush (x := 38) dX9_part_30 (by rfl) (by decide) ?_
      refine z_icmp_ne (t := 69) dX9_part_32 (by rfl) (fun ht32 => ?_) (fun hf32 => ?_)
      · rw [if_neg ht32] at hP
        refine z_il3 dX9_part_69 ?_
        refine z_zret dX9_part_70 rfl (Nat.le_refl _) (Nat.le_refl _) (zext_rf _) (by first | exact hv0 | exact Or.inl rfl | exact Or.inr rfl | omega) ?_
        cases hP
        exact hN _ _ (zskip t n p) _ _ rfl (zskip_id t n p) (by omega) (fun _ => hv0) hR (fun s => zE_nil _ _)
      · rw [if_pos hf32] at hP
        have l0 := zsg_lt hf32 (by decide)
        refine z_al0 dX9_part_35 (by first | decide | omega | assumption) ?_
        have a1 := hR.2.1
        refine z_dup dX9_part_36 rfl ?_
        refine z_getI zfX9_151 dX9_part_37 (zkB hΓ rfl) rfl ?_
        try simp only [zup_ap, zup_row, ne_eq, not_false_eq_true, zres, Int.toNat_natCast, reduceIte, Nat.reduceEqDiff, Nat.reduceAdd, and_self, and_true, true_and, and_false, false_and]
        refine z_iconst dX9_part_40 (by decide) ?_
        refine z_iadd dX9_part_41 (by omega) ?_
        refine z_putI zfX9_151 dX9_part_42 (zkB hΓ rfl) rfl rfl ?_
        have hR := zMS_inc hR
        refine z_al0 dX9_part_45 (by first | decide | omega | assumption) ?_
        obtain ⟨r1, hP1, hK1⟩ := zbd_e hP
        refine zcv0 dX9_part_46 zkX9_216 ziX9_unit zsX9_unit (zkB hΓ rfl) (by decide) rfl (Nat.le_of_ble_eq_true rfl) (by decide) (by first | decide | omega) ⟨Nat.le_refl _, Nat.le_refl _⟩ (iU g (by omega) (2 * g + 8) _ _ _ r1 _ (Nat.le_refl _) hR (by omega) (by omega) hP1 (fun p1 c1 pp1 v1 h hr1 hz1 hpp1 hb1 hR hE1 _ => ?_) (fun p1 v1 h hd1 he1 hb1 hX _ => ?_))
        · subst hr1
          have hP := zN_gen hK1 rfl
          try dsimp only at hP
          have b1 := zP_c hP1 (by decide)
          have hb1 := hb1 rfl
          try simp only [zup_ap, zup_row, ne_eq, not_false_eq_true, zres, Int.toNat_natCast, reduceIte, Nat.reduceEqDiff, Nat.reduceAdd, and_self, and_true, true_and, and_false, false_and]
          skip
          refine z_is4 dX9_part_49 (Nat.le_of_ble_eq_true rfl) rfl ?_
          refine z_il3 dX9_part_51 ?_
          refine z_if_eq (t := 64) dX9_part_52 (by rfl) (fun ht52 => ?_) (fun hf52 => ?_)
          · refine z_iconst dX9_part_64 (by decide) ?_
            refine z_is3 dX9_part_65 (Nat.le_of_ble_eq_true rfl) rfl ?_
            refine z_goto (t := 18) dX9_part_66 (by rfl) ?_
            obtain ⟨r2, hP2, hK2⟩ := zbd_e hP
            refine ih (by omega) pp1 dep _ _ r2 Q _ _ _ (by omega) hR (by omega) hdep (by rw [hz1]; exact hP2) (fun p3 c3 pp3 v3 h3 hr3 hz3 hpp3 hb3 hR3 hE3 => ?_) (fun p3 v3 h3 hd3 he3 hb3 hX3 => ?_)
            · subst hr3
              have hP := zN_gen hK2 rfl
              cases hP
              exact hN _ _ _ _ _ rfl hz3 hpp3 hb3 hR3 (fun s => zE_app (hE1 _) (zE_app (a := [-38]) (by first | exact zop_a1 (by omega) (by omega) | exact zop_a0 hv0 hb1 (by omega)) (hE3 s)))
            · have hx9 := zX_gen hK2 hd3 he3 (fun hd c => zDg_ok hd)
              exact hXc _ _ _ hx9.1 hx9.2 hb3 hX3
          · refine z_il4 dX9_part_55 ?_
            refine z_if_eq (t := 64) dX9_part_57 (by rfl) (fun ht57 => ?_) (fun hf57 => ?_)
            · refine z_iconst dX9_part_64 (by decide) ?_
              refine z_is3 dX9_part_65 (Nat.le_of_ble_eq_true rfl) rfl ?_
              refine z_goto (t := 18) dX9_part_66 (by rfl) ?_
              obtain ⟨r2, hP2, hK2⟩ := zbd_e hP
              refine ih (by omega) pp1 dep _ _ r2 Q _ _ _ (by omega) hR (by omega) hdep (by rw [hz1]; exact hP2) (fun p3 c3 pp3 v3 h3 hr3 hz3 hpp3 hb3 hR3 hE3 => ?_) (fun p3 v3 h3 hd3 he3 hb3 hX3 => ?_)
              · subst hr3
                have hP := zN_gen hK2 rfl
                cases hP
                exact hN _ _ _ _ _ rfl hz3 hpp3 hb3 hR3 (fun s => zE_app (hE1 _) (zE_app (a := [-38]) (by first | exact zop_a1 (by omega) (by omega) | exact zop_a0 hv0 hb1 (by omega)) (hE3 s)))
              · have hx9 := zX_gen hK2 hd3 he3 (fun hd c => zDg_ok hd)
                exact hXc _ _ _ hx9.1 hx9.2 hb3 hX3
            · refine z_iconst dX9_part_60 (by decide) ?_
              refine z_goto (t := 65) dX9_part_61 (by rfl) ?_
              refine z_is3 dX9_part_65 (Nat.le_of_ble_eq_true rfl) rfl ?_
              refine z_goto (t := 18) dX9_part_66 (by rfl) ?_
              obtain ⟨r2, hP2, hK2⟩ := zbd_e hP
              refine ih (by omega) pp1 dep _ _ r2 Q _ _ _ (by omega) hR (by omega) hdep (by rw [hz1]; exact hP2) (fun p3 c3 pp3 v3 h3 hr3 hz3 hpp3 hb3 hR3 hE3 => ?_) (fun p3 v3 h3 hd3 he3 hb3 hX3 => ?_)
              · subst hr3
                have hP := zN_gen hK2 rfl
                cases hP
                exact hN _ _ _ _ _ rfl hz3 hpp3 hb3 hR3 (fun s => zE_app (hE1 _) (zE_app (a := [-38]) (by first | exact zop_a1 (by omega) (by omega) | exact zop_a0 hv0 hb1 (by omega)) (hE3 s)))
              · have hx9 := zX_gen hK2 hd3 he3 (fun hd c => zDg_ok hd)
                exact hXc _ _ _ hx9.1 hx9.2 hb3 hX3
        · have hX1 := hX.2.1
          have hX2 := hX.2.2.1
          have hX3 := hX.2.2.2
          try simp only [zup_ap, zup_row, ne_eq, not_false_eq_true, zres, Int.toNat_natCast, reduceIte, Nat.reduceEqDiff, Nat.reduceAdd, and_self, and_true, true_and, and_false, false_and]
          skip
          refine z_is4 dX9_part_49 (Nat.le_of_ble_eq_true rfl) rfl ?_
          refine z_il3 dX9_part_51 ?_
          refine z_if_eq (t := 64) dX9_part_52 (by rfl) (fun ht52 => ?_) (fun hf52 => ?_)
          · refine z_iconst dX9_part_64 (by decide) ?_
            refine z_is3 dX9_part_65 (Nat.le_of_ble_eq_true rfl) rfl ?_
            refine z_goto (t := 18) dX9_part_66 (by rfl) ?_
            refine z_al0 dX9_part_18 (by first | decide | omega | assumption) ?_
            refine z_getI zfX9_160 dX9_part_19 (zkB hΓ rfl) rfl ?_
            try simp only [zup_ap, zup_row, ne_eq, not_false_eq_true, zres, Int.toNat_natCast, reduceIte, Nat.reduceEqDiff, Nat.reduceAdd, and_self, and_true, true_and, and_false, false_and]
            refine z_iconst dX9_part_22 (by decide) ?_
            refine z_icmp_ne (t := 69) dX9_part_23 (by rfl) (fun ht23 => ?_) (fun hf23 => ?_)
            · skip
              first
              | (exfalso; omega)
              | (refine z_il3 dX9_part_69 ?_
                 refine z_zret dX9_part_70 rfl (Nat.le_refl _) (Nat.le_refl _) (zext_rf _) (by first | exact hv0 | exact Or.inl rfl | exact Or.inr rfl | omega) ?_
                 have hx9 := zX_gen hK1 hd1 he1 (fun hd c => zDg_lp hd (by decide) (zDg_ok hd))
                 exact hXc _ _ _ hx9.1 hx9.2 (fun _ => by omega) hX)
            · exfalso; omega
          · refine z_il4 dX9_part_55 ?_
            refine z_if_eq (t := 64) dX9_part_57 (by rfl) (fun ht57 => ?_) (fun hf57 => ?_)
            · refine z_iconst dX9_part_64 (by decide) ?_
              refine z_is3 dX9_part_65 (Nat.le_of_ble_eq_true rfl) rfl ?_
              refine z_goto (t := 18) dX9_part_66 (by rfl) ?_
              refine z_al0 dX9_part_18 (by first | decide | omega | assumption) ?_
              refine z_getI zfX9_160 dX9_part_19 (zkB hΓ rfl) rfl ?_
              try simp only [zup_ap, zup_row, ne_eq, not_false_eq_true, zres, Int.toNat_natCast, reduceIte, Nat.reduceEqDiff, Nat.reduceAdd, and_self, and_true, true_and, and_false, false_and]
              refine z_iconst dX9_part_22 (by decide) ?_
              refine z_icmp_ne (t := 69) dX9_part_23 (by rfl) (fun ht23 => ?_) (fun hf23 => ?_)
              · skip
                first
                | (exfalso; omega)
                | (refine z_il3 dX9_part_69 ?_
                   refine z_zret dX9_part_70 rfl (Nat.le_refl _) (Nat.le_refl _) (zext_rf _) (by first | exact hv0 | exact Or.inl rfl | exact Or.inr rfl | omega) ?_
                   have hx9 := zX_gen hK1 hd1 he1 (fun hd c => zDg_lp hd (by decide) (zDg_ok hd))
                   exact hXc _ _ _ hx9.1 hx9.2 (fun _ => by omega) hX)
              · exfalso; omega
            · refine z_iconst dX9_part_60 (by decide) ?_
              refine z_goto (t := 65) dX9_part_61 (by rfl) ?_
              refine z_is3 dX9_part_65 (Nat.le_of_ble_eq_true rfl) rfl ?_
              refine z_goto (t := 18) dX9_part_66 (by rfl) ?_
              refine z_al0 dX9_part_18 (by first | decide | omega | assumption) ?_
              refine z_getI zfX9_160 dX9_part_19 (zkB hΓ rfl) rfl ?_
              try simp only [zup_ap, zup_row, ne_eq, not_false_eq_true, zres, Int.toNat_natCast, reduceIte, Nat.reduceEqDiff, Nat.reduceAdd, and_self, and_true, true_and, and_false, false_and]
              refine z_iconst dX9_part_22 (by decide) ?_
              refine z_icmp_ne (t := 69) dX9_part_23 (by rfl) (fun ht23 => ?_) (fun hf23 => ?_)
              · skip
                first
                | (exfalso; omega)
                | (refine z_il3 dX9_part_69 ?_
                   refine z_zret dX9_part_70 rfl (Nat.le_refl _) (Nat.le_refl _) (zext_rf _) (by first | exact hv0 | exact Or.inl rfl | exact Or.inr rfl | omega) ?_
                   have hx9 := zX_gen hK1 hd1 he1 (fun hd c => zDg_lp hd (by decide) (zDg_ok hd))
                   exact hXc _ _ _ hx9.1 hx9.2 (fun _ => by omega) hX)
              · exfalso; omega
set_option maxRecDepth 4000 in
theorem zM_part0 {l : Launch} {Γ : zC} {h0 : zM} {R b n : Nat} {t : Nat → Int} (hΓ : zBase Γ) (hT : zTx Γ h0 R b n t) {f : Nat} (iU : ∀ g, g < f + 1 → zSm l Γ h0 n t (fun s => h0 93 s.toNat) g 6 1 mX9_unit []) : ∀ (D f1 f2 p dep : Nat) (h : zM) (r : zRs) (Q : Option zV → zC → zM → Prop), f1 ≤ f → f2 ≤ f → 2 * f + 9 ≤ D → zMS h0 h p dep → p ≤ 160 → dep ≤ 6 → zbd (zP t n f1 6 (zskip t n p) dep) (fun p c => zbd (zP t n f2 7 p dep) (fun p2 c2 => zok p2 (c ++ c2))) = some r →
  (∀ (p1 : Nat) (c1 : List Int) (pp : Nat) (v : Int) (h' : zM), r = (true, p1, c1) → zskip t n pp = p1 → pp ≤ 160 → (1 = 1 → v = 0 ∨ v = 1) → zMS h0 h' pp dep → (∀ s, zE (fun s => h0 93 s.toNat) c1 (s) (v :: s)) → Q (some (zI v)) Γ h') →
  (∀ (p1 : Nat) (v : Int) (h' : zM), (r.1 = false ∨ zdg (zsg t n p1)) → r.2.1 = p1 → (1 = 1 → v = 0 ∨ v = 1) → zMX h0 h' p1 dep → Q (some (zI v)) Γ h') → zCT l mX9_part D 0 0 Γ [zR 89, zI 0, zI 0] h Q := by
  intro D f1 f2 p dep h r Q hf1 hf2 hD hR hp hdep hP hN hXc
  have sk1 := fun k => zskip_b t n k
  have s0 := sk1 p
  have hn2 := hT.2.2.2.1
  refine zCT_of (by decide) (Nat.le_of_ble_eq_true rfl) (ls := [some (zR 89), some (zI 0), some (zI 0), none, none]) rfl ?_
  refine z_il1 dX9_part_0 ?_
  refine z_if_eq (t := 13) dX9_part_1 (by rfl) (fun _ => ?_) (fun hx => absurd hx (by decide))
  refine z_al0 dX9_part_13 (by first | decide | omega | assumption) ?_
  obtain ⟨r1, hP1, hK1⟩ := zbd_e hP
  refine zcv0 dX9_part_14 zkX9_216 ziX9_unit zsX9_unit (zkB hΓ rfl) (by decide) rfl (Nat.le_of_ble_eq_true rfl) (by decide) (by first | decide | omega) ⟨Nat.le_refl _, Nat.le_refl _⟩ (iU f1 (by omega) (2 * f1 + 8) _ _ _ r1 _ (Nat.le_refl _) hR (by omega) (by omega) hP1 (fun p1 c1 pp1 v1 h hr1 hz1 hpp1 hb1 hR hE1 _ => ?_) (fun p1 v1 h hd1 he1 hb1 hX _ => ?_))
  · subst hr1
    have hP := zN_gen hK1 rfl
    try dsimp only at hP
    have b1 := zP_c hP1 (by decide)
    try simp only [zup_ap, zup_row, ne_eq, not_false_eq_true, zres, Int.toNat_natCast, reduceIte, Nat.reduceEqDiff, Nat.reduceAdd, and_self, and_true, true_and, and_false, false_and]
    skip
    refine z_is3 dX9_part_17 (Nat.le_of_ble_eq_true rfl) rfl ?_
    obtain ⟨r2, hP2, hK2⟩ := zbd_e hP
    refine zM_pl hΓ hT f D (by omega) (fun g hg => iU g (by omega)) f2 hf2 pp1 dep _ _ r2 Q _ _ _ (hb1 rfl) hR (by omega) hdep (by rw [hz1]; exact hP2) (fun p3 c3 pp3 v3 h3 hr3 hz3 hpp3 hb3 hR3 hE3 => ?_) (fun p3 v3 h3 hd3 he3 hb3 hX3 => ?_)
    · subst hr3
      have hP := zN_gen hK2 rfl
      cases hP
      exact hN _ _ _ _ _ rfl hz3 hpp3 hb3 hR3 (fun s => zE_app (hE1 _) (hE3 s))
    · have hx9 := zX_gen hK2 hd3 he3 (fun hd c => zDg_ok hd)
      exact hXc _ _ _ hx9.1 hx9.2 hb3 hX3
  · have hX1 := hX.2.1
    have hX2 := hX.2.2.1
    have hX3 := hX.2.2.2
    try simp only [zup_ap, zup_row, ne_eq, not_false_eq_true, zres, Int.toNat_natCast, reduceIte, Nat.reduceEqDiff, Nat.reduceAdd, and_self, and_true, true_and, and_false, false_and]
    skip
    refine z_is3 dX9_part_17 (Nat.le_of_ble_eq_true rfl) rfl ?_
    refine z_al0 dX9_part_18 (by first | decide | omega | assumption) ?_
    refine z_getI zfX9_160 dX9_part_19 (zkB hΓ rfl) rfl ?_
    try simp only [zup_ap, zup_row, ne_eq, not_false_eq_true, zres, Int.toNat_natCast, reduceIte, Nat.reduceEqDiff, Nat.reduceAdd, and_self, and_true, true_and, and_false, false_and]
    refine z_iconst dX9_part_22 (by decide) ?_
    refine z_icmp_ne (t := 69) dX9_part_23 (by rfl) (fun ht23 => ?_) (fun hf23 => ?_)
    · skip
      first
      | (exfalso; omega)
      | (refine z_il3 dX9_part_69 ?_
         refine z_zret dX9_part_70 rfl (Nat.le_refl _) (Nat.le_refl _) (zext_rf _) (by exact hb1 rfl) ?_
         have hx9 := zX_gen hK1 hd1 he1 (fun hd c => zDg_lp hd (by decide) (zDg_ok hd))
         exact hXc _ _ _ hx9.1 hx9.2 hb1 hX)
    · exfalso; omega
set_option maxRecDepth 4000 in
theorem zM_part1 {l : Launch} {Γ : zC} {h0 : zM} {R b n : Nat} {t : Nat → Int} (hΓ : zBase Γ) (hT : zTx Γ h0 R b n t) {f : Nat} (iS : ∀ g, g < f + 1 → zSm l Γ h0 n t (fun s => h0 93 s.toNat) g 3 0 mX9_sum []) (iU : ∀ g, g < f + 1 → zSm l Γ h0 n t (fun s => h0 93 s.toNat) g 6 1 mX9_unit []) : ∀ (D f1 f2 p dep : Nat) (v0 : Int) (h : zM) (r : zRs) (Q : Option zV → zC → zM → Prop), f1 ≤ f → f2 ≤ f → 2 * f + 10 ≤ D → zMS h0 h p dep → p ≤ 160 → dep ≤ 6 → zbd (zP t n f1 5 (zskip t n p) dep) (fun p c => zbd (zP t n f2 7 p dep) (fun p2 c2 => zok p2 (c ++ c2))) = some r →
  (∀ (p1 : Nat) (c1 : List Int) (pp : Nat) (v : Int) (h' : zM), r = (true, p1, c1) → zskip t n pp = p1 → pp ≤ 160 → (1 = 1 → v = 0 ∨ v = 1) → zMS h0 h' pp dep → (∀ s, zE (fun s => h0 93 s.toNat) c1 (v0 :: s) (v :: s)) → Q (some (zI v)) Γ h') →
  (∀ (p1 : Nat) (v : Int) (h' : zM), (r.1 = false ∨ zdg (zsg t n p1)) → r.2.1 = p1 → (1 = 1 → v = 0 ∨ v = 1) → zMX h0 h' p1 dep → Q (some (zI v)) Γ h') → zCT l mX9_part D 0 0 Γ [zR 89, zI 1, zI v0] h Q := by
  intro D f1 f2 p dep v0 h r Q hf1 hf2 hD hR hp hdep hP hN hXc
  have sk1 := fun k => zskip_b t n k
  have s0 := sk1 p
  have hn2 := hT.2.2.2.1
  refine zCT_of (by decide) (Nat.le_of_ble_eq_true rfl) (ls := [some (zR 89), some (zI 1), some (zI v0), none, none]) rfl ?_
  refine z_il1 dX9_part_0 ?_
  refine z_if_eq (t := 13) dX9_part_1 (by rfl) (fun hx => absurd hx (by decide)) (fun _ => ?_)
  refine z_al0 dX9_part_4 (by first | decide | omega | assumption) ?_
  refine z_iconst dX9_part_5 (by decide) ?_
  refine z_il2 dX9_part_6 ?_
  obtain ⟨r1, hP1, hK1⟩ := zbd_e hP
  refine zcv2 dX9_part_7 zkX9_223 ziX9_compares zsX9_compares (zkB hΓ rfl) (by decide) rfl (Nat.le_of_ble_eq_true rfl) (by decide) (by first | decide | omega) ⟨Nat.le_refl _, Nat.le_refl _⟩ (zM_cmp1 (f := f) hΓ hT iS (2 * f + 9) f1 _ dep v0 _ r1 _ hf1 (Nat.le_refl _) hR (by omega) hdep hP1 (fun p1 c1 pp1 v1 h hr1 hz1 hpp1 hb1 hR hE1 _ => ?_) (fun p1 v1 h hd1 he1 hb1 hX _ => ?_))
  · subst hr1
    have hP := zN_gen hK1 rfl
    try dsimp only at hP
    try simp only [zup_ap, zup_row, ne_eq, not_false_eq_true, zres, Int.toNat_natCast, reduceIte, Nat.reduceEqDiff, Nat.reduceAdd, and_self, and_true, true_and, and_false, false_and]
    refine z_goto (t := 17) dX9_part_10 (by rfl) ?_
    refine z_is3 dX9_part_17 (Nat.le_of_ble_eq_true rfl) rfl ?_
    obtain ⟨r2, hP2, hK2⟩ := zbd_e hP
    refine zM_pl hΓ hT f D (by omega) (fun g hg => iU g (by omega)) f2 hf2 pp1 dep _ _ r2 Q _ _ _ (hb1 rfl) hR (by omega) hdep (by rw [hz1]; exact hP2) (fun p3 c3 pp3 v3 h3 hr3 hz3 hpp3 hb3 hR3 hE3 => ?_) (fun p3 v3 h3 hd3 he3 hb3 hX3 => ?_)
    · subst hr3
      have hP := zN_gen hK2 rfl
      cases hP
      exact hN _ _ _ _ _ rfl hz3 hpp3 hb3 hR3 (fun s => zE_app (hE1 _) (hE3 s))
    · have hx9 := zX_gen hK2 hd3 he3 (fun hd c => zDg_ok hd)
      exact hXc _ _ _ hx9.1 hx9.2 hb3 hX3
  · have hX1 := hX.2.1
    have hX2 := hX.2.2.1
    have hX3 := hX.2.2.2
    try simp only [zup_ap, zup_row, ne_eq, not_false_eq_true, zres, Int.toNat_natCast, reduceIte, Nat.reduceEqDiff, Nat.reduceAdd, and_self, and_true, true_and, and_false, false_and]
    skip
    refine z_goto (t := 17) dX9_part_10 (by rfl) ?_
    refine z_is3 dX9_part_17 (Nat.le_of_ble_eq_true rfl) rfl ?_
    refine z_al0 dX9_part_18 (by first | decide | omega | assumption) ?_
    refine z_getI zfX9_160 dX9_part_19 (zkB hΓ rfl) rfl ?_
    try simp only [zup_ap, zup_row, ne_eq, not_false_eq_true, zres, Int.toNat_natCast, reduceIte, Nat.reduceEqDiff, Nat.reduceAdd, and_self, and_true, true_and, and_false, false_and]
    refine z_iconst dX9_part_22 (by decide) ?_
    refine z_icmp_ne (t := 69) dX9_part_23 (by rfl) (fun ht23 => ?_) (fun hf23 => ?_)
    · skip
      first
      | (exfalso; omega)
      | (refine z_il3 dX9_part_69 ?_
         refine z_zret dX9_part_70 rfl (Nat.le_refl _) (Nat.le_refl _) (zext_rf _) (by exact hb1 rfl) ?_
         have hx9 := zX_gen hK1 hd1 he1 (fun hd c => zDg_lp hd (by decide) (zDg_ok hd))
         exact hXc _ _ _ hx9.1 hx9.2 hb1 hX)
    · exfalso; omega
theorem zP9 {t : Nat → Int} {n g q dep : Nat} {r : zRs} (h : zbd (zP t n g 6 q dep) (fun p c => zbd (zP t n g 7 p dep) (fun p2 c2 => zbd (zP t n g 9 p2 dep) (fun p3 c3 => zok p3 (c ++ (c2 ++ -124 :: c3))))) = some r) : zbd (zbd (zP t n g 6 q dep) (fun p c => zbd (zP t n g 7 p dep) (fun p2 c2 => zok p2 (c ++ c2)))) (fun p2 c2 => zbd (zP t n g 9 p2 dep) (fun p3 c3 => zok p3 (c2 ++ -124 :: c3))) = some r := by
  rw [zbd_as]
  simp only [zbd_as]
  rw [← h]
  congr 1; funext p c; congr 1; funext p2 c2
  show zbd (zP t n g 9 p2 dep) _ = _
  congr 1; funext p3 c3; rw [List.append_assoc]
theorem zP8 {t : Nat → Int} {n f g a q dep : Nat} {r : zRs} (h : zbd (zP t n f a q dep) (fun p c => zbd (zP t n (g + 1) 8 p dep) (fun p2 c2 => zok p2 (c ++ c2))) = some r) : zbd (zbd (zP t n f a q dep) (fun p c => zbd (zP t n g 7 p dep) (fun p2 c2 => zok p2 (c ++ c2)))) (fun p2 c2 => zbd (zP t n g 9 p2 dep) (fun p3 c3 => zok p3 (c2 ++ c3))) = some r := by
  rw [zbd_as]
  simp only [zbd_as]
  rw [← h]
  congr 1; funext p c
  simp only [zP, zbd_as]
  congr 1; funext p2 c2
  show zbd (zP t n g 9 p2 dep) _ = zbd (zP t n g 9 p2 dep) _
  congr 1; funext p3 c3
  show zok p3 _ = zok p3 _
  rw [List.append_assoc]
set_option maxRecDepth 4000 in
theorem zM_cl {l : Launch} {Γ : zC} {h0 : zM} {R b n : Nat} {t : Nat → Int} (hΓ : zBase Γ) (hT : zTx Γ h0 R b n t) (G D : Nat) (hD : 2 * G + 8 ≤ D) (iU : ∀ g, g < G → zSm l Γ h0 n t (fun s => h0 93 s.toNat) g 6 1 mX9_unit []) : ∀ g, g ≤ G → ∀ (p dep : Nat) (v0 : Int) (h : zM) (r : zRs) (Q : Option zV → zC → zM → Prop) (w1 w2 : Int) (w3 : Option zV), (v0 = 0 ∨ v0 = 1) → zMS h0 h p dep → p ≤ 160 → dep ≤ 6 → zP t n g 9 (zskip t n p) dep = some r →
  (∀ (p1 : Nat) (c1 : List Int) (pp : Nat) (v : Int) (h' : zM), r = (true, p1, c1) → zskip t n pp = p1 → pp ≤ 160 → (1 = 1 → v = 0 ∨ v = 1) → zMS h0 h' pp dep → (∀ s, zE (fun s => h0 93 s.toNat) c1 (v0 :: s) (v :: s)) → Q (some (zI v)) Γ h') →
  (∀ (p1 : Nat) (v : Int) (h' : zM), (r.1 = false ∨ zdg (zsg t n p1)) → r.2.1 = p1 → (1 = 1 → v = 0 ∨ v = 1) → zMX h0 h' p1 dep → Q (some (zI v)) Γ h') → zG (zFn l mX9_condition D 0 0 Γ Q) 0 0 Γ h 7 [some (zR 89), some (zI w1), some (zI w2), some (zI v0), w3] [] := by
  intro g
  induction g with
  | zero => intro _ p dep v0 h r Q w1 w2 w3 hv0 hR hp hdep hP; cases hP
  | succ g ih =>
    intro hg p dep v0 h r Q w1 w2 w3 hv0 hR hp hdep hP hN hXc
    have sk1 := fun k => zskip_b t n k
    have s0 := sk1 p
    have hn2 := hT.2.2.2.1
    have a2 := hR.2.2.1
    simp only [zP] at hP
    refine z_al0 dX9_condition_7 (by first | decide | omega | assumption) ?_
    refine z_getI zfX9_160 dX9_condition_8 (zkB hΓ rfl) rfl ?_
    try simp only [zup_ap, zup_row, ne_eq, not_false_eq_true, zres, Int.toNat_natCast, reduceIte, Nat.reduceEqDiff, Nat.reduceAdd, and_self, and_true, true_and, and_false, false_and]
    refine z_iconst dX9_condition_11 (by decide) ?_
    refine z_icmp_ne (t := 60) dX9_condition_12 (by rfl) (fun ht12 => ?_) (fun hf12 => ?_)
    · exfalso; omega
    · refine z_al0 dX9_condition_15 (by first | decide | omega | assumption) ?_
      refine zcv0 dX9_condition_16 zkX9_170 ziX9_look zsX9_look (zkB hΓ rfl) (by decide) rfl (Nat.le_of_ble_eq_true rfl) (by decide) (by first | decide | omega) ⟨Nat.le_refl _, Nat.le_refl _⟩ (zM_look hΓ hT hR (by omega) (fun h hR _ => ?_))
      try simp only [zup_ap, zup_row, ne_eq, not_false_eq_true, zres, Int.toNat_natCast, reduceIte, Nat.reduceEqDiff, Nat.reduceAdd, and_self, and_true, true_and, and_false, false_and]
      refine z_bipush (x := 124) dX9_condition_19 (by rfl) (by decide) ?_
      refine z_icmp_ne (t := 60) dX9_condition_21 (by rfl) (fun ht21 => ?_) (fun hf21 => ?_)
      · rw [if_neg ht21] at hP
        refine z_il3 dX9_condition_60 ?_
        refine z_zret dX9_condition_61 rfl (Nat.le_refl _) (Nat.le_refl _) (zext_rf _) (by first | exact hv0 | exact Or.inl rfl | exact Or.inr rfl | omega) ?_
        cases hP
        exact hN _ _ (zskip t n p) _ _ rfl (zskip_id t n p) (by omega) (fun _ => hv0) hR (fun s => zE_nil _ _)
      · rw [if_pos hf21] at hP
        have l0 := zsg_lt hf21 (by decide)
        refine z_al0 dX9_condition_24 (by first | decide | omega | assumption) ?_
        have a1 := hR.2.1
        refine z_dup dX9_condition_25 rfl ?_
        refine z_getI zfX9_151 dX9_condition_26 (zkB hΓ rfl) rfl ?_
        try simp only [zup_ap, zup_row, ne_eq, not_false_eq_true, zres, Int.toNat_natCast, reduceIte, Nat.reduceEqDiff, Nat.reduceAdd, and_self, and_true, true_and, and_false, false_and]
        refine z_iconst dX9_condition_29 (by decide) ?_
        refine z_iadd dX9_condition_30 (by omega) ?_
        refine z_putI zfX9_151 dX9_condition_31 (zkB hΓ rfl) rfl rfl ?_
        have hR := zMS_inc hR
        refine z_al0 dX9_condition_34 (by first | decide | omega | assumption) ?_
        refine z_iconst dX9_condition_35 (by decide) ?_
        refine z_iconst dX9_condition_36 (by decide) ?_
        have hP := zP9 hP
        obtain ⟨r1, hP1, hK1⟩ := zbd_e hP
        refine zcv2 dX9_condition_37 zkX9_226 ziX9_part zsX9_part (zkB hΓ rfl) (by decide) rfl (Nat.le_of_ble_eq_true rfl) (by decide) (by first | decide | omega) ⟨Nat.le_refl _, Nat.le_refl _⟩ (zM_part0 (f := g) hΓ hT (fun g9 hg9 => iU g9 (by omega))  (2 * g + 9) g g _ dep _ r1 _ (by omega) (by omega) (by omega) hR (by omega) hdep hP1 (fun p1 c1 pp1 v1 h hr1 hz1 hpp1 hb1 hR hE1 _ => ?_) (fun p1 v1 h hd1 he1 hb1 hX _ => ?_))
        · subst hr1
          have hP := zN_gen hK1 rfl
          try dsimp only at hP
          have hb1 := hb1 rfl
          try simp only [zup_ap, zup_row, ne_eq, not_false_eq_true, zres, Int.toNat_natCast, reduceIte, Nat.reduceEqDiff, Nat.reduceAdd, and_self, and_true, true_and, and_false, false_and]
          refine z_is4 dX9_condition_40 (Nat.le_of_ble_eq_true rfl) rfl ?_
          refine z_il3 dX9_condition_42 ?_
          refine z_if_ne (t := 51) dX9_condition_43 (by rfl) (fun ht43 => ?_) (fun hf43 => ?_)
          · refine z_iconst dX9_condition_51 (by decide) ?_
            refine z_goto (t := 56) dX9_condition_52 (by rfl) ?_
            refine z_is3 dX9_condition_56 (Nat.le_of_ble_eq_true rfl) rfl ?_
            refine z_goto (t := 7) dX9_condition_57 (by rfl) ?_
            obtain ⟨r2, hP2, hK2⟩ := zbd_e hP
            refine ih (by omega) pp1 dep _ _ r2 Q _ _ _ (by omega) hR (by omega) hdep (by rw [hz1]; exact hP2) (fun p3 c3 pp3 v3 h3 hr3 hz3 hpp3 hb3 hR3 hE3 => ?_) (fun p3 v3 h3 hd3 he3 hb3 hX3 => ?_)
            · subst hr3
              have hP := zN_gen hK2 rfl
              cases hP
              exact hN _ _ _ _ _ rfl hz3 hpp3 hb3 hR3 (fun s => zE_app (hE1 _) (zE_app (a := [-124]) (by first | exact zop_o0 (by omega) (by omega) | exact zop_o1 hv0 hb1 (by omega)) (hE3 s)))
            · have hx9 := zX_gen hK2 hd3 he3 (fun hd c => zDg_ok hd)
              exact hXc _ _ _ hx9.1 hx9.2 hb3 hX3
          · refine z_il4 dX9_condition_46 ?_
            refine z_if_eq (t := 55) dX9_condition_48 (by rfl) (fun ht48 => ?_) (fun hf48 => ?_)
            · refine z_iconst dX9_condition_55 (by decide) ?_
              refine z_is3 dX9_condition_56 (Nat.le_of_ble_eq_true rfl) rfl ?_
              refine z_goto (t := 7) dX9_condition_57 (by rfl) ?_
              obtain ⟨r2, hP2, hK2⟩ := zbd_e hP
              refine ih (by omega) pp1 dep _ _ r2 Q _ _ _ (by omega) hR (by omega) hdep (by rw [hz1]; exact hP2) (fun p3 c3 pp3 v3 h3 hr3 hz3 hpp3 hb3 hR3 hE3 => ?_) (fun p3 v3 h3 hd3 he3 hb3 hX3 => ?_)
              · subst hr3
                have hP := zN_gen hK2 rfl
                cases hP
                exact hN _ _ _ _ _ rfl hz3 hpp3 hb3 hR3 (fun s => zE_app (hE1 _) (zE_app (a := [-124]) (by first | exact zop_o0 (by omega) (by omega) | exact zop_o1 hv0 hb1 (by omega)) (hE3 s)))
              · have hx9 := zX_gen hK2 hd3 he3 (fun hd c => zDg_ok hd)
                exact hXc _ _ _ hx9.1 hx9.2 hb3 hX3
            · refine z_iconst dX9_condition_51 (by decide) ?_
              refine z_goto (t := 56) dX9_condition_52 (by rfl) ?_
              refine z_is3 dX9_condition_56 (Nat.le_of_ble_eq_true rfl) rfl ?_
              refine z_goto (t := 7) dX9_condition_57 (by rfl) ?_
              obtain ⟨r2, hP2, hK2⟩ := zbd_e hP
              refine ih (by omega) pp1 dep _ _ r2 Q _ _ _ (by omega) hR (by omega) hdep (by rw [hz1]; exact hP2) (fun p3 c3 pp3 v3 h3 hr3 hz3 hpp3 hb3 hR3 hE3 => ?_) (fun p3 v3 h3 hd3 he3 hb3 hX3 => ?_)
              · subst hr3
                have hP := zN_gen hK2 rfl
                cases hP
                exact hN _ _ _ _ _ rfl hz3 hpp3 hb3 hR3 (fun s => zE_app (hE1 _) (zE_app (a := [-124]) (by first | exact zop_o0 (by omega) (by omega) | exact zop_o1 hv0 hb1 (by omega)) (hE3 s)))
              · have hx9 := zX_gen hK2 hd3 he3 (fun hd c => zDg_ok hd)
                exact hXc _ _ _ hx9.1 hx9.2 hb3 hX3
        · have hX1 := hX.2.1
          have hX2 := hX.2.2.1
          have hX3 := hX.2.2.2
          have hb9 := hb1
          have hb8 := hb1 rfl
          try simp only [zup_ap, zup_row, ne_eq, not_false_eq_true, zres, Int.toNat_natCast, reduceIte, Nat.reduceEqDiff, Nat.reduceAdd, and_self, and_true, true_and, and_false, false_and]
          skip
          refine z_is4 dX9_condition_40 (Nat.le_of_ble_eq_true rfl) rfl ?_
          refine z_il3 dX9_condition_42 ?_
          refine z_if_ne (t := 51) dX9_condition_43 (by rfl) (fun ht43 => ?_) (fun hf43 => ?_)
          · refine z_iconst dX9_condition_51 (by decide) ?_
            refine z_goto (t := 56) dX9_condition_52 (by rfl) ?_
            refine z_is3 dX9_condition_56 (Nat.le_of_ble_eq_true rfl) rfl ?_
            refine z_goto (t := 7) dX9_condition_57 (by rfl) ?_
            refine z_al0 dX9_condition_7 (by first | decide | omega | assumption) ?_
            refine z_getI zfX9_160 dX9_condition_8 (zkB hΓ rfl) rfl ?_
            try simp only [zup_ap, zup_row, ne_eq, not_false_eq_true, zres, Int.toNat_natCast, reduceIte, Nat.reduceEqDiff, Nat.reduceAdd, and_self, and_true, true_and, and_false, false_and]
            refine z_iconst dX9_condition_11 (by decide) ?_
            refine z_icmp_ne (t := 60) dX9_condition_12 (by rfl) (fun ht12 => ?_) (fun hf12 => ?_)
            · skip
              first
              | (exfalso; omega)
              | (refine z_il3 dX9_condition_60 ?_
                 refine z_zret dX9_condition_61 rfl (Nat.le_refl _) (Nat.le_refl _) (zext_rf _) (by first | exact hv0 | exact Or.inl rfl | exact Or.inr rfl | omega) ?_
                 have hx9 := zX_gen hK1 hd1 he1 (fun hd c => zDg_lp hd (by decide) (zDg_ok hd))
                 exact hXc _ _ _ hx9.1 hx9.2 (fun _ => by omega) hX)
            · exfalso; omega
          · refine z_il4 dX9_condition_46 ?_
            refine z_if_eq (t := 55) dX9_condition_48 (by rfl) (fun ht48 => ?_) (fun hf48 => ?_)
            · refine z_iconst dX9_condition_55 (by decide) ?_
              refine z_is3 dX9_condition_56 (Nat.le_of_ble_eq_true rfl) rfl ?_
              refine z_goto (t := 7) dX9_condition_57 (by rfl) ?_
              refine z_al0 dX9_condition_7 (by first | decide | omega | assumption) ?_
              refine z_getI zfX9_160 dX9_condition_8 (zkB hΓ rfl) rfl ?_
              try simp only [zup_ap, zup_row, ne_eq, not_false_eq_true, zres, Int.toNat_natCast, reduceIte, Nat.reduceEqDiff, Nat.reduceAdd, and_self, and_true, true_and, and_false, false_and]
              refine z_iconst dX9_condition_11 (by decide) ?_
              refine z_icmp_ne (t := 60) dX9_condition_12 (by rfl) (fun ht12 => ?_) (fun hf12 => ?_)
              · skip
                first
                | (exfalso; omega)
                | (refine z_il3 dX9_condition_60 ?_
                   refine z_zret dX9_condition_61 rfl (Nat.le_refl _) (Nat.le_refl _) (zext_rf _) (by first | exact hv0 | exact Or.inl rfl | exact Or.inr rfl | omega) ?_
                   have hx9 := zX_gen hK1 hd1 he1 (fun hd c => zDg_lp hd (by decide) (zDg_ok hd))
                   exact hXc _ _ _ hx9.1 hx9.2 (fun _ => by omega) hX)
              · exfalso; omega
            · refine z_iconst dX9_condition_51 (by decide) ?_
              refine z_goto (t := 56) dX9_condition_52 (by rfl) ?_
              refine z_is3 dX9_condition_56 (Nat.le_of_ble_eq_true rfl) rfl ?_
              refine z_goto (t := 7) dX9_condition_57 (by rfl) ?_
              refine z_al0 dX9_condition_7 (by first | decide | omega | assumption) ?_
              refine z_getI zfX9_160 dX9_condition_8 (zkB hΓ rfl) rfl ?_
              try simp only [zup_ap, zup_row, ne_eq, not_false_eq_true, zres, Int.toNat_natCast, reduceIte, Nat.reduceEqDiff, Nat.reduceAdd, and_self, and_true, true_and, and_false, false_and]
              refine z_iconst dX9_condition_11 (by decide) ?_
              refine z_icmp_ne (t := 60) dX9_condition_12 (by rfl) (fun ht12 => ?_) (fun hf12 => ?_)
              · skip
                first
                | (exfalso; omega)
                | (refine z_il3 dX9_condition_60 ?_
                   refine z_zret dX9_condition_61 rfl (Nat.le_refl _) (Nat.le_refl _) (zext_rf _) (by first | exact hv0 | exact Or.inl rfl | exact Or.inr rfl | omega) ?_
                   have hx9 := zX_gen hK1 hd1 he1 (fun hd c => zDg_lp hd (by decide) (zDg_ok hd))
                   exact hXc _ _ _ hx9.1 hx9.2 (fun _ => by omega) hX)
              · exfalso; omega
set_option maxRecDepth 4000 in
theorem zM_cond {l : Launch} {Γ : zC} {h0 : zM} {R b n : Nat} {t : Nat → Int} (hΓ : zBase Γ) (hT : zTx Γ h0 R b n t) {f : Nat} (iU : ∀ g, g < f + 1 → zSm l Γ h0 n t (fun s => h0 93 s.toNat) g 6 1 mX9_unit []) : zSm l Γ h0 n t (fun s => h0 93 s.toNat) (f + 1) 10 1 mX9_condition [zI 0, zI 0] := by
  intro D p dep h r Q hD hR hp hdep hP hN hXc
  have sk1 := fun k => zskip_b t n k
  have s0 := sk1 p
  have hn2 := hT.2.2.2.1
  simp only [zP] at hP
  obtain ⟨g, rfl⟩ : ∃ g, f = g + 1 := by cases f with | zero => cases hP | succ g => exact ⟨g, rfl⟩
  have hP := zP8 hP
  refine zCT_of (by decide) (Nat.le_of_ble_eq_true rfl) (ls := [some (zR 89), some (zI 0), some (zI 0), none, none]) rfl ?_
  refine z_al0 dX9_condition_0 (by first | decide | omega | assumption) ?_
  refine z_il1 dX9_condition_1 ?_
  refine z_il2 dX9_condition_2 ?_
  obtain ⟨r1, hP1, hK1⟩ := zbd_e hP
  refine zcv2 dX9_condition_3 zkX9_226 ziX9_part zsX9_part (zkB hΓ rfl) (by decide) rfl (Nat.le_of_ble_eq_true rfl) (by decide) (by first | decide | omega) ⟨Nat.le_refl _, Nat.le_refl _⟩ (zM_part0 (f := g + 1) hΓ hT (fun g9 hg9 => iU g9 (by omega))  (2 * (g + 1) + 9) (g + 1) g _ dep _ r1 _ (by omega) (by omega) (by omega) hR (by omega) hdep hP1 (fun p1 c1 pp1 v1 h hr1 hz1 hpp1 hb1 hR hE1 _ => ?_) (fun p1 v1 h hd1 he1 hb1 hX _ => ?_))
  · subst hr1
    have hP := zN_gen hK1 rfl
    try dsimp only at hP
    have hb1 := hb1 rfl
    try simp only [zup_ap, zup_row, ne_eq, not_false_eq_true, zres, Int.toNat_natCast, reduceIte, Nat.reduceEqDiff, Nat.reduceAdd, and_self, and_true, true_and, and_false, false_and]
    refine z_is3 dX9_condition_6 (Nat.le_of_ble_eq_true rfl) rfl ?_
    obtain ⟨r2, hP2, hK2⟩ := zbd_e hP
    refine zM_cl hΓ hT g D (by omega) (fun g9 hg9 => iU g9 (by omega)) g (Nat.le_refl _) pp1 dep _ _ r2 Q _ _ _ hb1 hR (by omega) hdep (by rw [hz1]; exact hP2) (fun p3 c3 pp3 v3 h3 hr3 hz3 hpp3 hb3 hR3 hE3 => ?_) (fun p3 v3 h3 hd3 he3 hb3 hX3 => ?_)
    · subst hr3
      have hP := zN_gen hK2 rfl
      cases hP
      exact hN _ _ _ _ _ rfl hz3 hpp3 hb3 hR3 (fun s => zE_app (hE1 _) (hE3 s))
    · have hx9 := zX_gen hK2 hd3 he3 (fun hd c => zDg_ok hd)
      exact hXc _ _ _ hx9.1 hx9.2 hb3 hX3
  · have hX1 := hX.2.1
    have hX2 := hX.2.2.1
    have hX3 := hX.2.2.2
    have hb9 := hb1
    have hb8 := hb1 rfl
    try simp only [zup_ap, zup_row, ne_eq, not_false_eq_true, zres, Int.toNat_natCast, reduceIte, Nat.reduceEqDiff, Nat.reduceAdd, and_self, and_true, true_and, and_false, false_and]
    skip
    refine z_is3 dX9_condition_6 (Nat.le_of_ble_eq_true rfl) rfl ?_
    refine z_al0 dX9_condition_7 (by first | decide | omega | assumption) ?_
    refine z_getI zfX9_160 dX9_condition_8 (zkB hΓ rfl) rfl ?_
    try simp only [zup_ap, zup_row, ne_eq, not_false_eq_true, zres, Int.toNat_natCast, reduceIte, Nat.reduceEqDiff, Nat.reduceAdd, and_self, and_true, true_and, and_false, false_and]
    refine z_iconst dX9_condition_11 (by decide) ?_
    refine z_icmp_ne (t := 60) dX9_condition_12 (by rfl) (fun ht12 => ?_) (fun hf12 => ?_)
    · skip
      first
      | (exfalso; omega)
      | (refine z_il3 dX9_condition_60 ?_
         refine z_zret dX9_condition_61 rfl (Nat.le_refl _) (Nat.le_refl _) (zext_rf _) (by exact hb8) ?_
         have hx9 := zX_gen hK1 hd1 he1 (fun hd c => zDg_lp hd (by decide) (zDg_ok hd))
         exact hXc _ _ _ hx9.1 hx9.2 hb9 hX)
    · exfalso; omega
set_option maxRecDepth 4000 in
theorem zM_cond1 {l : Launch} {Γ : zC} {h0 : zM} {R b n : Nat} {t : Nat → Int} (hΓ : zBase Γ) (hT : zTx Γ h0 R b n t) {f : Nat} (iS : ∀ g, g < f + 1 → zSm l Γ h0 n t (fun s => h0 93 s.toNat) g 3 0 mX9_sum []) (iU : ∀ g, g < f + 1 → zSm l Γ h0 n t (fun s => h0 93 s.toNat) g 6 1 mX9_unit []) : ∀ (D f1 f2 p dep : Nat) (v0 : Int) (h : zM) (r : zRs) (Q : Option zV → zC → zM → Prop), f1 ≤ f → f2 ≤ f → 1 ≤ f2 → 2 * f + 11 ≤ D → zMS h0 h p dep → p ≤ 160 → dep ≤ 6 → zbd (zP t n f1 5 (zskip t n p) dep) (fun p c => zbd (zP t n f2 8 p dep) (fun p2 c2 => zok p2 (c ++ c2))) = some r →
  (∀ (p1 : Nat) (c1 : List Int) (pp : Nat) (v : Int) (h' : zM), r = (true, p1, c1) → zskip t n pp = p1 → pp ≤ 160 → (1 = 1 → v = 0 ∨ v = 1) → zMS h0 h' pp dep → (∀ s, zE (fun s => h0 93 s.toNat) c1 (v0 :: s) (v :: s)) → Q (some (zI v)) Γ h') →
  (∀ (p1 : Nat) (v : Int) (h' : zM), (r.1 = false ∨ zdg (zsg t n p1)) → r.2.1 = p1 → (1 = 1 → v = 0 ∨ v = 1) → zMX h0 h' p1 dep → Q (some (zI v)) Γ h') → zCT l mX9_condition D 0 0 Γ [zR 89, zI 1, zI v0] h Q := by
  intro D f1 f2 p dep v0 h r Q hf1 hf2 hf9 hD hR hp hdep hP hN hXc
  have sk1 := fun k => zskip_b t n k
  have s0 := sk1 p
  have hn2 := hT.2.2.2.1
  obtain ⟨g, rfl⟩ : ∃ g, f2 = g + 1 := ⟨f2 - 1, by omega⟩
  have hP := zP8 hP
  refine zCT_of (by decide) (Nat.le_of_ble_eq_true rfl) (ls := [some (zR 89), some (zI 1), some (zI v0), none, none]) rfl ?_
  refine z_al0 dX9_condition_0 (by first | decide | omega | assumption) ?_
  refine z_il1 dX9_condition_1 ?_
  refine z_il2 dX9_condition_2 ?_
  obtain ⟨r1, hP1, hK1⟩ := zbd_e hP
  refine zcv2 dX9_condition_3 zkX9_226 ziX9_part zsX9_part (zkB hΓ rfl) (by decide) rfl (Nat.le_of_ble_eq_true rfl) (by decide) (by first | decide | omega) ⟨Nat.le_refl _, Nat.le_refl _⟩ (zM_part1 (f := f) hΓ hT (fun g9 hg9 => iS g9 (by omega)) (fun g9 hg9 => iU g9 (by omega))  (2 * f + 10) f1 g _ dep v0 _ r1 _ (by omega) (by omega) (by omega) hR (by omega) hdep hP1 (fun p1 c1 pp1 v1 h hr1 hz1 hpp1 hb1 hR hE1 _ => ?_) (fun p1 v1 h hd1 he1 hb1 hX _ => ?_))
  · subst hr1
    have hP := zN_gen hK1 rfl
    try dsimp only at hP
    have hb1 := hb1 rfl
    try simp only [zup_ap, zup_row, ne_eq, not_false_eq_true, zres, Int.toNat_natCast, reduceIte, Nat.reduceEqDiff, Nat.reduceAdd, and_self, and_true, true_and, and_false, false_and]
    refine z_is3 dX9_condition_6 (Nat.le_of_ble_eq_true rfl) rfl ?_
    obtain ⟨r2, hP2, hK2⟩ := zbd_e hP
    refine zM_cl hΓ hT g D (by omega) (fun g9 hg9 => iU g9 (by omega)) g (Nat.le_refl _) pp1 dep _ _ r2 Q _ _ _ hb1 hR (by omega) hdep (by rw [hz1]; exact hP2) (fun p3 c3 pp3 v3 h3 hr3 hz3 hpp3 hb3 hR3 hE3 => ?_) (fun p3 v3 h3 hd3 he3 hb3 hX3 => ?_)
    · subst hr3
      have hP := zN_gen hK2 rfl
      cases hP
      exact hN _ _ _ _ _ rfl hz3 hpp3 hb3 hR3 (fun s => zE_app (hE1 _) (hE3 s))
    · have hx9 := zX_gen hK2 hd3 he3 (fun hd c => zDg_ok hd)
      exact hXc _ _ _ hx9.1 hx9.2 hb3 hX3
  · have hX1 := hX.2.1
    have hX2 := hX.2.2.1
    have hX3 := hX.2.2.2
    have hb9 := hb1
    have hb8 := hb1 rfl
    try simp only [zup_ap, zup_row, ne_eq, not_false_eq_true, zres, Int.toNat_natCast, reduceIte, Nat.reduceEqDiff, Nat.reduceAdd, and_self, and_true, true_and, and_false, false_and]
    skip
    refine z_is3 dX9_condition_6 (Nat.le_of_ble_eq_true rfl) rfl ?_
    refine z_al0 dX9_condition_7 (by first | decide | omega | assumption) ?_
    refine z_getI zfX9_160 dX9_condition_8 (zkB hΓ rfl) rfl ?_
    try simp only [zup_ap, zup_row, ne_eq, not_false_eq_true, zres, Int.toNat_natCast, reduceIte, Nat.reduceEqDiff, Nat.reduceAdd, and_self, and_true, true_and, and_false, false_and]
    refine z_iconst dX9_condition_11 (by decide) ?_
    refine z_icmp_ne (t := 60) dX9_condition_12 (by rfl) (fun ht12 => ?_) (fun hf12 => ?_)
    · skip
      first
      | (exfalso; omega)
      | (refine z_il3 dX9_condition_60 ?_
         refine z_zret dX9_condition_61 rfl (Nat.le_refl _) (Nat.le_refl _) (zext_rf _) (by exact hb8) ?_
         have hx9 := zX_gen hK1 hd1 he1 (fun hd c => zDg_lp hd (by decide) (zDg_ok hd))
         exact hXc _ _ _ hx9.1 hx9.2 hb9 hX)
    · exfalso; omega
