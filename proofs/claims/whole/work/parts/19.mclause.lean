/-! the reference's clauses; its walk through a text -/
theorem zSm_0 {l : Launch} {Γ : zC} {h0 : zM} {n : Nat} {t : Nat → Int} {L : Int → Int} {tag bl : Nat} {M : zMI} {args : List zV} : zSm l Γ h0 n t L 0 tag bl M args := by
  intro D p dep h r Q hD hR hp hdep hP; cases hP
theorem zM_all {l : Launch} {Γ : zC} {h0 : zM} {R b n : Nat} {t : Nat → Int} (hΓ : zBase Γ) (hT : zTx Γ h0 R b n t) : ∀ f, zSm l Γ h0 n t (fun s => h0 93 s.toNat) f 0 0 mX9_atom [] ∧ zSm l Γ h0 n t (fun s => h0 93 s.toNat) f 1 0 mX9_term [] ∧ zSm l Γ h0 n t (fun s => h0 93 s.toNat) f 3 0 mX9_sum [] ∧ zSm l Γ h0 n t (fun s => h0 93 s.toNat) f 6 1 mX9_unit [] ∧ zSm l Γ h0 n t (fun s => h0 93 s.toNat) f 10 1 mX9_condition [zI 0, zI 0] := by
  intro f
  induction f using Nat.strongRecOn with
  | ind f ih =>
    cases f with
    | zero => exact ⟨zSm_0, zSm_0, zSm_0, zSm_0, zSm_0⟩
    | succ f =>
      have iA := fun g hg => (ih g hg).1
      have iT := fun g hg => (ih g hg).2.1
      have iS := fun g hg => (ih g hg).2.2.1
      have iU := fun g hg => (ih g hg).2.2.2.1
      have iC := fun g hg => (ih g hg).2.2.2.2
      exact ⟨zM_atom hΓ hT iS, zM_term hΓ hT iA, zM_sum hΓ hT iT, zM_unit hΓ hT iS iU iC, zM_cond hΓ hT iU⟩
theorem zP11n {t : Nat → Int} {n f q dep : Nat} {k : Nat → List Int → Option zRs} {r : zRs} (hz : ¬ zsg t n q = 63) (h : zbd (zP t n f 11 q dep) k = some r) : r = (false, q, []) := by
  cases f with
  | zero => cases h
  | succ f =>
    simp only [zP] at h
    rw [if_neg hz] at h
    cases h; rfl
theorem zP11p {t : Nat → Int} {n f q dep : Nat} {k : Nat → List Int → Option zRs} {r : zRs} (hz : zsg t n q = 63) (h : zbd (zP t n f 11 q dep) k = some r) : ∃ g, f = g + 1 ∧ zbd (zP t n g 3 (zskip t n (q + 1)) 0) (fun p c => k p (-63 :: (c ++ [-59]))) = some r := by
  cases f with
  | zero => cases h
  | succ f =>
    refine ⟨f, rfl, ?_⟩
    simp only [zP] at h
    rw [if_pos hz, zbd_as] at h
    exact h
/-- what a CLAUSE's signs do: they answer, or are passed over -/
theorem zcl_u {L : Int → Int} {c : List Int} {v : Int} (h : ∀ s, zE L c s (v :: s)) : ∀ rest, zwor L ((c ++ [-59]) ++ rest) [] false = v := fun rest => by
  rw [List.append_assoc, h []]
  show zwor L (-59 :: rest) [v] false = v
  rw [zwor_e (by decide)]; rfl
theorem zcl_1 {L : Int → Int} {c c2 : List Int} {b v : Int} (h : ∀ s, zE L c s (b :: s)) (hb : ¬ b = 0) (h2 : ∀ s, zE L c2 s (v :: s)) : ∀ rest, zwor L ((c ++ -63 :: (c2 ++ [-59])) ++ rest) [] false = v := fun rest => by
  rw [List.append_assoc, h []]
  show zwor L (-63 :: ((c2 ++ [-59]) ++ rest)) [b] false = v
  rw [zwor_q2 (by decide) hb]
  exact zcl_u h2 rest
theorem zcl_0 {L : Int → Int} {c c2 : List Int} {b : Int} (h : ∀ s, zE L c s (b :: s)) (hb : b = 0) (h2 : ∀ x ∈ c2, -x ≠ 59) : ∀ rest, zwor L ((c ++ -63 :: (c2 ++ [-59])) ++ rest) [] false = zwor L rest [] false := fun rest => by
  rw [List.append_assoc, h []]
  show zwor L (-63 :: ((c2 ++ [-59]) ++ rest)) [b] false = _
  rw [zwor_q1 (by decide) hb, List.append_assoc]
  exact zwor_pass c2 rest [] h2
theorem zwx_59 {t : Nat → Int} {n f q dep p : Nat} {c : List Int} (h : zP t n f 3 q dep = some (true, p, c)) : ∀ x ∈ c, -x ≠ 59 := fun x hx => by
  rcases zP_wf t n f 3 q dep p c h x hx with h1 | ⟨h1, -⟩
  · omega
  · omega
theorem zP588 {t : Nat → Int} {n f q dep : Nat} {c : List Int} {r : zRs} (h : zbd (zP t n f 5 q dep) (fun p2 c2 => zbd (zP t n f 8 p2 dep) (fun p3 c3 => zbd (zP t n f 11 p3 dep) (fun p4 c4 => zok p4 (c ++ (c2 ++ (c3 ++ c4)))))) = some r) : zbd (zbd (zP t n f 5 q dep) (fun p c => zbd (zP t n f 8 p dep) (fun p2 c2 => zok p2 (c ++ c2)))) (fun p3 c3 => zbd (zP t n f 11 p3 dep) (fun p4 c4 => zok p4 ((c ++ c3) ++ c4))) = some r := by
  rw [zbd_as]
  simp only [zbd_as]
  rw [← h]
  congr 1; funext p2 c2
  congr 1; funext p3 c3
  show zbd (zP t n f 11 p3 dep) _ = _
  congr 1; funext p4 c4
  simp only [List.append_assoc]
set_option maxRecDepth 4000 in
theorem zM_clause {l : Launch} {Γ : zC} {h0 : zM} {R b n : Nat} {t : Nat → Int} (hΓ : zBase Γ) (hT : zTx Γ h0 R b n t) : ∀ (f D p : Nat) (h : zM) (r : zRs) (Q : Option zV → zC → zM → Prop), 2 * f + 12 ≤ D → (h0 89 17 = 0 ∨ h0 89 17 = 1) → h0 89 13 = 121 → zMS h0 h p 0 → p ≤ 160 → zP t n (f + 1) 12 (zskip t n p) 0 = some r →
  (∀ (p1 : Nat) (c1 : List Int) (pp : Nat) (v : Int) (h' : zM), r = (true, p1, c1) → zskip t n pp = p1 → pp ≤ 160 → h0 89 17 = 0 → (∃ h1, zMS h0 h1 pp 0 ∧ h' = zup (zup h1 89 17 1) 89 14 v) → (∀ rest, zwor (fun s => h0 93 s.toNat) (c1 ++ rest) [] false = v) → Q none Γ h') →
  (∀ (p1 : Nat) (c1 : List Int) (pp : Nat) (h' : zM), r = (true, p1, c1) → zskip t n pp = p1 → pp ≤ 160 → (¬ h0 89 17 = 0 ∨ ∀ rest, zwor (fun s => h0 93 s.toNat) (c1 ++ rest) [] false = zwor (fun s => h0 93 s.toNat) rest [] false) → zMS h0 h' pp 0 → Q none Γ h') →
  (∀ (p1 : Nat) (h' : zM), (r.1 = false ∨ zdg (zsg t n p1)) → r.2.1 = p1 → zMX h0 h' p1 0 → Q none Γ h') → zCT l mX9_clause D 0 0 Γ [zR 89] h Q := by
  intro f D p h r Q hD h17 h13 hR hp hP hN1 hN0 hXc
  have sk1 := fun k => zskip_b t n k
  have s0 := sk1 p
  have hn2 := hT.2.2.2.1
  simp only [zP] at hP
  refine zCT_of (by decide) (Nat.le_of_ble_eq_true rfl) (ls := [some (zR 89), none, none, none, none]) rfl ?_
  refine z_al0 dX9_clause_0 (by first | decide | omega | assumption) ?_
  refine zcv0 dX9_clause_1 zkX9_170 ziX9_look zsX9_look (zkB hΓ rfl) (by decide) rfl (Nat.le_of_ble_eq_true rfl) (by decide) (by first | decide | omega) ⟨Nat.le_refl _, Nat.le_refl _⟩ (zM_look hΓ hT hR (by omega) (fun h hR _ => ?_))
  try simp only [zup_ap, zup_row, ne_eq, not_false_eq_true, zres, Int.toNat_natCast, reduceIte, Nat.reduceEqDiff, Nat.reduceAdd, and_self, and_true, true_and, and_false, false_and]
  refine z_is1 dX9_clause_4 (Nat.le_of_ble_eq_true rfl) rfl ?_
  refine z_ldcS0 dX9_clause_5 rfl ?_
  refine z_il1 dX9_clause_7 ?_
  refine zcs2 dX9_clause_8 zkX9_186 ztX9_isAmong (Nat.le_of_ble_eq_true rfl) (by decide) (by first | decide | omega) ⟨Nat.le_refl _, Nat.le_refl _⟩ (X9_isAmong_ct (i := 0) (by decide) (fun _ => ?_))
  try simp only [zup_ap, zup_row, ne_eq, not_false_eq_true, zres, Int.toNat_natCast, reduceIte, Nat.reduceEqDiff, Nat.reduceAdd, and_self, and_true, true_and, and_false, false_and]
  refine z_if_ne (t := 20) dX9_clause_11 (by rfl) (fun ht11 => ?_) (fun hf11 => ?_)
  · have hy := zin0.mp (zif1.mp ht11)
    rw [if_pos hy] at hP
    have l0 := zsg_lt hy (by decide)
    have s1 := sk1 (zskip t n p + 1)
    rw [hy]
    refine z_al0 dX9_clause_20 (by first | decide | omega | assumption) ?_
    have a1 := hR.2.1
    refine z_dup dX9_clause_21 rfl ?_
    refine z_getI zfX9_151 dX9_clause_22 (zkB hΓ rfl) rfl ?_
    try simp only [zup_ap, zup_row, ne_eq, not_false_eq_true, zres, Int.toNat_natCast, reduceIte, Nat.reduceEqDiff, Nat.reduceAdd, and_self, and_true, true_and, and_false, false_and]
    refine z_iconst dX9_clause_25 (by decide) ?_
    refine z_iadd dX9_clause_26 (by omega) ?_
    refine z_putI zfX9_151 dX9_clause_27 (zkB hΓ rfl) rfl rfl ?_
    have hR := zMS_inc hR
    refine z_al0 dX9_clause_30 (by first | decide | omega | assumption) ?_
    refine z_bipush (x := 58) dX9_clause_31 (by rfl) (by decide) ?_
    refine zcv1 dX9_clause_33 zkX9_196 ziX9_takes zsX9_takes (zkB hΓ rfl) (by decide) rfl (Nat.le_of_ble_eq_true rfl) (by decide) (by first | decide | omega) ⟨Nat.le_refl _, Nat.le_refl _⟩ (zM_takes hΓ hT hR (by omega) (by omega) (fun hc h hX _ => ?_) (fun hc h hR _ => ?_))
    · rw [if_neg hc] at hP
      try simp only [zup_ap, zup_row, ne_eq, not_false_eq_true, zres, Int.toNat_natCast, reduceIte, Nat.reduceEqDiff, Nat.reduceAdd, and_self, and_true, true_and, and_false, false_and]
      refine z_if_ne (t := 40) dX9_clause_36 (by rfl) (fun hx => absurd hx (by decide)) (fun _ => ?_)
      refine z_ret dX9_clause_39 rfl (Nat.le_refl _) (Nat.le_refl _) (zext_rf _) ?_
      cases hP
      exact hXc _ _ (Or.inl rfl) rfl hX
    · rw [if_pos hc] at hP
      have l1 := zsg_lt hc (by decide)
      have s2 := sk1 (zskip t n (zskip t n p + 1) + 1)
      try simp only [zup_ap, zup_row, ne_eq, not_false_eq_true, zres, Int.toNat_natCast, reduceIte, Nat.reduceEqDiff, Nat.reduceAdd, and_self, and_true, true_and, and_false, false_and]
      refine z_if_ne (t := 40) dX9_clause_36 (by rfl) (fun _ => ?_) (fun hx => absurd hx (by decide))
      refine z_iconst dX9_clause_40 (by decide) ?_
      refine z_is2 dX9_clause_41 (Nat.le_of_ble_eq_true rfl) rfl ?_
      refine z_iconst dX9_clause_42 (by decide) ?_
      refine z_is3 dX9_clause_43 (Nat.le_of_ble_eq_true rfl) rfl ?_
      refine z_al0 dX9_clause_44 (by first | decide | omega | assumption) ?_
      refine zcv0 dX9_clause_45 zkX9_170 ziX9_look zsX9_look (zkB hΓ rfl) (by decide) rfl (Nat.le_of_ble_eq_true rfl) (by decide) (by first | decide | omega) ⟨Nat.le_refl _, Nat.le_refl _⟩ (zM_look hΓ hT hR (by omega) (fun h hR _ => ?_))
      try simp only [zup_ap, zup_row, ne_eq, not_false_eq_true, zres, Int.toNat_natCast, reduceIte, Nat.reduceEqDiff, Nat.reduceAdd, and_self, and_true, true_and, and_false, false_and]
      refine z_is4 dX9_clause_48 (Nat.le_of_ble_eq_true rfl) rfl ?_
      refine z_il4 dX9_clause_50 ?_
      refine z_bipush (x := 33) dX9_clause_52 (by rfl) (by decide) ?_
      refine z_icmp_eq (t := 64) dX9_clause_54 (by rfl) (fun ht54 => ?_) (fun hf54 => ?_)
      · rw [if_pos (Or.inl ht54)] at hP
        refine z_al0 dX9_clause_64 (by first | decide | omega | assumption) ?_
        refine z_iconst dX9_clause_65 (by decide) ?_
        refine z_iconst dX9_clause_66 (by decide) ?_
        obtain ⟨r1, hP1, hK1⟩ := zbd_e hP
        refine zcv2 dX9_clause_67 zkX9_219 ziX9_condition zsX9_condition (zkB hΓ rfl) (by decide) rfl (Nat.le_of_ble_eq_true rfl) (by decide) (by first | decide | omega) ⟨Nat.le_refl _, Nat.le_refl _⟩ ((zM_all hΓ hT f).2.2.2.2 (2 * f + 8) _ 0 _ r1 _ (Nat.le_refl _) hR (by omega) (by omega) (by first | exact hP1 | (rw [zskip_id]; exact hP1)) (fun p1 c1 pp1 v1 h hr1 hz1 hpp1 hb1 hR hE1 _ => ?_) (fun p1 v1 h hd1 he1 hb1 hX _ => ?_))
        · subst hr1
          have hP := zN_gen hK1 rfl
          try dsimp only at hP
          have b1 := zP_c hP1 (by decide)
          have hb1 := hb1 rfl
          try simp only [zup_ap, zup_row, ne_eq, not_false_eq_true, zres, Int.toNat_natCast, reduceIte, Nat.reduceEqDiff, Nat.reduceAdd, and_self, and_true, true_and, and_false, false_and]
          skip
          refine z_is2 dX9_clause_70 (Nat.le_of_ble_eq_true rfl) rfl ?_
          refine z_al0 dX9_clause_71 (by first | decide | omega | assumption) ?_
          refine z_bipush (x := 63) dX9_clause_72 (by rfl) (by decide) ?_
          refine zcv1 dX9_clause_74 zkX9_196 ziX9_takes zsX9_takes (zkB hΓ rfl) (by decide) rfl (Nat.le_of_ble_eq_true rfl) (by decide) (by first | decide | omega) ⟨Nat.le_refl _, Nat.le_refl _⟩ (zM_takes hΓ hT hR (by omega) (by omega) (fun hc h hX _ => ?_) (fun hc h hR _ => ?_))
          · rw [hz1] at hc hX
            have e9 := zP11n hc hP
            subst e9
            try simp only [zup_ap, zup_row, ne_eq, not_false_eq_true, zres, Int.toNat_natCast, reduceIte, Nat.reduceEqDiff, Nat.reduceAdd, and_self, and_true, true_and, and_false, false_and]
            skip
            refine z_if_ne (t := 81) dX9_clause_77 (by rfl) (fun hx => absurd hx (by decide)) (fun _ => ?_)
            refine z_ret dX9_clause_80 rfl (Nat.le_refl _) (Nat.le_refl _) (zext_rf _) ?_
            exact hXc _ _ (Or.inl rfl) rfl hX
          · rw [hz1] at hc hR
            obtain ⟨g1, hg1, hP⟩ := zP11p hc hP
            have l19 := zsg_lt hc (by decide)
            have s19 := sk1 (p1 + 1)
            try simp only [zup_ap, zup_row, ne_eq, not_false_eq_true, zres, Int.toNat_natCast, reduceIte, Nat.reduceEqDiff, Nat.reduceAdd, and_self, and_true, true_and, and_false, false_and]
            refine z_if_ne (t := 81) dX9_clause_77 (by rfl) (fun _ => ?_) (fun hx => absurd hx (by decide))
            refine z_al0 dX9_clause_81 (by first | decide | omega | assumption) ?_
            obtain ⟨r2, hP2, hK2⟩ := zbd_e hP
            refine zcv0 dX9_clause_82 zkX9_193 ziX9_sum zsX9_sum (zkB hΓ rfl) (by decide) rfl (Nat.le_of_ble_eq_true rfl) (by decide) (by first | decide | omega) ⟨Nat.le_refl _, Nat.le_refl _⟩ ((zM_all hΓ hT g1).2.2.1 (2 * g1 + 8) _ 0 _ r2 _ (Nat.le_refl _) hR (by omega) (by omega) (by first | exact hP2 | (rw [zskip_id]; exact hP2)) (fun p2 c2 pp2 v2 h hr2 hz2 hpp2 hb2 hR hE2 _ => ?_) (fun p2 v2 h hd2 he2 hb2 hX _ => ?_))
            · subst hr2
              have hP := zN_gen hK2 rfl
              try dsimp only at hP
              have b2 := zP_c hP2 (by decide)
              try simp only [zup_ap, zup_row, ne_eq, not_false_eq_true, zres, Int.toNat_natCast, reduceIte, Nat.reduceEqDiff, Nat.reduceAdd, and_self, and_true, true_and, and_false, false_and]
              skip
              refine z_is3 dX9_clause_85 (Nat.le_of_ble_eq_true rfl) rfl ?_
              refine z_goto (t := 134) dX9_clause_86 (by rfl) ?_
              refine z_al0 dX9_clause_134 (by first | decide | omega | assumption) ?_
              refine z_getI zfX9_160 dX9_clause_135 (zkB hΓ rfl) rfl ?_
              try simp only [zup_ap, zup_row, ne_eq, not_false_eq_true, zres, Int.toNat_natCast, reduceIte, Nat.reduceEqDiff, Nat.reduceAdd, and_self, and_true, true_and, and_false, false_and]
              refine z_iconst dX9_clause_138 (by decide) ?_
              refine z_icmp_ne (t := 161) dX9_clause_139 (by rfl) (fun ht139 => ?_) (fun hf139 => ?_)
              · exfalso; exact ht139 hR.2.2.1
              · have hf17 := hR.1.2 17 (by decide) (by decide) (by decide)
                have hf13 := hR.1.2 13 (by decide) (by decide) (by decide)
                refine z_al0 dX9_clause_142 (by first | decide | omega | assumption) ?_
                refine z_getZ zfX9_229 dX9_clause_143 (zkB hΓ rfl) rfl ?_
                try simp only [zup_ap, zup_row, ne_eq, not_false_eq_true, zres, Int.toNat_natCast, reduceIte, Nat.reduceEqDiff, Nat.reduceAdd, and_self, and_true, true_and, and_false, false_and]
                refine z_if_ne (t := 161) dX9_clause_146 (by rfl) (fun ht146 => ?_) (fun hf146 => ?_)
                · refine z_ret dX9_clause_161 rfl (Nat.le_refl _) (Nat.le_refl _) (zext_rf _) ?_
                  cases hP
                  first
                  | exact hN0 _ _ _ _ rfl hz2 hpp2 (Or.inl (by omega)) hR
                  | (refine hN0 _ _ _ _ rfl hz2 hpp2 (Or.inr (fun rest => ?_)) hR
                     exact zcl_0 hE1 (by omega) (zwx_59 hP2) rest)
                · refine z_il1 dX9_clause_149 ?_
                  refine z_al0 dX9_clause_150 (by first | decide | omega | assumption) ?_
                  refine z_getI zfX9_233 dX9_clause_151 (zkB hΓ rfl) rfl ?_
                  try simp only [zup_ap, zup_row, ne_eq, not_false_eq_true, zres, Int.toNat_natCast, reduceIte, Nat.reduceEqDiff, Nat.reduceAdd, and_self, and_true, true_and, and_false, false_and]
                  refine z_icmp_ne (t := 161) dX9_clause_154 (by rfl) (fun ht154 => ?_) (fun hf154 => ?_)
                  · exfalso; rw [hf13] at ht154; omega
                  · refine z_il2 dX9_clause_157 ?_
                    refine z_if_ne (t := 162) dX9_clause_158 (by rfl) (fun ht158 => ?_) (fun hf158 => ?_)
                    · refine z_al0 dX9_clause_162 (by first | decide | omega | assumption) ?_
                      refine z_iconst dX9_clause_163 (by decide) ?_
                      refine z_putZ zfX9_229 dX9_clause_164 (zkB hΓ rfl) rfl rfl (by first | exact Or.inl rfl | exact Or.inr rfl | omega) ?_
                      refine z_al0 dX9_clause_167 (by first | decide | omega | assumption) ?_
                      refine z_il3 dX9_clause_168 ?_
                      refine z_putI zfX9_236 dX9_clause_169 (zkB hΓ rfl) rfl rfl ?_
                      refine z_ret dX9_clause_172 rfl (Nat.le_refl _) (Nat.le_refl _) (zext_rf _) ?_
                      cases hP
                      refine hN1 _ _ _ _ _ rfl hz2 hpp2 (by omega) ⟨_, hR, rfl⟩ (fun rest => ?_)
                      exact zcl_1 hE1 (by omega) hE2 rest
                    · refine z_ret dX9_clause_161 rfl (Nat.le_refl _) (Nat.le_refl _) (zext_rf _) ?_
                      cases hP
                      first
                      | exact hN0 _ _ _ _ rfl hz2 hpp2 (Or.inl (by omega)) hR
                      | (refine hN0 _ _ _ _ rfl hz2 hpp2 (Or.inr (fun rest => ?_)) hR
                         exact zcl_0 hE1 (by omega) (zwx_59 hP2) rest)
            · have hX1 := hX.2.1
              have hX2 := hX.2.2.1
              have hX3 := hX.2.2.2
              try simp only [zup_ap, zup_row, ne_eq, not_false_eq_true, zres, Int.toNat_natCast, reduceIte, Nat.reduceEqDiff, Nat.reduceAdd, and_self, and_true, true_and, and_false, false_and]
              skip
              refine z_is3 dX9_clause_85 (Nat.le_of_ble_eq_true rfl) rfl ?_
              refine z_goto (t := 134) dX9_clause_86 (by rfl) ?_
              refine z_al0 dX9_clause_134 (by first | decide | omega | assumption) ?_
              refine z_getI zfX9_160 dX9_clause_135 (zkB hΓ rfl) rfl ?_
              try simp only [zup_ap, zup_row, ne_eq, not_false_eq_true, zres, Int.toNat_natCast, reduceIte, Nat.reduceEqDiff, Nat.reduceAdd, and_self, and_true, true_and, and_false, false_and]
              refine z_iconst dX9_clause_138 (by decide) ?_
              refine z_icmp_ne (t := 161) dX9_clause_139 (by rfl) (fun ht139 => ?_) (fun hf139 => ?_)
              · skip
                first
                | (exfalso; omega)
                | (refine z_ret dX9_clause_161 rfl (Nat.le_refl _) (Nat.le_refl _) (zext_rf _) ?_
                   have hx9 := zX_gen hK2 hd2 he2 (fun hd c => zDg_ok hd)
                   exact hXc _ _ hx9.1 hx9.2 hX)
              · exfalso; omega
        · have hX1 := hX.2.1
          have hX2 := hX.2.2.1
          have hX3 := hX.2.2.2
          try simp only [zup_ap, zup_row, ne_eq, not_false_eq_true, zres, Int.toNat_natCast, reduceIte, Nat.reduceEqDiff, Nat.reduceAdd, and_self, and_true, true_and, and_false, false_and]
          skip
          refine z_is2 dX9_clause_70 (Nat.le_of_ble_eq_true rfl) rfl ?_
          refine z_al0 dX9_clause_71 (by first | decide | omega | assumption) ?_
          refine z_bipush (x := 63) dX9_clause_72 (by rfl) (by decide) ?_
          refine zcv1 dX9_clause_74 zkX9_196 ziX9_takes zsX9_takes (zkB hΓ rfl) (by decide) rfl (Nat.le_of_ble_eq_true rfl) (by decide) (by first | decide | omega) ⟨Nat.le_refl _, Nat.le_refl _⟩ (zM_takesX hΓ hX (fun _ => ?_))
          · try simp only [zup_ap, zup_row, ne_eq, not_false_eq_true, zres, Int.toNat_natCast, reduceIte, Nat.reduceEqDiff, Nat.reduceAdd, and_self, and_true, true_and, and_false, false_and]
            refine z_if_ne (t := 81) dX9_clause_77 (by rfl) (fun hx => absurd hx (by decide)) (fun _ => ?_)
            refine z_ret dX9_clause_80 rfl (Nat.le_refl _) (Nat.le_refl _) (zext_rf _) ?_
            have hx9 := zX_gen hK1 hd1 he1 (fun hd c => zDg_51 hd (Or.inr rfl))
            exact hXc _ _ hx9.1 hx9.2 hX
      · refine z_il4 dX9_clause_57 ?_
        refine z_bipush (x := 40) dX9_clause_59 (by rfl) (by decide) ?_
        refine z_icmp_ne (t := 89) dX9_clause_61 (by rfl) (fun ht61 => ?_) (fun hf61 => ?_)
        · rw [if_neg (by omega)] at hP
          refine z_al0 dX9_clause_89 (by first | decide | omega | assumption) ?_
          obtain ⟨r1, hP1, hK1⟩ := zbd_e hP
          refine zcv0 dX9_clause_90 zkX9_193 ziX9_sum zsX9_sum (zkB hΓ rfl) (by decide) rfl (Nat.le_of_ble_eq_true rfl) (by decide) (by first | decide | omega) ⟨Nat.le_refl _, Nat.le_refl _⟩ ((zM_all hΓ hT f).2.2.1 (2 * f + 8) _ 0 _ r1 _ (Nat.le_refl _) hR (by omega) (by omega) (by first | exact hP1 | (rw [zskip_id]; exact hP1)) (fun p1 c1 pp1 v1 h hr1 hz1 hpp1 hb1 hR hE1 _ => ?_) (fun p1 v1 h hd1 he1 hb1 hX _ => ?_))
          · subst hr1
            have hP := zN_gen hK1 rfl
            try dsimp only at hP
            have b1 := zP_c hP1 (by decide)
            try simp only [zup_ap, zup_row, ne_eq, not_false_eq_true, zres, Int.toNat_natCast, reduceIte, Nat.reduceEqDiff, Nat.reduceAdd, and_self, and_true, true_and, and_false, false_and]
            skip
            refine z_is3 dX9_clause_93 (Nat.le_of_ble_eq_true rfl) rfl ?_
            refine z_al0 dX9_clause_94 (by first | decide | omega | assumption) ?_
            refine z_getI zfX9_160 dX9_clause_95 (zkB hΓ rfl) rfl ?_
            try simp only [zup_ap, zup_row, ne_eq, not_false_eq_true, zres, Int.toNat_natCast, reduceIte, Nat.reduceEqDiff, Nat.reduceAdd, and_self, and_true, true_and, and_false, false_and]
            refine z_iconst dX9_clause_98 (by decide) ?_
            refine z_icmp_ne (t := 134) dX9_clause_99 (by rfl) (fun ht99 => ?_) (fun hf99 => ?_)
            · exfalso; exact ht99 hR.2.2.1
            · refine z_al0 dX9_clause_102 (by first | decide | omega | assumption) ?_
              refine zcv0 dX9_clause_103 zkX9_170 ziX9_look zsX9_look (zkB hΓ rfl) (by decide) rfl (Nat.le_of_ble_eq_true rfl) (by decide) (by first | decide | omega) ⟨Nat.le_refl _, Nat.le_refl _⟩ (zM_look hΓ hT hR (by omega) (fun h hR _ => ?_))
              try simp only [zup_ap, zup_row, ne_eq, not_false_eq_true, zres, Int.toNat_natCast, reduceIte, Nat.reduceEqDiff, Nat.reduceAdd, and_self, and_true, true_and, and_false, false_and]
              have hzz : zskip t n p1 = p1 := by rw [← hz1]; exact zskip_id t n _
              simp only [hz1] at hR ⊢
              refine zcs1 dX9_clause_106 zkX9_213 ztX9_isSign (Nat.le_of_ble_eq_true rfl) (by decide) (by first | decide | omega) ⟨Nat.le_refl _, Nat.le_refl _⟩ (X9_isSign_ct (fun _ => ?_))
              try simp only [zup_ap, zup_row, ne_eq, not_false_eq_true, zres, Int.toNat_natCast, reduceIte, Nat.reduceEqDiff, Nat.reduceAdd, and_self, and_true, true_and, and_false, false_and]
              refine z_if_eq (t := 134) dX9_clause_109 (by rfl) (fun ht109 => ?_) (fun hf109 => ?_)
              · have hz9 := zif0.mp ht109
                rw [if_neg hz9] at hP
                refine z_al0 dX9_clause_134 (by first | decide | omega | assumption) ?_
                refine z_getI zfX9_160 dX9_clause_135 (zkB hΓ rfl) rfl ?_
                try simp only [zup_ap, zup_row, ne_eq, not_false_eq_true, zres, Int.toNat_natCast, reduceIte, Nat.reduceEqDiff, Nat.reduceAdd, and_self, and_true, true_and, and_false, false_and]
                refine z_iconst dX9_clause_138 (by decide) ?_
                refine z_icmp_ne (t := 161) dX9_clause_139 (by rfl) (fun ht139 => ?_) (fun hf139 => ?_)
                · exfalso; exact ht139 hR.2.2.1
                · have hf17 := hR.1.2 17 (by decide) (by decide) (by decide)
                  have hf13 := hR.1.2 13 (by decide) (by decide) (by decide)
                  refine z_al0 dX9_clause_142 (by first | decide | omega | assumption) ?_
                  refine z_getZ zfX9_229 dX9_clause_143 (zkB hΓ rfl) rfl ?_
                  try simp only [zup_ap, zup_row, ne_eq, not_false_eq_true, zres, Int.toNat_natCast, reduceIte, Nat.reduceEqDiff, Nat.reduceAdd, and_self, and_true, true_and, and_false, false_and]
                  refine z_if_ne (t := 161) dX9_clause_146 (by rfl) (fun ht146 => ?_) (fun hf146 => ?_)
                  · refine z_ret dX9_clause_161 rfl (Nat.le_refl _) (Nat.le_refl _) (zext_rf _) ?_
                    cases hP
                    exact hN0 _ _ _ _ rfl (by first | exact hz1 | exact hzz) (by omega) (Or.inl (by omega)) hR
                  · refine z_il1 dX9_clause_149 ?_
                    refine z_al0 dX9_clause_150 (by first | decide | omega | assumption) ?_
                    refine z_getI zfX9_233 dX9_clause_151 (zkB hΓ rfl) rfl ?_
                    try simp only [zup_ap, zup_row, ne_eq, not_false_eq_true, zres, Int.toNat_natCast, reduceIte, Nat.reduceEqDiff, Nat.reduceAdd, and_self, and_true, true_and, and_false, false_and]
                    refine z_icmp_ne (t := 161) dX9_clause_154 (by rfl) (fun ht154 => ?_) (fun hf154 => ?_)
                    · exfalso; rw [hf13] at ht154; omega
                    · refine z_il2 dX9_clause_157 ?_
                      refine z_if_ne (t := 162) dX9_clause_158 (by rfl) (fun _ => ?_) (fun hx => absurd hx (by decide))
                      refine z_al0 dX9_clause_162 (by first | decide | omega | assumption) ?_
                      refine z_iconst dX9_clause_163 (by decide) ?_
                      refine z_putZ zfX9_229 dX9_clause_164 (zkB hΓ rfl) rfl rfl (by first | exact Or.inl rfl | exact Or.inr rfl | omega) ?_
                      refine z_al0 dX9_clause_167 (by first | decide | omega | assumption) ?_
                      refine z_il3 dX9_clause_168 ?_
                      refine z_putI zfX9_236 dX9_clause_169 (zkB hΓ rfl) rfl rfl ?_
                      refine z_ret dX9_clause_172 rfl (Nat.le_refl _) (Nat.le_refl _) (zext_rf _) ?_
                      cases hP
                      refine hN1 _ _ _ _ _ rfl (by first | exact hz1 | exact hzz) (by omega) (by omega) ⟨_, hR, rfl⟩ (fun rest => ?_)
                      exact zcl_u hE1 rest
              · have hz9 := zif1.mp hf109
                rw [if_pos hz9] at hP
                refine z_al0 dX9_clause_112 (by first | decide | omega | assumption) ?_
                refine z_iconst dX9_clause_113 (by decide) ?_
                refine z_il3 dX9_clause_114 ?_
                have hf9 : 1 ≤ f := Nat.pos_of_ne_zero (fun e => by rw [e] at hP1; cases hP1)
                have hP := zP588 hP
                obtain ⟨r2, hP2, hK2⟩ := zbd_e hP
                refine zcv2 dX9_clause_115 zkX9_219 ziX9_condition zsX9_condition (zkB hΓ rfl) (by decide) rfl (Nat.le_of_ble_eq_true rfl) (by decide) (by first | decide | omega) ⟨Nat.le_refl _, Nat.le_refl _⟩ (zM_cond1 (f := f) hΓ hT (fun g _ => (zM_all hΓ hT g).2.2.1) (fun g _ => (zM_all hΓ hT g).2.2.2.1) (2 * f + 11) f f _ 0 v1 _ r2 _ (Nat.le_refl _) (Nat.le_refl _) hf9 (Nat.le_refl _) hR (by omega) (by omega) (by rw [hzz]; exact hP2) (fun p2 c2 pp2 v2 h hr2 hz2 hpp2 hb2 hR hE2 _ => ?_) (fun p2 v2 h hd2 he2 hb2 hX _ => ?_))
                · subst hr2
                  have hP := zN_gen hK2 rfl
                  try dsimp only at hP
                  have hb2 := hb2 rfl
                  try simp only [zup_ap, zup_row, ne_eq, not_false_eq_true, zres, Int.toNat_natCast, reduceIte, Nat.reduceEqDiff, Nat.reduceAdd, and_self, and_true, true_and, and_false, false_and]
                  skip
                  refine z_is2 dX9_clause_118 (Nat.le_of_ble_eq_true rfl) rfl ?_
                  refine z_al0 dX9_clause_119 (by first | decide | omega | assumption) ?_
                  refine z_bipush (x := 63) dX9_clause_120 (by rfl) (by decide) ?_
                  refine zcv1 dX9_clause_122 zkX9_196 ziX9_takes zsX9_takes (zkB hΓ rfl) (by decide) rfl (Nat.le_of_ble_eq_true rfl) (by decide) (by first | decide | omega) ⟨Nat.le_refl _, Nat.le_refl _⟩ (zM_takes hΓ hT hR (by omega) (by omega) (fun hc h hX _ => ?_) (fun hc h hR _ => ?_))
                  · rw [hz2] at hc hX
                    have e9 := zP11n hc hP
                    subst e9
                    try simp only [zup_ap, zup_row, ne_eq, not_false_eq_true, zres, Int.toNat_natCast, reduceIte, Nat.reduceEqDiff, Nat.reduceAdd, and_self, and_true, true_and, and_false, false_and]
                    skip
                    refine z_if_ne (t := 129) dX9_clause_125 (by rfl) (fun hx => absurd hx (by decide)) (fun _ => ?_)
                    refine z_ret dX9_clause_128 rfl (Nat.le_refl _) (Nat.le_refl _) (zext_rf _) ?_
                    exact hXc _ _ (Or.inl rfl) rfl hX
                  · rw [hz2] at hc hR
                    obtain ⟨g2, hg2, hP⟩ := zP11p hc hP
                    have l29 := zsg_lt hc (by decide)
                    have s29 := sk1 (p2 + 1)
                    try simp only [zup_ap, zup_row, ne_eq, not_false_eq_true, zres, Int.toNat_natCast, reduceIte, Nat.reduceEqDiff, Nat.reduceAdd, and_self, and_true, true_and, and_false, false_and]
                    refine z_if_ne (t := 129) dX9_clause_125 (by rfl) (fun _ => ?_) (fun hx => absurd hx (by decide))
                    refine z_al0 dX9_clause_129 (by first | decide | omega | assumption) ?_
                    obtain ⟨r3, hP3, hK3⟩ := zbd_e hP
                    refine zcv0 dX9_clause_130 zkX9_193 ziX9_sum zsX9_sum (zkB hΓ rfl) (by decide) rfl (Nat.le_of_ble_eq_true rfl) (by decide) (by first | decide | omega) ⟨Nat.le_refl _, Nat.le_refl _⟩ ((zM_all hΓ hT g2).2.2.1 (2 * g2 + 8) _ 0 _ r3 _ (Nat.le_refl _) hR (by omega) (by omega) (by first | exact hP3 | (rw [zskip_id]; exact hP3)) (fun p3 c3 pp3 v3 h hr3 hz3 hpp3 hb3 hR hE3 _ => ?_) (fun p3 v3 h hd3 he3 hb3 hX _ => ?_))
                    · subst hr3
                      have hP := zN_gen hK3 rfl
                      try dsimp only at hP
                      have b3 := zP_c hP3 (by decide)
                      try simp only [zup_ap, zup_row, ne_eq, not_false_eq_true, zres, Int.toNat_natCast, reduceIte, Nat.reduceEqDiff, Nat.reduceAdd, and_self, and_true, true_and, and_false, false_and]
                      skip
                      refine z_is3 dX9_clause_133 (Nat.le_of_ble_eq_true rfl) rfl ?_
                      refine z_al0 dX9_clause_134 (by first | decide | omega | assumption) ?_
                      refine z_getI zfX9_160 dX9_clause_135 (zkB hΓ rfl) rfl ?_
                      try simp only [zup_ap, zup_row, ne_eq, not_false_eq_true, zres, Int.toNat_natCast, reduceIte, Nat.reduceEqDiff, Nat.reduceAdd, and_self, and_true, true_and, and_false, false_and]
                      refine z_iconst dX9_clause_138 (by decide) ?_
                      refine z_icmp_ne (t := 161) dX9_clause_139 (by rfl) (fun ht139 => ?_) (fun hf139 => ?_)
                      · exfalso; exact ht139 hR.2.2.1
                      · have hf17 := hR.1.2 17 (by decide) (by decide) (by decide)
                        have hf13 := hR.1.2 13 (by decide) (by decide) (by decide)
                        refine z_al0 dX9_clause_142 (by first | decide | omega | assumption) ?_
                        refine z_getZ zfX9_229 dX9_clause_143 (zkB hΓ rfl) rfl ?_
                        try simp only [zup_ap, zup_row, ne_eq, not_false_eq_true, zres, Int.toNat_natCast, reduceIte, Nat.reduceEqDiff, Nat.reduceAdd, and_self, and_true, true_and, and_false, false_and]
                        refine z_if_ne (t := 161) dX9_clause_146 (by rfl) (fun ht146 => ?_) (fun hf146 => ?_)
                        · refine z_ret dX9_clause_161 rfl (Nat.le_refl _) (Nat.le_refl _) (zext_rf _) ?_
                          cases hP
                          first
                          | exact hN0 _ _ _ _ rfl hz3 hpp3 (Or.inl (by omega)) hR
                          | (refine hN0 _ _ _ _ rfl hz3 hpp3 (Or.inr (fun rest => ?_)) hR
                             exact zcl_0 (c := c1 ++ c2) (fun s => zE_app (hE1 s) (hE2 s)) (by omega) (zwx_59 hP3) rest)
                        · refine z_il1 dX9_clause_149 ?_
                          refine z_al0 dX9_clause_150 (by first | decide | omega | assumption) ?_
                          refine z_getI zfX9_233 dX9_clause_151 (zkB hΓ rfl) rfl ?_
                          try simp only [zup_ap, zup_row, ne_eq, not_false_eq_true, zres, Int.toNat_natCast, reduceIte, Nat.reduceEqDiff, Nat.reduceAdd, and_self, and_true, true_and, and_false, false_and]
                          refine z_icmp_ne (t := 161) dX9_clause_154 (by rfl) (fun ht154 => ?_) (fun hf154 => ?_)
                          · exfalso; rw [hf13] at ht154; omega
                          · refine z_il2 dX9_clause_157 ?_
                            refine z_if_ne (t := 162) dX9_clause_158 (by rfl) (fun ht158 => ?_) (fun hf158 => ?_)
                            · refine z_al0 dX9_clause_162 (by first | decide | omega | assumption) ?_
                              refine z_iconst dX9_clause_163 (by decide) ?_
                              refine z_putZ zfX9_229 dX9_clause_164 (zkB hΓ rfl) rfl rfl (by first | exact Or.inl rfl | exact Or.inr rfl | omega) ?_
                              refine z_al0 dX9_clause_167 (by first | decide | omega | assumption) ?_
                              refine z_il3 dX9_clause_168 ?_
                              refine z_putI zfX9_236 dX9_clause_169 (zkB hΓ rfl) rfl rfl ?_
                              refine z_ret dX9_clause_172 rfl (Nat.le_refl _) (Nat.le_refl _) (zext_rf _) ?_
                              cases hP
                              refine hN1 _ _ _ _ _ rfl hz3 hpp3 (by omega) ⟨_, hR, rfl⟩ (fun rest => ?_)
                              exact zcl_1 (c := c1 ++ c2) (fun s => zE_app (hE1 s) (hE2 s)) (by omega) hE3 rest
                            · refine z_ret dX9_clause_161 rfl (Nat.le_refl _) (Nat.le_refl _) (zext_rf _) ?_
                              cases hP
                              first
                              | exact hN0 _ _ _ _ rfl hz3 hpp3 (Or.inl (by omega)) hR
                              | (refine hN0 _ _ _ _ rfl hz3 hpp3 (Or.inr (fun rest => ?_)) hR
                                 exact zcl_0 (c := c1 ++ c2) (fun s => zE_app (hE1 s) (hE2 s)) (by omega) (zwx_59 hP3) rest)
                    · have hX1 := hX.2.1
                      have hX2 := hX.2.2.1
                      have hX3 := hX.2.2.2
                      try simp only [zup_ap, zup_row, ne_eq, not_false_eq_true, zres, Int.toNat_natCast, reduceIte, Nat.reduceEqDiff, Nat.reduceAdd, and_self, and_true, true_and, and_false, false_and]
                      skip
                      refine z_is3 dX9_clause_133 (Nat.le_of_ble_eq_true rfl) rfl ?_
                      refine z_al0 dX9_clause_134 (by first | decide | omega | assumption) ?_
                      refine z_getI zfX9_160 dX9_clause_135 (zkB hΓ rfl) rfl ?_
                      try simp only [zup_ap, zup_row, ne_eq, not_false_eq_true, zres, Int.toNat_natCast, reduceIte, Nat.reduceEqDiff, Nat.reduceAdd, and_self, and_true, true_and, and_false, false_and]
                      refine z_iconst dX9_clause_138 (by decide) ?_
                      refine z_icmp_ne (t := 161) dX9_clause_139 (by rfl) (fun ht139 => ?_) (fun hf139 => ?_)
                      · skip
                        first
                        | (exfalso; omega)
                        | (refine z_ret dX9_clause_161 rfl (Nat.le_refl _) (Nat.le_refl _) (zext_rf _) ?_
                           have hx9 := zX_gen hK3 hd3 he3 (fun hd c => zDg_ok hd)
                           exact hXc _ _ hx9.1 hx9.2 hX)
                      · exfalso; omega
                · have hX1 := hX.2.1
                  try simp only [zup_ap, zup_row, ne_eq, not_false_eq_true, zres, Int.toNat_natCast, reduceIte, Nat.reduceEqDiff, Nat.reduceAdd, and_self, and_true, true_and, and_false, false_and]
                  skip
                  refine z_is2 dX9_clause_118 (Nat.le_of_ble_eq_true rfl) rfl ?_
                  refine z_al0 dX9_clause_119 (by first | decide | omega | assumption) ?_
                  refine z_bipush (x := 63) dX9_clause_120 (by rfl) (by decide) ?_
                  refine zcv1 dX9_clause_122 zkX9_196 ziX9_takes zsX9_takes (zkB hΓ rfl) (by decide) rfl (Nat.le_of_ble_eq_true rfl) (by decide) (by first | decide | omega) ⟨Nat.le_refl _, Nat.le_refl _⟩ (zM_takesX hΓ hX (fun _ => ?_))
                  · try simp only [zup_ap, zup_row, ne_eq, not_false_eq_true, zres, Int.toNat_natCast, reduceIte, Nat.reduceEqDiff, Nat.reduceAdd, and_self, and_true, true_and, and_false, false_and]
                    refine z_if_ne (t := 129) dX9_clause_125 (by rfl) (fun hx => absurd hx (by decide)) (fun _ => ?_)
                    refine z_ret dX9_clause_128 rfl (Nat.le_refl _) (Nat.le_refl _) (zext_rf _) ?_
                    have hx9 := zX_gen hK2 hd2 he2 (fun hd c => zDg_51 hd (Or.inr rfl))
                    exact hXc _ _ hx9.1 hx9.2 hX
          · have hX1 := hX.2.1
            have hX2 := hX.2.2.1
            have hX3 := hX.2.2.2
            try simp only [zup_ap, zup_row, ne_eq, not_false_eq_true, zres, Int.toNat_natCast, reduceIte, Nat.reduceEqDiff, Nat.reduceAdd, and_self, and_true, true_and, and_false, false_and]
            skip
            refine z_is3 dX9_clause_93 (Nat.le_of_ble_eq_true rfl) rfl ?_
            refine z_al0 dX9_clause_94 (by first | decide | omega | assumption) ?_
            refine z_getI zfX9_160 dX9_clause_95 (zkB hΓ rfl) rfl ?_
            try simp only [zup_ap, zup_row, ne_eq, not_false_eq_true, zres, Int.toNat_natCast, reduceIte, Nat.reduceEqDiff, Nat.reduceAdd, and_self, and_true, true_and, and_false, false_and]
            refine z_iconst dX9_clause_98 (by decide) ?_
            refine z_icmp_ne (t := 134) dX9_clause_99 (by rfl) (fun ht99 => ?_) (fun hf99 => ?_)
            · first
              | (exfalso; omega)
              | (refine z_al0 dX9_clause_134 (by first | decide | omega | assumption) ?_
                 refine z_getI zfX9_160 dX9_clause_135 (zkB hΓ rfl) rfl ?_
                 try simp only [zup_ap, zup_row, ne_eq, not_false_eq_true, zres, Int.toNat_natCast, reduceIte, Nat.reduceEqDiff, Nat.reduceAdd, and_self, and_true, true_and, and_false, false_and]
                 refine z_iconst dX9_clause_138 (by decide) ?_
                 refine z_icmp_ne (t := 161) dX9_clause_139 (by rfl) (fun ht139 => ?_) (fun hf139 => ?_)
                 · first
                   | (exfalso; omega)
                   | (refine z_ret dX9_clause_161 rfl (Nat.le_refl _) (Nat.le_refl _) (zext_rf _) ?_
                      have hx9 := zX_gen hK1 hd1 he1 (fun hd c => by rw [if_neg (by omega)]; exact zDg_ok hd)
                      exact hXc _ _ hx9.1 hx9.2 hX)
                 · exfalso; omega)
            · exfalso; omega
        · rw [if_pos (Or.inr hf61)] at hP
          refine z_al0 dX9_clause_64 (by first | decide | omega | assumption) ?_
          refine z_iconst dX9_clause_65 (by decide) ?_
          refine z_iconst dX9_clause_66 (by decide) ?_
          obtain ⟨r1, hP1, hK1⟩ := zbd_e hP
          refine zcv2 dX9_clause_67 zkX9_219 ziX9_condition zsX9_condition (zkB hΓ rfl) (by decide) rfl (Nat.le_of_ble_eq_true rfl) (by decide) (by first | decide | omega) ⟨Nat.le_refl _, Nat.le_refl _⟩ ((zM_all hΓ hT f).2.2.2.2 (2 * f + 8) _ 0 _ r1 _ (Nat.le_refl _) hR (by omega) (by omega) (by first | exact hP1 | (rw [zskip_id]; exact hP1)) (fun p1 c1 pp1 v1 h hr1 hz1 hpp1 hb1 hR hE1 _ => ?_) (fun p1 v1 h hd1 he1 hb1 hX _ => ?_))
          · subst hr1
            have hP := zN_gen hK1 rfl
            try dsimp only at hP
            have b1 := zP_c hP1 (by decide)
            have hb1 := hb1 rfl
            try simp only [zup_ap, zup_row, ne_eq, not_false_eq_true, zres, Int.toNat_natCast, reduceIte, Nat.reduceEqDiff, Nat.reduceAdd, and_self, and_true, true_and, and_false, false_and]
            skip
            refine z_is2 dX9_clause_70 (Nat.le_of_ble_eq_true rfl) rfl ?_
            refine z_al0 dX9_clause_71 (by first | decide | omega | assumption) ?_
            refine z_bipush (x := 63) dX9_clause_72 (by rfl) (by decide) ?_
            refine zcv1 dX9_clause_74 zkX9_196 ziX9_takes zsX9_takes (zkB hΓ rfl) (by decide) rfl (Nat.le_of_ble_eq_true rfl) (by decide) (by first | decide | omega) ⟨Nat.le_refl _, Nat.le_refl _⟩ (zM_takes hΓ hT hR (by omega) (by omega) (fun hc h hX _ => ?_) (fun hc h hR _ => ?_))
            · rw [hz1] at hc hX
              have e9 := zP11n hc hP
              subst e9
              try simp only [zup_ap, zup_row, ne_eq, not_false_eq_true, zres, Int.toNat_natCast, reduceIte, Nat.reduceEqDiff, Nat.reduceAdd, and_self, and_true, true_and, and_false, false_and]
              skip
              refine z_if_ne (t := 81) dX9_clause_77 (by rfl) (fun hx => absurd hx (by decide)) (fun _ => ?_)
              refine z_ret dX9_clause_80 rfl (Nat.le_refl _) (Nat.le_refl _) (zext_rf _) ?_
              exact hXc _ _ (Or.inl rfl) rfl hX
            · rw [hz1] at hc hR
              obtain ⟨g1, hg1, hP⟩ := zP11p hc hP
              have l19 := zsg_lt hc (by decide)
              have s19 := sk1 (p1 + 1)
              try simp only [zup_ap, zup_row, ne_eq, not_false_eq_true, zres, Int.toNat_natCast, reduceIte, Nat.reduceEqDiff, Nat.reduceAdd, and_self, and_true, true_and, and_false, false_and]
              refine z_if_ne (t := 81) dX9_clause_77 (by rfl) (fun _ => ?_) (fun hx => absurd hx (by decide))
              refine z_al0 dX9_clause_81 (by first | decide | omega | assumption) ?_
              obtain ⟨r2, hP2, hK2⟩ := zbd_e hP
              refine zcv0 dX9_clause_82 zkX9_193 ziX9_sum zsX9_sum (zkB hΓ rfl) (by decide) rfl (Nat.le_of_ble_eq_true rfl) (by decide) (by first | decide | omega) ⟨Nat.le_refl _, Nat.le_refl _⟩ ((zM_all hΓ hT g1).2.2.1 (2 * g1 + 8) _ 0 _ r2 _ (Nat.le_refl _) hR (by omega) (by omega) (by first | exact hP2 | (rw [zskip_id]; exact hP2)) (fun p2 c2 pp2 v2 h hr2 hz2 hpp2 hb2 hR hE2 _ => ?_) (fun p2 v2 h hd2 he2 hb2 hX _ => ?_))
              · subst hr2
                have hP := zN_gen hK2 rfl
                try dsimp only at hP
                have b2 := zP_c hP2 (by decide)
                try simp only [zup_ap, zup_row, ne_eq, not_false_eq_true, zres, Int.toNat_natCast, reduceIte, Nat.reduceEqDiff, Nat.reduceAdd, and_self, and_true, true_and, and_false, false_and]
                skip
                refine z_is3 dX9_clause_85 (Nat.le_of_ble_eq_true rfl) rfl ?_
                refine z_goto (t := 134) dX9_clause_86 (by rfl) ?_
                refine z_al0 dX9_clause_134 (by first | decide | omega | assumption) ?_
                refine z_getI zfX9_160 dX9_clause_135 (zkB hΓ rfl) rfl ?_
                try simp only [zup_ap, zup_row, ne_eq, not_false_eq_true, zres, Int.toNat_natCast, reduceIte, Nat.reduceEqDiff, Nat.reduceAdd, and_self, and_true, true_and, and_false, false_and]
                refine z_iconst dX9_clause_138 (by decide) ?_
                refine z_icmp_ne (t := 161) dX9_clause_139 (by rfl) (fun ht139 => ?_) (fun hf139 => ?_)
                · exfalso; exact ht139 hR.2.2.1
                · have hf17 := hR.1.2 17 (by decide) (by decide) (by decide)
                  have hf13 := hR.1.2 13 (by decide) (by decide) (by decide)
                  refine z_al0 dX9_clause_142 (by first | decide | omega | assumption) ?_
                  refine z_getZ zfX9_229 dX9_clause_143 (zkB hΓ rfl) rfl ?_
                  try simp only [zup_ap, zup_row, ne_eq, not_false_eq_true, zres, Int.toNat_natCast, reduceIte, Nat.reduceEqDiff, Nat.reduceAdd, and_self, and_true, true_and, and_false, false_and]
                  refine z_if_ne (t := 161) dX9_clause_146 (by rfl) (fun ht146 => ?_) (fun hf146 => ?_)
                  · refine z_ret dX9_clause_161 rfl (Nat.le_refl _) (Nat.le_refl _) (zext_rf _) ?_
                    cases hP
                    first
                    | exact hN0 _ _ _ _ rfl hz2 hpp2 (Or.inl (by omega)) hR
                    | (refine hN0 _ _ _ _ rfl hz2 hpp2 (Or.inr (fun rest => ?_)) hR
                       exact zcl_0 hE1 (by omega) (zwx_59 hP2) rest)
                  · refine z_il1 dX9_clause_149 ?_
                    refine z_al0 dX9_clause_150 (by first | decide | omega | assumption) ?_
                    refine z_getI zfX9_233 dX9_clause_151 (zkB hΓ rfl) rfl ?_
                    try simp only [zup_ap, zup_row, ne_eq, not_false_eq_true, zres, Int.toNat_natCast, reduceIte, Nat.reduceEqDiff, Nat.reduceAdd, and_self, and_true, true_and, and_false, false_and]
                    refine z_icmp_ne (t := 161) dX9_clause_154 (by rfl) (fun ht154 => ?_) (fun hf154 => ?_)
                    · exfalso; rw [hf13] at ht154; omega
                    · refine z_il2 dX9_clause_157 ?_
                      refine z_if_ne (t := 162) dX9_clause_158 (by rfl) (fun ht158 => ?_) (fun hf158 => ?_)
                      · refine z_al0 dX9_clause_162 (by first | decide | omega | assumption) ?_
                        refine z_iconst dX9_clause_163 (by decide) ?_
                        refine z_putZ zfX9_229 dX9_clause_164 (zkB hΓ rfl) rfl rfl (by first | exact Or.inl rfl | exact Or.inr rfl | omega) ?_
                        refine z_al0 dX9_clause_167 (by first | decide | omega | assumption) ?_
                        refine z_il3 dX9_clause_168 ?_
                        refine z_putI zfX9_236 dX9_clause_169 (zkB hΓ rfl) rfl rfl ?_
                        refine z_ret dX9_clause_172 rfl (Nat.le_refl _) (Nat.le_refl _) (zext_rf _) ?_
                        cases hP
                        refine hN1 _ _ _ _ _ rfl hz2 hpp2 (by omega) ⟨_, hR, rfl⟩ (fun rest => ?_)
                        exact zcl_1 hE1 (by omega) hE2 rest
                      · refine z_ret dX9_clause_161 rfl (Nat.le_refl _) (Nat.le_refl _) (zext_rf _) ?_
                        cases hP
                        first
                        | exact hN0 _ _ _ _ rfl hz2 hpp2 (Or.inl (by omega)) hR
                        | (refine hN0 _ _ _ _ rfl hz2 hpp2 (Or.inr (fun rest => ?_)) hR
                           exact zcl_0 hE1 (by omega) (zwx_59 hP2) rest)
              · have hX1 := hX.2.1
                have hX2 := hX.2.2.1
                have hX3 := hX.2.2.2
                try simp only [zup_ap, zup_row, ne_eq, not_false_eq_true, zres, Int.toNat_natCast, reduceIte, Nat.reduceEqDiff, Nat.reduceAdd, and_self, and_true, true_and, and_false, false_and]
                skip
                refine z_is3 dX9_clause_85 (Nat.le_of_ble_eq_true rfl) rfl ?_
                refine z_goto (t := 134) dX9_clause_86 (by rfl) ?_
                refine z_al0 dX9_clause_134 (by first | decide | omega | assumption) ?_
                refine z_getI zfX9_160 dX9_clause_135 (zkB hΓ rfl) rfl ?_
                try simp only [zup_ap, zup_row, ne_eq, not_false_eq_true, zres, Int.toNat_natCast, reduceIte, Nat.reduceEqDiff, Nat.reduceAdd, and_self, and_true, true_and, and_false, false_and]
                refine z_iconst dX9_clause_138 (by decide) ?_
                refine z_icmp_ne (t := 161) dX9_clause_139 (by rfl) (fun ht139 => ?_) (fun hf139 => ?_)
                · skip
                  first
                  | (exfalso; omega)
                  | (refine z_ret dX9_clause_161 rfl (Nat.le_refl _) (Nat.le_refl _) (zext_rf _) ?_
                     have hx9 := zX_gen hK2 hd2 he2 (fun hd c => zDg_ok hd)
                     exact hXc _ _ hx9.1 hx9.2 hX)
                · exfalso; omega
          · have hX1 := hX.2.1
            have hX2 := hX.2.2.1
            have hX3 := hX.2.2.2
            try simp only [zup_ap, zup_row, ne_eq, not_false_eq_true, zres, Int.toNat_natCast, reduceIte, Nat.reduceEqDiff, Nat.reduceAdd, and_self, and_true, true_and, and_false, false_and]
            skip
            refine z_is2 dX9_clause_70 (Nat.le_of_ble_eq_true rfl) rfl ?_
            refine z_al0 dX9_clause_71 (by first | decide | omega | assumption) ?_
            refine z_bipush (x := 63) dX9_clause_72 (by rfl) (by decide) ?_
            refine zcv1 dX9_clause_74 zkX9_196 ziX9_takes zsX9_takes (zkB hΓ rfl) (by decide) rfl (Nat.le_of_ble_eq_true rfl) (by decide) (by first | decide | omega) ⟨Nat.le_refl _, Nat.le_refl _⟩ (zM_takesX hΓ hX (fun _ => ?_))
            · try simp only [zup_ap, zup_row, ne_eq, not_false_eq_true, zres, Int.toNat_natCast, reduceIte, Nat.reduceEqDiff, Nat.reduceAdd, and_self, and_true, true_and, and_false, false_and]
              refine z_if_ne (t := 81) dX9_clause_77 (by rfl) (fun hx => absurd hx (by decide)) (fun _ => ?_)
              refine z_ret dX9_clause_80 rfl (Nat.le_refl _) (Nat.le_refl _) (zext_rf _) ?_
              have hx9 := zX_gen hK1 hd1 he1 (fun hd c => zDg_51 hd (Or.inr rfl))
              exact hXc _ _ hx9.1 hx9.2 hX
  · have hy := fun q => zif0.mp hf11 (zin0.mpr q)
    rw [if_neg hy] at hP
    refine z_al0 dX9_clause_14 (by first | decide | omega | assumption) ?_
    refine zcv0 dX9_clause_15 zkX9_166 ziX9_fails zsX9_fails (zkB hΓ rfl) (by decide) rfl (Nat.le_of_ble_eq_true rfl) (by decide) (by first | decide | omega) ⟨Nat.le_refl _, Nat.le_refl _⟩ (zM_fail hΓ hR (by omega) (by omega) (fun h hX _ => ?_))
    try simp only [zup_ap, zup_row, ne_eq, not_false_eq_true, zres, Int.toNat_natCast, reduceIte, Nat.reduceEqDiff, Nat.reduceAdd, and_self, and_true, true_and, and_false, false_and]
    refine z_pop dX9_clause_18 rfl ?_
    refine z_ret dX9_clause_19 rfl (Nat.le_refl _) (Nat.le_refl _) (zext_rf _) ?_
    cases hP
    exact hXc _ _ (Or.inl rfl) rfl hX
