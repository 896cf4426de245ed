/-! the reference's walk through a text -/
theorem znarR {Γ : zC} {ty : FieldType} (hty : (∃ n, ty = .object n) ∨ ∃ t, ty = .array t) (x : Nat) : narrow ty (zval Γ (zR x)) = zval Γ (zR x) ∧ fits ty (zval Γ (zR x)) = true := by
  show narrow ty (zrf Γ x) = zrf Γ x ∧ fits ty (zrf Γ x) = true
  unfold zrf
  rcases hty with ⟨n, rfl⟩ | ⟨t, rfl⟩ <;> split <;> exact ⟨rfl, rfl⟩
theorem z_putR {F : zF} {k n : Nat} {Γ : zC} {h : zM} {pc : Nat} {ls : List (Option zV)} {st : List zV} {idx ci j r : Nat} {x : Nat} (hf : zFld F.2.1.1.cls idx ci j) (hd : decode F.2.1.2.1 pc = .ok (.putfield idx, 3)) (hk : zkd Γ r = some (.inl ci)) (hty : (∃ n, zTy ci j = .object n) ∨ ∃ t, zTy ci j = .array t) (hc : zTc (zTy ci j) = 9) (hfin : zfin ci j = false) (hs : zsr Γ r j = none)
    (kk : zG F k n Γ (zup h r j (x : Nat)) (pc + 3) ls st) : zG F k n Γ h pc ls (zR x :: zR r :: st) :=
  zput hf hd hk hfin (Or.inl hs) (by rw [hc]; rfl) (fun q => by rw [hc]; exact ⟨Int.natCast_nonneg _, by rw [Int.toNat_natCast]; exact q⟩) (znarR hty x).1 (znarR hty x).2 kk
def zsMT (j : Nat) : Bool := j == 5 || j == 8 || j == 9 || j == 10 || j == 11 || j == 12 || j == 13 || j == 14 || j == 17
def zMT (h h' : zM) : Prop := (∀ r, r ≠ 89 → h' r = h r) ∧ ∀ j, zsMT j = false → h' 89 j = h 89 j
theorem zMT_up {h0 h : zM} {j : Nat} {x : Int} (H : zMT h0 h) (hj : zsMT j = true) : zMT h0 (zup h 89 j x) :=
  ⟨fun r hr => by rw [zup_row hr]; exact H.1 r hr, fun k hk => by
    rw [zup_ap, if_neg]
    · exact H.2 k hk
    · rintro ⟨-, rfl⟩; rw [hk] at hj; cases hj⟩
theorem zMT_mf {h0 h h' : zM} (H : zMT h0 h) (hF : zMF h h') : zMT h0 h' :=
  ⟨fun r hr => by rw [hF.1 r hr]; exact H.1 r hr, fun k hk => by
    rw [hF.2 k (by rintro rfl; cases hk) (by rintro rfl; cases hk) (by rintro rfl; cases hk)]
    exact H.2 k hk⟩
theorem zMT_rf (h : zM) : zMT h h := ⟨fun _ _ => rfl, fun _ _ => rfl⟩
def zWv (L : Int → Int) (h0 : zM) (c : List Int) : Prop := (h0 89 17 = 0 ∧ h0 89 14 = 0 ∧ ∀ rest, zwor L (c ++ rest) [] false = zwor L rest [] false) ∨ (h0 89 17 = 1 ∧ ∀ rest, zwor L (c ++ rest) [] false = h0 89 14)
def zK13 (t : Nat → Int) (n f p : Nat) (c : List Int) : Option zRs := if n ≤ p then zok p c else if zsg t n p = 59 then zbd (zP t n f 13 (zskip t n (p + 1)) 0) (fun p2 c2 => zok p2 (c ++ c2)) else zfl p
theorem zP13 (t : Nat → Int) (n f q : Nat) : zP t n (f + 1) 13 q 0 = zbd (zP t n f 12 q 0) (fun p c => zK13 t n f p c) := by
  simp only [zP]; rfl
theorem zK13_ap {t : Nat → Int} {n f p : Nat} {c c' : List Int} : zbd (zK13 t n f p c') (fun p2 c2 => zok p2 (c ++ c2)) = zK13 t n f p (c ++ c') := by
  unfold zK13
  split
  · rfl
  · split
    · rw [zbd_as]
      congr 1; funext p2 c2
      show zok p2 (c ++ (c' ++ c2)) = zok p2 (c ++ c' ++ c2)
      rw [List.append_assoc]
    · rfl
def zTo (Γ : zC) (L : Int → Int) (hs : zM) (r : zRs) (Q : Option zV → zC → zM → Prop) : Prop := (∀ p c, r = (false, p, c) → ∀ h', zMT hs h' → h' 89 11 = (p : Int) → Q none Γ h') ∧ (∀ p c, r = (true, p, c) → ∀ h', zMT hs h' → h' 89 11 = -1 → h' 89 14 = zwor L c [] false → Q none Γ h')
theorem zsg_nn {t : Nat → Int} {n q : Nat} (ht : ∀ j, j < n → 0 ≤ t j) : n ≤ q ↔ zsg t n q = -1 := by
  unfold zsg
  split
  · have := ht q (by assumption); omega
  · omega
theorem zWv_up {L : Int → Int} {h h' : zM} {c c1 : List Int} (H : zWv L h c) (e1 : h' 89 17 = h 89 17) (e2 : h' 89 14 = h 89 14) (hp : ¬ h 89 17 = 0 ∨ ∀ rest, zwor L (c1 ++ rest) [] false = zwor L rest [] false) : zWv L h' (c ++ c1) := by
  rcases H with ⟨a, b, d⟩ | ⟨a, d⟩
  · refine Or.inl ⟨by rw [e1, a], by rw [e2, b], fun rest => ?_⟩
    rw [List.append_assoc, d]
    rcases hp with hp | hp
    · exact absurd a hp
    · exact hp rest
  · refine Or.inr ⟨by rw [e1, a], fun rest => ?_⟩
    rw [List.append_assoc, d, e2]
set_option maxRecDepth 4000 in
theorem X9_opens_ct {l : Launch} {Γ : zC} {h : zM} {Q : Option zV → zC → zM → Prop} {R : Nat} {b n : Int} (hΓ : zBase Γ) (hR0 : R ≠ 0) (hQ : Q none Γ (zup (zup (zup (zup (zup h 89 5 (R : Nat)) 89 8 b) 89 9 n) 89 10 0) 89 11 (-1))) : zCT l mX9_opens 0 0 0 Γ [zR 89, zR R, zI b, zI n] h Q := by
  refine zCT_of (by decide) (Nat.le_of_ble_eq_true rfl) (ls := [some (zR 89), some (zR R), some (zI b), some (zI n)]) rfl ?_
  refine z_al0 dX9_opens_0 (by first | decide | omega | assumption) ?_
  refine z_al1 dX9_opens_1 (by exact hR0) ?_
  refine z_putR zfX9_23 dX9_opens_2 (zkB hΓ rfl) (Or.inr ⟨_, rfl⟩) rfl rfl (zsN hΓ rfl) ?_
  refine z_al0 dX9_opens_5 (by first | decide | omega | assumption) ?_
  refine z_il2 dX9_opens_6 ?_
  refine z_putI zfX9_157 dX9_opens_7 (zkB hΓ rfl) rfl rfl ?_
  refine z_al0 dX9_opens_10 (by first | decide | omega | assumption) ?_
  refine z_il3 dX9_opens_11 ?_
  refine z_putI zfX9_154 dX9_opens_12 (zkB hΓ rfl) rfl rfl ?_
  refine z_al0 dX9_opens_15 (by first | decide | omega | assumption) ?_
  refine z_iconst dX9_opens_16 (by decide) ?_
  refine z_putI zfX9_151 dX9_opens_17 (zkB hΓ rfl) rfl rfl ?_
  refine z_al0 dX9_opens_20 (by first | decide | omega | assumption) ?_
  refine z_iconst dX9_opens_21 (by decide) ?_
  refine z_putI zfX9_160 dX9_opens_22 (zkB hΓ rfl) rfl rfl ?_
  refine z_ret dX9_opens_25 rfl (Nat.le_refl _) (Nat.le_refl _) (zext_rf _) ?_
  exact hQ
set_option maxRecDepth 4000 in
theorem zM_tail {l : Launch} {Γ : zC} {hs : zM} {R b n D : Nat} {t : Nat → Int} {L : Int → Int} {r : zRs} {x1 x2 x3 : Option zV} {Q : Option zV → zC → zM → Prop} (hΓ : zBase Γ) (hL : L = fun s => hs 93 s.toNat) (hQ : zTo Γ L hs r Q) : ∀ (f : Nat) (h0 h : zM) (pp p1 : Nat) (c : List Int), 2 * f + 12 ≤ D → zMT hs h0 → zTx Γ h0 R b n t → h0 89 13 = 121 → zMS h0 h pp 0 → zskip t n pp = p1 → pp ≤ 160 → zWv L h0 c → zK13 t n f p1 c = some r → zG (zFn l mX9_goThrough D 0 0 Γ Q) 0 0 Γ h 32 [some (zR 89), x1, x2, x3] [] := by
  intro f
  induction f using Nat.strongRecOn with
  | ind f ih =>
    intro h0 h pp p1 c hD hM hT h13 hR hz hpp hV hP
    have hn2 := hT.2.2.2.1
    have s1 := zskip_b t n pp
    have s2 := zskip_id t n pp
    have sk1 := fun k => zskip_b t n k
    have h17 : h0 89 17 = 0 ∨ h0 89 17 = 1 := by rcases hV with ⟨a, -⟩ | ⟨a, -⟩; exact Or.inl a; exact Or.inr a
    have h93 : L = fun s => h0 93 s.toNat := by rw [hL, hM.1 93 (by decide)]
    have htn : ∀ j, j < n → 0 ≤ t j := fun j hj => by rw [hT.2.2.2.2.2.2.2.2 j hj]; omega
    refine z_al0 dX9_goThrough_32 (by first | decide | omega | assumption) ?_
    refine z_getI zfX9_160 dX9_goThrough_33 (zkB hΓ rfl) rfl ?_
    try simp only [zup_ap, zup_row, ne_eq, not_false_eq_true, zres, Int.toNat_natCast, reduceIte, Nat.reduceEqDiff, Nat.reduceAdd, and_self, and_true, true_and, and_false, false_and]
    refine z_iconst dX9_goThrough_36 (by decide) ?_
    refine z_icmp_ne (t := 66) dX9_goThrough_37 (by rfl) (fun ht37 => ?_) (fun hf37 => ?_)
    · exfalso; exact ht37 hR.2.2.1
    · refine z_al0 dX9_goThrough_40 (by first | decide | omega | assumption) ?_
      refine zcv0 dX9_goThrough_41 zkX9_170 ziX9_look zsX9_look (zkB hΓ rfl) (by decide) rfl (Nat.le_of_ble_eq_true rfl) (by decide) (by first | decide | omega) ⟨Nat.le_refl _, Nat.le_refl _⟩ (zM_look hΓ hT hR (by omega) (fun h hR _ => ?_))
      try simp only [zup_ap, zup_row, ne_eq, not_false_eq_true, zres, Int.toNat_natCast, reduceIte, Nat.reduceEqDiff, Nat.reduceAdd, and_self, and_true, true_and, and_false, false_and]
      refine z_bipush (x := 59) dX9_goThrough_44 (by rfl) (by decide) ?_
      refine z_icmp_ne (t := 66) dX9_goThrough_46 (by rfl) (fun ht46 => ?_) (fun hf46 => ?_)
      · rw [zK13] at hP
        rw [hz] at ht46
        rw [if_neg ht46] at hP
        refine z_al0 dX9_goThrough_66 (by first | decide | omega | assumption) ?_
        refine z_getI zfX9_160 dX9_goThrough_67 (zkB hΓ rfl) rfl ?_
        try simp only [zup_ap, zup_row, ne_eq, not_false_eq_true, zres, Int.toNat_natCast, reduceIte, Nat.reduceEqDiff, Nat.reduceAdd, and_self, and_true, true_and, and_false, false_and]
        refine z_iconst dX9_goThrough_70 (by decide) ?_
        refine z_icmp_ne (t := 87) dX9_goThrough_71 (by rfl) (fun ht71 => ?_) (fun hf71 => ?_)
        · exfalso; exact ht71 hR.2.2.1
        · refine z_al0 dX9_goThrough_74 (by first | decide | omega | assumption) ?_
          refine zcv0 dX9_goThrough_75 zkX9_170 ziX9_look zsX9_look (zkB hΓ rfl) (by decide) rfl (Nat.le_of_ble_eq_true rfl) (by decide) (by first | decide | omega) ⟨Nat.le_refl _, Nat.le_refl _⟩ (zM_look hΓ hT hR (by omega) (fun h hR _ => ?_))
          try simp only [zup_ap, zup_row, ne_eq, not_false_eq_true, zres, Int.toNat_natCast, reduceIte, Nat.reduceEqDiff, Nat.reduceAdd, and_self, and_true, true_and, and_false, false_and]
          refine z_iconst dX9_goThrough_78 (by decide) ?_
          refine z_icmp_eq (t := 87) dX9_goThrough_79 (by rfl) (fun ht79 => ?_) (fun hf79 => ?_)
          · rw [zskip_id, hz] at ht79
            rw [if_pos (by rw [zsg_nn htn]; omega)] at hP
            cases hP
            refine z_ret dX9_goThrough_87 rfl (Nat.le_refl _) (Nat.le_refl _) (zext_rf _) ?_
            first
            | exact hQ.1 _ _ rfl _ (zMT_mf hM hX.1) (by rw [hX.2.1, zskip_id, hz])
            | (refine hQ.2 _ _ rfl _ (zMT_mf hM hR.1) hR.2.2.1 ?_
               have e14 := hR.1.2 14 (by decide) (by decide) (by decide)
               rw [e14]
               rcases hV with ⟨a, b, d⟩ | ⟨a, d⟩
               · have := d []
                 rw [List.append_nil] at this
                 rw [this, b]; rfl
               · have := d []
                 rw [List.append_nil] at this
                 exact this.symm)
          · rw [zskip_id, hz] at hf79
            rw [if_neg (by rw [zsg_nn htn]; omega)] at hP
            cases hP
            refine z_al0 dX9_goThrough_82 (by first | decide | omega | assumption) ?_
            refine zcv0 dX9_goThrough_83 zkX9_166 ziX9_fails zsX9_fails (zkB hΓ rfl) (by decide) rfl (Nat.le_of_ble_eq_true rfl) (by decide) (by first | decide | omega) ⟨Nat.le_refl _, Nat.le_refl _⟩ (zM_fail hΓ hR (by omega) (by omega) (fun h hX _ => ?_))
            try simp only [zup_ap, zup_row, ne_eq, not_false_eq_true, zres, Int.toNat_natCast, reduceIte, Nat.reduceEqDiff, Nat.reduceAdd, and_self, and_true, true_and, and_false, false_and]
            refine z_pop dX9_goThrough_86 rfl ?_
            refine z_ret dX9_goThrough_87 rfl (Nat.le_refl _) (Nat.le_refl _) (zext_rf _) ?_
            first
            | exact hQ.1 _ _ rfl _ (zMT_mf hM hX.1) (by rw [hX.2.1, zskip_id, hz])
            | (refine hQ.2 _ _ rfl _ (zMT_mf hM hR.1) hR.2.2.1 ?_
               have e14 := hR.1.2 14 (by decide) (by decide) (by decide)
               rw [e14]
               rcases hV with ⟨a, b, d⟩ | ⟨a, d⟩
               · have := d []
                 rw [List.append_nil] at this
                 rw [this, b]; rfl
               · have := d []
                 rw [List.append_nil] at this
                 exact this.symm)
      · have a1 := hR.2.1
        rw [hz] at hf46
        have hlt := zsg_lt (show zsg t n p1 = 59 by omega) (by decide)
        rw [zK13, if_neg (by omega), if_pos (by omega)] at hP
        rw [hz] at hR
        cases f with
        | zero => cases hP
        | succ f =>
        rw [zP13, zbd_as] at hP
        obtain ⟨r1, hP1, hK1⟩ := zbd_e hP
        cases f with
        | zero => cases hP1
        | succ e =>
        refine z_al0 dX9_goThrough_49 (by first | decide | omega | assumption) ?_
        refine z_dup dX9_goThrough_50 rfl ?_
        refine z_getI zfX9_151 dX9_goThrough_51 (zkB hΓ rfl) rfl ?_
        try simp only [zup_ap, zup_row, ne_eq, not_false_eq_true, zres, Int.toNat_natCast, reduceIte, Nat.reduceEqDiff, Nat.reduceAdd, and_self, and_true, true_and, and_false, false_and]
        refine z_iconst dX9_goThrough_54 (by decide) ?_
        refine z_iadd dX9_goThrough_55 (by omega) ?_
        refine z_putI zfX9_151 dX9_goThrough_56 (zkB hΓ rfl) rfl rfl ?_
        refine z_al0 dX9_goThrough_59 (by first | decide | omega | assumption) ?_
        refine zcv0 dX9_goThrough_60 zkX9_243 ziX9_clause zsX9_clause (zkB hΓ rfl) (by decide) rfl (Nat.le_of_ble_eq_true rfl) (by decide) (by first | decide | omega) ⟨Nat.le_refl _, Nat.le_refl _⟩ (zM_clause hΓ hT e (2 * e + 12) _ _ r1 _ (Nat.le_refl _) h17 h13 (zMS_inc hR) (by omega) hP1 (fun p1 c1 pp1 v h9 hr1 hz1 hpp1 hf1 hR hE _ => ?_) (fun p1 c1 pp1 h9 hr1 hz1 hpp1 hE hR _ => ?_) (fun p1 h9 hd1 he1 hX _ => ?_))
        · subst hr1
          have hP := zN_gen hK1 rfl
          rw [zK13_ap] at hP
          obtain ⟨h1, hR, rfl⟩ := hR
          try simp only [zup_ap, zup_row, ne_eq, not_false_eq_true, zres, Int.toNat_natCast, reduceIte, Nat.reduceEqDiff, Nat.reduceAdd, and_self, and_true, true_and, and_false, false_and]
          skip
          refine z_goto (t := 32) dX9_goThrough_63 (by rfl) ?_
          refine ih (e + 1) (by omega) (zup (zup h0 89 17 1) 89 14 v) _ pp1 p1 (c ++ c1) (by omega) (zMT_up (zMT_up hM rfl) rfl) (zTx_up (zTx_up hT (by decide) (by decide) (by decide)) (by decide) (by decide) (by decide)) (by simpa [zup_ap] using h13) ?_ hz1 hpp1 (Or.inr ⟨by simp [zup_ap], fun rest => ?_⟩) hP
          · obtain ⟨⟨f1, f2⟩, f3, f4, f5⟩ := hR
            refine ⟨⟨fun r hr => by rw [zup_row hr, zup_row hr, zup_row hr, zup_row hr]; exact f1 r hr, fun j j1 j2 j3 => ?_⟩, by simpa [zup_ap] using f3, by simpa [zup_ap] using f4, by simpa [zup_ap] using f5⟩
            simp only [zup_ap, true_and]
            split
            · rfl
            · split
              · rfl
              · exact f2 j j1 j2 j3
          · rw [List.append_assoc]
            rcases hV with ⟨a, b, d⟩ | ⟨a, d⟩
            · rw [d, h93]; simp only [zup_ap, and_self, if_true]; exact hE rest
            · rw [hf1] at a; cases a
        · subst hr1
          have hP := zN_gen hK1 rfl
          rw [zK13_ap] at hP
          try simp only [zup_ap, zup_row, ne_eq, not_false_eq_true, zres, Int.toNat_natCast, reduceIte, Nat.reduceEqDiff, Nat.reduceAdd, and_self, and_true, true_and, and_false, false_and]
          skip
          refine z_goto (t := 32) dX9_goThrough_63 (by rfl) ?_
          refine ih (e + 1) (by omega) h0 _ pp1 p1 (c ++ c1) (by omega) hM hT h13 hR hz1 hpp1 (zWv_up hV rfl rfl (by rw [h93]; exact hE)) hP
        · have hx := zX_gen hK1 hd1 he1 (fun hd c9 => by
            rw [zK13_ap]; unfold zK13
            have := zdg_lt hd
            rw [if_neg (by omega), if_neg (by omega)]; exact zDg_fl)
          have hrf : r.1 = false := by
            rcases hx.1 with hx1 | hx1
            · exact hx1
            · have hd := hx1
              have hlt := zdg_lt hd
              rcases hK1 with ⟨-, hr⟩ | ⟨hr1, hk⟩
              · rw [hr]
              · dsimp only at hk
                rw [zK13_ap] at hk
                rw [he1] at hk
                unfold zK13 at hk
                rw [if_neg (by omega), if_neg (by omega)] at hk
                cases hk; rfl
          have hX1 := hX.2.1
          try simp only [zup_ap, zup_row, ne_eq, not_false_eq_true, zres, Int.toNat_natCast, reduceIte, Nat.reduceEqDiff, Nat.reduceAdd, and_self, and_true, true_and, and_false, false_and]
          skip
          refine z_goto (t := 32) dX9_goThrough_63 (by rfl) ?_
          refine z_al0 dX9_goThrough_32 (by first | decide | omega | assumption) ?_
          refine z_getI zfX9_160 dX9_goThrough_33 (zkB hΓ rfl) rfl ?_
          try simp only [zup_ap, zup_row, ne_eq, not_false_eq_true, zres, Int.toNat_natCast, reduceIte, Nat.reduceEqDiff, Nat.reduceAdd, and_self, and_true, true_and, and_false, false_and]
          refine z_iconst dX9_goThrough_36 (by decide) ?_
          refine z_icmp_ne (t := 66) dX9_goThrough_37 (by rfl) (fun ht37 => ?_) (fun hf37 => ?_)
          · skip
            refine z_al0 dX9_goThrough_66 (by first | decide | omega | assumption) ?_
            refine z_getI zfX9_160 dX9_goThrough_67 (zkB hΓ rfl) rfl ?_
            try simp only [zup_ap, zup_row, ne_eq, not_false_eq_true, zres, Int.toNat_natCast, reduceIte, Nat.reduceEqDiff, Nat.reduceAdd, and_self, and_true, true_and, and_false, false_and]
            refine z_iconst dX9_goThrough_70 (by decide) ?_
            refine z_icmp_ne (t := 87) dX9_goThrough_71 (by rfl) (fun ht71 => ?_) (fun hf71 => ?_)
            · skip
              refine z_ret dX9_goThrough_87 rfl (Nat.le_refl _) (Nat.le_refl _) (zext_rf _) ?_
              refine hQ.1 p1 r.2.2 (by rw [← hrf, ← hx.2]) _ (zMT_mf hM hX.1) hX1
            · exfalso; omega
          · exfalso; omega
set_option maxRecDepth 4000 in
theorem zM_through {l : Launch} {Γ : zC} {h : zM} {R b n f D : Nat} {t : Nat → Int} {r : zRs} {Q : Option zV → zC → zM → Prop} (hΓ : zBase Γ) (hn2 : n ≤ 160) (hb2 : b ≤ 1000) (hR89 : R ≠ 89) (hR0 : R ≠ 0) (hkl : ∃ len, zkd Γ R = some (.inr (1, len)) ∧ b + n ≤ len) (ht : ∀ j, j < n → t j = h R (b + j) % 256) (hP : zP t n f 13 (zskip t n 0) 0 = some r) (hD : 2 * f + 14 ≤ D) (hQ : zTo Γ (fun s => h 93 s.toNat) h r Q) : zCT l mX9_goThrough D 0 0 Γ [zR 89, zR R, zI (b : Nat), zI (n : Nat)] h Q := by
  cases f with
  | zero => cases hP
  | succ f =>
  rw [zP13] at hP
  obtain ⟨r1, hP1, hK1⟩ := zbd_e hP
  cases f with
  | zero => cases hP1
  | succ e =>
  refine zCT_of (by decide) (Nat.le_of_ble_eq_true rfl) (ls := [some (zR 89), some (zR R), some (zI (b : Nat)), some (zI (n : Nat))]) rfl ?_
  refine z_al0 dX9_goThrough_0 (by first | decide | omega | assumption) ?_
  refine z_al1 dX9_goThrough_1 (by exact hR0) ?_
  refine z_il2 dX9_goThrough_2 ?_
  refine z_il3 dX9_goThrough_3 ?_
  refine zcv3 dX9_goThrough_4 zkX9_239 ziX9_opens zsX9_opens (zkB hΓ rfl) (by decide) rfl (Nat.le_of_ble_eq_true rfl) (by decide) (by first | decide | omega) ⟨Nat.le_refl _, Nat.le_refl _⟩ (X9_opens_ct hΓ hR0 (fun _ => ?_))
  try simp only [zup_ap, zup_row, ne_eq, not_false_eq_true, zres, Int.toNat_natCast, reduceIte, Nat.reduceEqDiff, Nat.reduceAdd, and_self, and_true, true_and, and_false, false_and]
  refine z_al0 dX9_goThrough_7 (by first | decide | omega | assumption) ?_
  refine z_bipush (x := 121) dX9_goThrough_8 (by rfl) (by decide) ?_
  refine z_putI zfX9_233 dX9_goThrough_10 (zkB hΓ rfl) rfl rfl ?_
  refine z_al0 dX9_goThrough_13 (by first | decide | omega | assumption) ?_
  refine z_iconst dX9_goThrough_14 (by decide) ?_
  refine z_putI zfX9_163 dX9_goThrough_15 (zkB hΓ rfl) rfl rfl ?_
  refine z_al0 dX9_goThrough_18 (by first | decide | omega | assumption) ?_
  refine z_iconst dX9_goThrough_19 (by decide) ?_
  refine z_putZ zfX9_229 dX9_goThrough_20 (zkB hΓ rfl) rfl rfl (by first | exact Or.inl rfl | exact Or.inr rfl | omega) ?_
  refine z_al0 dX9_goThrough_23 (by first | decide | omega | assumption) ?_
  refine z_iconst dX9_goThrough_24 (by decide) ?_
  refine z_putI zfX9_236 dX9_goThrough_25 (zkB hΓ rfl) rfl rfl ?_
  refine z_al0 dX9_goThrough_28 (by first | decide | omega | assumption) ?_
  generalize hb : zup (zup (zup (zup (zup (zup (zup (zup (zup h 89 5 (R : Nat)) 89 8 (b : Nat)) 89 9 (n : Nat)) 89 10 0) 89 11 (-1)) 89 13 121) 89 12 0) 89 17 0) 89 14 0 = hb0
  have hM : zMT h hb0 := by
    rw [← hb]; exact zMT_up (zMT_up (zMT_up (zMT_up (zMT_up (zMT_up (zMT_up (zMT_up (zMT_up (zMT_rf h) rfl) rfl) rfl) rfl) rfl) rfl) rfl) rfl) rfl
  have hT : zTx Γ hb0 R b n t := by
    rw [← hb]
    refine ⟨rfl, rfl, rfl, hn2, hb2, hR89, hR0, hkl, fun j hj => ?_⟩
    rw [zup_row hR89, zup_row hR89, zup_row hR89, zup_row hR89, zup_row hR89, zup_row hR89, zup_row hR89, zup_row hR89, zup_row hR89]
    exact ht j hj
  have b14 : hb0 89 14 = 0 := by rw [← hb]; rfl
  have b17 : hb0 89 17 = 0 := by rw [← hb]; rfl
  have b13 : hb0 89 13 = 121 := by rw [← hb]; rfl
  have hS0 : zMS hb0 hb0 0 0 := ⟨⟨fun _ _ => rfl, fun _ _ _ _ => rfl⟩, by rw [← hb]; rfl, by rw [← hb]; rfl, by rw [← hb]; rfl⟩
  have h93 : (fun s : Int => hb0 93 s.toNat) = fun s : Int => h 93 s.toNat := by rw [hM.1 93 (by decide)]
  clear hb
  refine zcv0 dX9_goThrough_29 zkX9_243 ziX9_clause zsX9_clause (zkB hΓ rfl) (by decide) rfl (Nat.le_of_ble_eq_true rfl) (by decide) (by first | decide | omega) ⟨Nat.le_refl _, Nat.le_refl _⟩ (zM_clause hΓ hT e (2 * e + 12) _ _ r1 _ (Nat.le_refl _) (Or.inl b17) b13 hS0 (by omega) hP1 (fun p1 c1 pp1 v h9 hr1 hz1 hpp1 hf1 hR hE _ => ?_) (fun p1 c1 pp1 h9 hr1 hz1 hpp1 hE hR _ => ?_) (fun p1 h9 hd1 he1 hX _ => ?_))
  · subst hr1
    have hP := zN_gen hK1 rfl
    obtain ⟨h1, hR, rfl⟩ := hR
    try simp only [zup_ap, zup_row, ne_eq, not_false_eq_true, zres, Int.toNat_natCast, reduceIte, Nat.reduceEqDiff, Nat.reduceAdd, and_self, and_true, true_and, and_false, false_and]
    skip
    refine zM_tail hΓ rfl hQ (e + 1) (zup (zup hb0 89 17 1) 89 14 v) _ pp1 p1 c1 (by omega) (zMT_up (zMT_up hM rfl) rfl) (zTx_up (zTx_up hT (by decide) (by decide) (by decide)) (by decide) (by decide) (by decide)) (by simpa [zup_ap] using b13) ?_ hz1 hpp1 (Or.inr ⟨by simp [zup_ap], fun rest => ?_⟩) hP
    · obtain ⟨⟨f1, f2⟩, f3, f4, f5⟩ := hR
      refine ⟨⟨fun r hr => by rw [zup_row hr, zup_row hr, zup_row hr, zup_row hr]; exact f1 r hr, fun j j1 j2 j3 => ?_⟩, by simpa [zup_ap] using f3, by simpa [zup_ap] using f4, by simpa [zup_ap] using f5⟩
      simp only [zup_ap, true_and]
      split
      · rfl
      · split
        · rfl
        · exact f2 j j1 j2 j3
    · simp only [zup_ap, and_self, if_true]; exact (h93 ▸ hE) rest
  · subst hr1
    have hP := zN_gen hK1 rfl
    try simp only [zup_ap, zup_row, ne_eq, not_false_eq_true, zres, Int.toNat_natCast, reduceIte, Nat.reduceEqDiff, Nat.reduceAdd, and_self, and_true, true_and, and_false, false_and]
    skip
    refine zM_tail hΓ rfl hQ (e + 1) hb0 _ pp1 p1 c1 (by omega) hM hT b13 hR hz1 hpp1 (Or.inl ⟨b17, b14, (h93 ▸ hE).resolve_left (fun q => q b17)⟩) hP
  · have hx := zX_gen hK1 hd1 he1 (fun hd c9 => by
      unfold zK13
      have := zdg_lt hd
      rw [if_neg (by omega), if_neg (by omega)]; exact zDg_fl)
    have hrf : r.1 = false := by
      rcases hx.1 with hx1 | hx1
      · exact hx1
      · have hd := hx1
        have hlt := zdg_lt hd
        rcases hK1 with ⟨-, hr⟩ | ⟨hr1, hk⟩
        · rw [hr]
        · dsimp only at hk
          rw [he1] at hk
          unfold zK13 at hk
          rw [if_neg (by omega), if_neg (by omega)] at hk
          cases hk; rfl
    have hX1 := hX.2.1
    try simp only [zup_ap, zup_row, ne_eq, not_false_eq_true, zres, Int.toNat_natCast, reduceIte, Nat.reduceEqDiff, Nat.reduceAdd, and_self, and_true, true_and, and_false, false_and]
    skip
    refine z_al0 dX9_goThrough_32 (by first | decide | omega | assumption) ?_
    refine z_getI zfX9_160 dX9_goThrough_33 (zkB hΓ rfl) rfl ?_
    try simp only [zup_ap, zup_row, ne_eq, not_false_eq_true, zres, Int.toNat_natCast, reduceIte, Nat.reduceEqDiff, Nat.reduceAdd, and_self, and_true, true_and, and_false, false_and]
    refine z_iconst dX9_goThrough_36 (by decide) ?_
    refine z_icmp_ne (t := 66) dX9_goThrough_37 (by rfl) (fun ht37 => ?_) (fun hf37 => ?_)
    · refine z_al0 dX9_goThrough_66 (by first | decide | omega | assumption) ?_
      refine z_getI zfX9_160 dX9_goThrough_67 (zkB hΓ rfl) rfl ?_
      try simp only [zup_ap, zup_row, ne_eq, not_false_eq_true, zres, Int.toNat_natCast, reduceIte, Nat.reduceEqDiff, Nat.reduceAdd, and_self, and_true, true_and, and_false, false_and]
      refine z_iconst dX9_goThrough_70 (by decide) ?_
      refine z_icmp_ne (t := 87) dX9_goThrough_71 (by rfl) (fun ht71 => ?_) (fun hf71 => ?_)
      · refine z_ret dX9_goThrough_87 rfl (Nat.le_refl _) (Nat.le_refl _) (zext_rf _) ?_
        refine hQ.1 p1 r.2.2 (by rw [← hrf, ← hx.2]) _ (zMT_mf hM hX.1) hX1
      · exfalso; omega
    · exfalso; omega
