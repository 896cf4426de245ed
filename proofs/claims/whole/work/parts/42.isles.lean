/-! ISLES' text -/
abbrev zDM := Nat → Nat → Int
def zdU (D : zDM) (a b : Nat) (x : Int) : zDM := fun i j => if (i = a ∧ j = b) ∨ (i = b ∧ j = a) then x else D i j
def zTbs (t : Nat → Int) (n : Nat) : Nat → Nat → List Int → Bool × Nat × List Int
  | 0, q, L => (false, q, L)
  | m + 1, q, L => if (znum t n 2 q 0).2 = q then (false, zskip t n q, L) else if 2 ≤ L.length + 1 ∧ zsg t n (zskip t n (znum t n 2 q 0).2) = 59 then (true, zskip t n (zskip t n (znum t n 2 q 0).2 + 1), L ++ [(znum t n 2 q 0).1]) else if L.length + 1 = 6 then (false, zskip t n (znum t n 2 q 0).2, L ++ [(znum t n 2 q 0).1]) else if zsg t n (zskip t n (znum t n 2 q 0).2) = 44 then zTbs t n m (zskip t n (zskip t n (znum t n 2 q 0).2 + 1)) (L ++ [(znum t n 2 q 0).1]) else (false, zskip t n (znum t n 2 q 0).2, L ++ [(znum t n 2 q 0).1])
def zWy (t : Nat → Int) (n N q : Nat) (D : zDM) : Bool × Nat × zDM := if ¬ (97 ≤ zsg t n q ∧ zsg t n q < 97 + (N : Int)) then (false, q, D) else if ¬ (97 ≤ zsg t n (zskip t n (q + 1)) ∧ zsg t n (zskip t n (q + 1)) < 97 + (N : Int)) ∨ zsg t n (zskip t n (q + 1)) = zsg t n q ∨ 0 < D (zsg t n q - 97).toNat (zsg t n (zskip t n (q + 1)) - 97).toNat then (false, zskip t n (q + 1), D) else if ¬ (49 ≤ zsg t n (zskip t n (zskip t n (q + 1) + 1)) ∧ zsg t n (zskip t n (zskip t n (q + 1) + 1)) ≤ 57) then (false, zskip t n (zskip t n (q + 1) + 1), D) else (true, zskip t n (zskip t n (zskip t n (q + 1) + 1) + 1), zdU D (zsg t n q - 97).toNat (zsg t n (zskip t n (q + 1)) - 97).toNat (zsg t n (zskip t n (zskip t n (q + 1) + 1)) - 48))
def zWys (t : Nat → Int) (n N : Nat) : Nat → Nat → zDM → Bool × Nat × zDM
  | 0, q, D => (false, q, D)
  | f + 1, q, D => if (zWy t n N q D).1 = false then (zWy t n N q D) else if n ≤ (zWy t n N q D).2.1 then zWy t n N q D else if zsg t n (zWy t n N q D).2.1 = 44 then zWys t n N f (zskip t n ((zWy t n N q D).2.1 + 1)) (zWy t n N q D).2.2 else (false, (zWy t n N q D).2.1, (zWy t n N q D).2.2)
def zIsB (t : Nat → Int) (n : Nat) : Bool × Nat × List Int := zTbs t n 6 (zskip t n 0) []
def zIsW (t : Nat → Int) (n : Nat) : Bool × Nat × zDM := zWys t n (zIsB t n).2.2.length 16 (zIsB t n).2.1 (fun _ _ => 0)
def zIs (t : Nat → Int) (n : Nat) : Bool × Nat × List Int × zDM := if (zIsB t n).1 = true then ((zIsW t n).1, (zIsW t n).2.1, (zIsB t n).2.2, (zIsW t n).2.2) else (false, (zIsB t n).2.1, (zIsB t n).2.2, fun _ _ => 0)
theorem zks7 {Γ : zC} (hΓ : zBase Γ) {j : Nat} (h : j < 6) : zkd Γ (7 + j) = some (.inr (0, 6)) := by
  rcases (show j = 0 ∨ j = 1 ∨ j = 2 ∨ j = 3 ∨ j = 4 ∨ j = 5 by omega) with rfl | rfl | rfl | rfl | rfl | rfl <;> exact zkB hΓ rfl
theorem zsr6 {Γ : zC} (hΓ : zBase Γ) {j : Nat} (h : j < 6) : zsr Γ 6 j = some (7 + j) := by
  rcases (show j = 0 ∨ j = 1 ∨ j = 2 ∨ j = 3 ∨ j = 4 ∨ j = 5 by omega) with rfl | rfl | rfl | rfl | rfl | rfl <;> exact zsB hΓ rfl
theorem zSS7 {j : Nat} (h : j < 6) (q : Nat) : zSS (7 + j) q = true := by
  rcases (show j = 0 ∨ j = 1 ∨ j = 2 ∨ j = 3 ∨ j = 4 ∨ j = 5 by omega) with rfl | rfl | rfl | rfl | rfl | rfl <;> rfl
def zDf (h0 h : zM) (p : Nat) (L : List Int) (D : zDM) : Prop := zfr zSS h0 h ∧ h 2 2 = (p : Int) ∧ h 4 0 = (L.length : Int) ∧ (∀ i, i < 6 → h 5 i = L.getD i 0) ∧ ∀ a b, a < 6 → b < 6 → h (7 + a) b = D a b
theorem zDf_p {h0 h : zM} {p p' : Nat} {L : List Int} {D : zDM} (H : zDf h0 h p L D) : zDf h0 (zup h 2 2 (p' : Nat)) p' L D := ⟨zfr_up H.1 rfl, zup_rj _ _ _ _, by rw [zup_row (by decide)]; exact H.2.2.1, fun i hi => by rw [zup_row (by decide)]; exact H.2.2.2.1 i hi, fun a b ha hb => by rw [zup_row (by omega)]; exact H.2.2.2.2 a b ha hb⟩
theorem zDf_t {h0 h : zM} {p : Nat} {L : List Int} {D : zDM} (H : zDf h0 h p L D) : h 3 = h0 3 := funext fun j => H.1 3 j rfl
theorem zDf_n {h0 h : zM} {p : Nat} {L : List Int} {D : zDM} (H : zDf h0 h p L D) : h 2 1 = h0 2 1 := H.1 2 1 rfl
theorem zgetD_ap (L : List Int) (v : Int) (i : Nat) : (L ++ [v]).getD i 0 = if i = L.length then v else L.getD i 0 := by
  rw [List.getD_eq_getElem?_getD, List.getD_eq_getElem?_getD]
  by_cases e : i = L.length
  · rw [if_pos e, e]; simp
  · rw [if_neg e]
    by_cases e2 : i < L.length
    · rw [List.getElem?_append_left e2]
    · rw [List.getElem?_eq_none (by simp; omega), List.getElem?_eq_none (by omega)]
theorem zDf_l {h0 h : zM} {p : Nat} {L : List Int} {D : zDM} (H : zDf h0 h p L D) (v : Int) : zDf h0 (zup (zup h 5 L.length v) 4 0 ((L.length : Int) + 1)) p (L ++ [v]) D := ⟨zfr_up (zfr_up H.1 rfl) rfl, by rw [zup_row (by decide), zup_row (by decide)]; exact H.2.1, by rw [zup_rj, List.length_append]; show _ = ((L.length + 1 : Nat) : Int); omega, fun i hi => by
  rw [zup_row (by decide), zgetD_ap, zup_ap]
  by_cases e : i = L.length
  · rw [if_pos ⟨rfl, e⟩, if_pos e]
  · rw [if_neg (fun x => e x.2), if_neg e]; exact H.2.2.2.1 i hi, fun a b ha hb => by rw [zup_row (by omega), zup_row (by omega)]; exact H.2.2.2.2 a b ha hb⟩
theorem zDf_d {h0 h : zM} {p : Nat} {L : List Int} {D : zDM} (H : zDf h0 h p L D) (v : Int) {a b : Nat} (ha : a < 6) (hb : b < 6) : zDf h0 (zup (zup h (7 + a) b v) (7 + b) a v) p L (zdU D a b v) := ⟨zfr_up (zfr_up H.1 (zSS7 ha _)) (zSS7 hb _), by rw [zup_row (by omega), zup_row (by omega)]; exact H.2.1, by rw [zup_row (by omega), zup_row (by omega)]; exact H.2.2.1, fun i hi => by rw [zup_row (by omega), zup_row (by omega)]; exact H.2.2.2.1 i hi, fun i j hi hj => by
  unfold zdU
  rw [zup_ap, zup_ap]
  by_cases e : (i = a ∧ j = b) ∨ (i = b ∧ j = a)
  · rw [if_pos e]
    rcases e with ⟨rfl, rfl⟩ | ⟨rfl, rfl⟩
    · split
      · rfl
      · rw [if_pos ⟨rfl, rfl⟩]
    · rw [if_pos ⟨rfl, rfl⟩]
  · rw [if_neg e, if_neg (fun x => e (Or.inr ⟨by have := x.1; omega, x.2⟩)), if_neg (fun x => e (Or.inl ⟨by have := x.1; omega, x.2⟩))]
    exact H.2.2.2.2 i j hi hj⟩
theorem zD_sign {l : Launch} {Γ : zC} {h0 h : zM} {Q : Option zV → zC → zM → Prop} {n p : Nat} {L : List Int} {D : zDM} (hΓ : zBase Γ) (hn : h0 2 1 = (n : Int)) (hn2 : n ≤ 160) (hD : zDf h0 h p L D) (hQ : Q (some (zI (zsg (h0 3) n p))) Γ h) : zCT l mX5_sign 0 0 0 Γ [zR 2] h Q := X5_sign_ct hΓ ((zDf_n hD).trans hn) hn2 hD.2.1 (by rw [zDf_t hD]; exact hQ)
theorem zD_spent {l : Launch} {Γ : zC} {h0 h : zM} {Q : Option zV → zC → zM → Prop} {n p : Nat} {L : List Int} {D : zDM} (hΓ : zBase Γ) (hn : h0 2 1 = (n : Int)) (hn2 : n ≤ 160) (hD : zDf h0 h p L D) (hQ : Q (some (zI (if n ≤ p then 1 else 0))) Γ h) : zCT l mX5_isSpent 0 0 0 Γ [zR 2] h Q := X5_isSpent_ct hΓ ((zDf_n hD).trans hn) hn2 hD.2.1 hQ
theorem zD_acc {l : Launch} {Γ : zC} {h0 h : zM} {Q : Option zV → zC → zM → Prop} {n p : Nat} {L : List Int} {D : zDM} (hΓ : zBase Γ) (hn : h0 2 1 = (n : Int)) (hn2 : n ≤ 160) (hD : zDf h0 h p L D) {x : Int} (hp : p ≤ 160) (hQ0 : ¬ zsg (h0 3) n p = x → Q (some (zI 0)) Γ h) (hQ1 : zsg (h0 3) n p = x → ∀ h2, zDf h0 h2 (zskip (h0 3) n (p + 1)) L D → Q (some (zI 1)) Γ h2) : zCT l mX5_accept 1 0 0 Γ [zR 2, zI x] h Q := X5_accept_ct hΓ ((zDf_n hD).trans hn) hn2 hD.2.1 (by omega) (by rw [zDf_t hD]; exact hQ0) (by rw [zDf_t hD]; exact fun e => hQ1 e _ (zDf_p hD)) hp
theorem zD_num {l : Launch} {Γ : zC} {h0 h : zM} {Q : Option zV → zC → zM → Prop} {n p : Nat} {L : List Int} {D : zDM} (hΓ : zBase Γ) (hn : h0 2 1 = (n : Int)) (hn2 : n ≤ 160) (hD : zDf h0 h p L D) {dd : Nat} (hp : p ≤ 160) (hdd : dd ≤ 4) (hQ0 : (znum (h0 3) n dd p 0).2 = p → ∀ h2, zDf h0 h2 (zskip (h0 3) n p) L D → Q (some (zI (-1))) Γ h2) (hQ1 : ¬ (znum (h0 3) n dd p 0).2 = p → ∀ h2, zDf h0 h2 (zskip (h0 3) n (znum (h0 3) n dd p 0).2) L D → Q (some (zI (znum (h0 3) n dd p 0).1)) Γ h2) : zCT l mX5_number 1 0 0 Γ [zR 2, zI (dd : Nat)] h Q := X5_number_ct hΓ ((zDf_n hD).trans hn) hn2 hD.2.1 hp hdd (by
  rw [zDf_t hD]
  by_cases e : (znum (h0 3) n dd p 0).2 = p
  · rw [if_pos e, e]; exact hQ0 e _ (zDf_p hD)
  · rw [if_neg e]; exact hQ1 e _ (zDf_p hD))
set_option maxRecDepth 4000 in
theorem X0_readTaboos_l {l : Launch} {Γ : zC} {h0 : zM} {Q : Option zV → zC → zM → Prop} {n : Nat} {D : zDM} (hΓ : zBase Γ) (hn : h0 2 1 = (n : Int)) (hn2 : n ≤ 160) : ∀ (m : Nat) (L : List Int) (q : Nat) (y : Option zV) (h : zM), L.length + m = 6 → q ≤ 160 → zDf h0 h q L D → (∀ h2, zDf h0 h2 (zTbs (h0 3) n m q L).2.1 (zTbs (h0 3) n m q L).2.2 D → Q (some (zI (if (zTbs (h0 3) n m q L).1 = true then 1 else 0))) Γ h2) → zG (zFn l mX0_readTaboos 2 0 0 Γ Q) 0 0 Γ h 2 [some (zR 4), some (zR 2), some (zI (L.length : Int)), y] [] := by
  intro m
  induction m with
  | zero =>
    intro L q y h hm hq hD hQ
    refine z_il2 dX0_readTaboos_2 ?_
    refine z_bipush (x := 6) dX0_readTaboos_3 (by rfl) (by decide) ?_
    refine z_icmp_ge (t := 80) dX0_readTaboos_5 (by rfl) (fun ht5 => ?_) (fun hf5 => ?_)
    · refine z_iconst dX0_readTaboos_80 (by decide) ?_
      refine z_zret dX0_readTaboos_81 rfl (Nat.le_refl _) (Nat.le_refl _) (zext_rf _) (by first | exact Or.inl rfl | exact Or.inr rfl | omega) ?_
      exact hQ h hD
    · exfalso; omega
  | succ m ih =>
    intro L q y h hm hq hD hQ
    refine z_il2 dX0_readTaboos_2 ?_
    refine z_bipush (x := 6) dX0_readTaboos_3 (by rfl) (by decide) ?_
    refine z_icmp_ge (t := 80) dX0_readTaboos_5 (by rfl) (fun ht5 => ?_) (fun hf5 => ?_)
    · exfalso; omega
    · refine z_al1 dX0_readTaboos_8 (by first | decide | omega | assumption) ?_
      refine z_iconst dX0_readTaboos_9 (by decide) ?_
      refine zcv1 dX0_readTaboos_10 zkX0_51 ziX5_number zsX5_number (zkB hΓ rfl) (by decide) rfl (Nat.le_of_ble_eq_true rfl) (by decide) (by first | decide | omega) ⟨Nat.le_refl _, Nat.le_refl _⟩ (zD_num (dd := 2) hΓ hn hn2 hD (by omega) (by omega) (fun he h hD _ => ?_) (fun he h hD _ => ?_))
      · try simp only [zup_ap, zup_row, ne_eq, not_false_eq_true, zres, Int.toNat_natCast, reduceIte, Nat.reduceEqDiff, Nat.reduceAdd, and_self, and_true, true_and, and_false, false_and]
        refine z_is3 dX0_readTaboos_13 (Nat.le_of_ble_eq_true rfl) rfl ?_
        refine z_il3 dX0_readTaboos_14 ?_
        refine z_iconst dX0_readTaboos_15 (by decide) ?_
        refine z_icmp_ne (t := 21) dX0_readTaboos_16 (by rfl) (fun hx => absurd hx (by decide)) (fun _ => ?_)
        refine z_iconst dX0_readTaboos_19 (by decide) ?_
        refine z_zret dX0_readTaboos_20 rfl (Nat.le_refl _) (Nat.le_refl _) (zext_rf _) (by first | exact Or.inl rfl | exact Or.inr rfl | omega) ?_
        rw [zTbs, if_pos he] at hQ
        exact hQ h hD
      · have hv9 := znum_nn (h0 3) n 2 q 0 (Int.le_refl 0)
        have hp9 := znum_p (h0 3) n 2 q 0
        have hs9 := zskip_b (h0 3) n (znum (h0 3) n 2 q 0).2
        have hs8 := zskip_b (h0 3) n (zskip (h0 3) n (znum (h0 3) n 2 q 0).2 + 1)
        try simp only [zup_ap, zup_row, ne_eq, not_false_eq_true, zres, Int.toNat_natCast, reduceIte, Nat.reduceEqDiff, Nat.reduceAdd, and_self, and_true, true_and, and_false, false_and]
        refine z_is3 dX0_readTaboos_13 (Nat.le_of_ble_eq_true rfl) rfl ?_
        refine z_il3 dX0_readTaboos_14 ?_
        refine z_iconst dX0_readTaboos_15 (by decide) ?_
        refine z_icmp_ne (t := 21) dX0_readTaboos_16 (by rfl) (fun ht16 => ?_) (fun hf16 => ?_)
        · first
          | (exfalso; omega)
          | (refine z_al0 dX0_readTaboos_21 (by first | decide | omega | assumption) ?_
             refine z_getR zfX0_9 dX0_readTaboos_22 (zkB hΓ rfl) rfl (zsB hΓ rfl) (zvB hΓ (by decide)) ?_
             refine z_il2 dX0_readTaboos_25 ?_
             refine z_il3 dX0_readTaboos_26 ?_
             refine z_iast dX0_readTaboos_27 (zkB hΓ rfl) (by omega) (by omega) ?_
             have hLL : L.length < 6 := by omega
             refine z_al0 dX0_readTaboos_28 (by first | decide | omega | assumption) ?_
             refine z_il2 dX0_readTaboos_29 ?_
             refine z_iconst dX0_readTaboos_30 (by decide) ?_
             refine z_iadd dX0_readTaboos_31 (by omega) ?_
             refine z_putI zfX0_35 dX0_readTaboos_32 (zkB hΓ rfl) rfl rfl ?_
             try simp only [Int.toNat_natCast]
             have hD := zDf_l hD (znum (h0 3) n 2 q 0).1
             generalize zup (zup h 5 L.length (znum (h0 3) n 2 q 0).1) 4 0 ((L.length : Int) + 1) = h at hD ⊢
             refine z_al0 dX0_readTaboos_35 (by first | decide | omega | assumption) ?_
             refine z_getI zfX0_35 dX0_readTaboos_36 (zkB hΓ rfl) rfl ?_
             rw [hD.2.2.1]
             try rw [show ((L ++ [(znum (h0 3) n 2 q 0).1]).length : Int) = (L.length : Int) + 1 by rw [List.length_append]; rfl]
             try simp only [zup_ap, zup_row, ne_eq, not_false_eq_true, zres, Int.toNat_natCast, reduceIte, Nat.reduceEqDiff, Nat.reduceAdd, and_self, and_true, true_and, and_false, false_and]
             refine z_iconst dX0_readTaboos_39 (by decide) ?_
             refine z_icmp_lt (t := 54) dX0_readTaboos_40 (by rfl) (fun ht40 => ?_) (fun hf40 => ?_)
             · first
               | (exfalso; omega)
               | (refine z_al0 dX0_readTaboos_54 (by first | decide | omega | assumption) ?_
                  refine z_getI zfX0_35 dX0_readTaboos_55 (zkB hΓ rfl) rfl ?_
                  rw [hD.2.2.1]
                  try rw [show ((L ++ [(znum (h0 3) n 2 q 0).1]).length : Int) = (L.length : Int) + 1 by rw [List.length_append]; rfl]
                  try simp only [zup_ap, zup_row, ne_eq, not_false_eq_true, zres, Int.toNat_natCast, reduceIte, Nat.reduceEqDiff, Nat.reduceAdd, and_self, and_true, true_and, and_false, false_and]
                  refine z_bipush (x := 6) dX0_readTaboos_58 (by rfl) (by decide) ?_
                  refine z_icmp_eq (t := 72) dX0_readTaboos_60 (by rfl) (fun ht60 => ?_) (fun hf60 => ?_)
                  · refine z_iconst dX0_readTaboos_72 (by decide) ?_
                    refine z_zret dX0_readTaboos_73 rfl (Nat.le_refl _) (Nat.le_refl _) (zext_rf _) (by first | exact Or.inl rfl | exact Or.inr rfl | omega) ?_
                    first
                    | (rw [zTbs, if_neg he, if_neg (by omega), if_pos (by omega)] at hQ
                       exact hQ h hD)
                    | (rw [zTbs, if_neg he, if_neg (by omega), if_neg (by omega), if_neg (by omega)] at hQ
                       exact hQ h hD)
                  · refine z_al1 dX0_readTaboos_63 (by first | decide | omega | assumption) ?_
                    refine z_bipush (x := 44) dX0_readTaboos_64 (by rfl) (by decide) ?_
                    refine zcv1 dX0_readTaboos_66 zkX0_55 ziX5_accept zsX5_accept (zkB hΓ rfl) (by decide) rfl (Nat.le_of_ble_eq_true rfl) (by decide) (by first | decide | omega) ⟨Nat.le_refl _, Nat.le_refl _⟩ (zD_acc hΓ hn hn2 hD (by omega) (fun hk44 _ => ?_) (fun hk44 h hD _ => ?_))
                    · try simp only [zup_ap, zup_row, ne_eq, not_false_eq_true, zres, Int.toNat_natCast, reduceIte, Nat.reduceEqDiff, Nat.reduceAdd, and_self, and_true, true_and, and_false, false_and]
                      refine z_if_ne (t := 74) dX0_readTaboos_69 (by rfl) (fun hx => absurd hx (by decide)) (fun _ => ?_)
                      refine z_iconst dX0_readTaboos_72 (by decide) ?_
                      refine z_zret dX0_readTaboos_73 rfl (Nat.le_refl _) (Nat.le_refl _) (zext_rf _) (by first | exact Or.inl rfl | exact Or.inr rfl | omega) ?_
                      first
                      | (rw [zTbs, if_neg he, if_neg (by omega), if_pos (by omega)] at hQ
                         exact hQ h hD)
                      | (rw [zTbs, if_neg he, if_neg (by omega), if_neg (by omega), if_neg (by omega)] at hQ
                         exact hQ h hD)
                    · try simp only [zup_ap, zup_row, ne_eq, not_false_eq_true, zres, Int.toNat_natCast, reduceIte, Nat.reduceEqDiff, Nat.reduceAdd, and_self, and_true, true_and, and_false, false_and]
                      refine z_if_ne (t := 74) dX0_readTaboos_69 (by rfl) (fun _ => ?_) (fun hx => absurd hx (by decide))
                      refine z_ii2 dX0_readTaboos_74 (by omega) (Nat.le_of_ble_eq_true rfl) rfl ?_
                      refine z_goto (t := 2) dX0_readTaboos_77 (by rfl) ?_
                      rw [show (L.length : Int) + 1 = ((L ++ [(znum (h0 3) n 2 q 0).1]).length : Int) by rw [List.length_append]; rfl]
                      refine ih (L ++ [(znum (h0 3) n 2 q 0).1]) (zskip (h0 3) n (zskip (h0 3) n (znum (h0 3) n 2 q 0).2 + 1)) _ h (by rw [List.length_append]; show L.length + 1 + m = 6; omega) ?_ hD ?_
                      · have hl9 := zsg_lt hk44 (by decide)
                        omega
                      rw [zTbs, if_neg he, if_neg (by omega), if_neg (by omega), if_pos hk44] at hQ
                      exact hQ)
             · first
               | (exfalso; omega)
               | (refine z_al1 dX0_readTaboos_43 (by first | decide | omega | assumption) ?_
                  refine z_bipush (x := 59) dX0_readTaboos_44 (by rfl) (by decide) ?_
                  refine zcv1 dX0_readTaboos_46 zkX0_55 ziX5_accept zsX5_accept (zkB hΓ rfl) (by decide) rfl (Nat.le_of_ble_eq_true rfl) (by decide) (by first | decide | omega) ⟨Nat.le_refl _, Nat.le_refl _⟩ (zD_acc hΓ hn hn2 hD (by omega) (fun hk59 _ => ?_) (fun hk59 h hD _ => ?_))
                  · try simp only [zup_ap, zup_row, ne_eq, not_false_eq_true, zres, Int.toNat_natCast, reduceIte, Nat.reduceEqDiff, Nat.reduceAdd, and_self, and_true, true_and, and_false, false_and]
                    refine z_if_eq (t := 54) dX0_readTaboos_49 (by rfl) (fun _ => ?_) (fun hx => absurd hx (by decide))
                    refine z_al0 dX0_readTaboos_54 (by first | decide | omega | assumption) ?_
                    refine z_getI zfX0_35 dX0_readTaboos_55 (zkB hΓ rfl) rfl ?_
                    rw [hD.2.2.1]
                    try rw [show ((L ++ [(znum (h0 3) n 2 q 0).1]).length : Int) = (L.length : Int) + 1 by rw [List.length_append]; rfl]
                    try simp only [zup_ap, zup_row, ne_eq, not_false_eq_true, zres, Int.toNat_natCast, reduceIte, Nat.reduceEqDiff, Nat.reduceAdd, and_self, and_true, true_and, and_false, false_and]
                    refine z_bipush (x := 6) dX0_readTaboos_58 (by rfl) (by decide) ?_
                    refine z_icmp_eq (t := 72) dX0_readTaboos_60 (by rfl) (fun ht60 => ?_) (fun hf60 => ?_)
                    · refine z_iconst dX0_readTaboos_72 (by decide) ?_
                      refine z_zret dX0_readTaboos_73 rfl (Nat.le_refl _) (Nat.le_refl _) (zext_rf _) (by first | exact Or.inl rfl | exact Or.inr rfl | omega) ?_
                      first
                      | (rw [zTbs, if_neg he, if_neg (by omega), if_pos (by omega)] at hQ
                         exact hQ h hD)
                      | (rw [zTbs, if_neg he, if_neg (by omega), if_neg (by omega), if_neg (by omega)] at hQ
                         exact hQ h hD)
                    · refine z_al1 dX0_readTaboos_63 (by first | decide | omega | assumption) ?_
                      refine z_bipush (x := 44) dX0_readTaboos_64 (by rfl) (by decide) ?_
                      refine zcv1 dX0_readTaboos_66 zkX0_55 ziX5_accept zsX5_accept (zkB hΓ rfl) (by decide) rfl (Nat.le_of_ble_eq_true rfl) (by decide) (by first | decide | omega) ⟨Nat.le_refl _, Nat.le_refl _⟩ (zD_acc hΓ hn hn2 hD (by omega) (fun hk44 _ => ?_) (fun hk44 h hD _ => ?_))
                      · try simp only [zup_ap, zup_row, ne_eq, not_false_eq_true, zres, Int.toNat_natCast, reduceIte, Nat.reduceEqDiff, Nat.reduceAdd, and_self, and_true, true_and, and_false, false_and]
                        refine z_if_ne (t := 74) dX0_readTaboos_69 (by rfl) (fun hx => absurd hx (by decide)) (fun _ => ?_)
                        refine z_iconst dX0_readTaboos_72 (by decide) ?_
                        refine z_zret dX0_readTaboos_73 rfl (Nat.le_refl _) (Nat.le_refl _) (zext_rf _) (by first | exact Or.inl rfl | exact Or.inr rfl | omega) ?_
                        first
                        | (rw [zTbs, if_neg he, if_neg (by omega), if_pos (by omega)] at hQ
                           exact hQ h hD)
                        | (rw [zTbs, if_neg he, if_neg (by omega), if_neg (by omega), if_neg (by omega)] at hQ
                           exact hQ h hD)
                      · try simp only [zup_ap, zup_row, ne_eq, not_false_eq_true, zres, Int.toNat_natCast, reduceIte, Nat.reduceEqDiff, Nat.reduceAdd, and_self, and_true, true_and, and_false, false_and]
                        refine z_if_ne (t := 74) dX0_readTaboos_69 (by rfl) (fun _ => ?_) (fun hx => absurd hx (by decide))
                        refine z_ii2 dX0_readTaboos_74 (by omega) (Nat.le_of_ble_eq_true rfl) rfl ?_
                        refine z_goto (t := 2) dX0_readTaboos_77 (by rfl) ?_
                        rw [show (L.length : Int) + 1 = ((L ++ [(znum (h0 3) n 2 q 0).1]).length : Int) by rw [List.length_append]; rfl]
                        refine ih (L ++ [(znum (h0 3) n 2 q 0).1]) (zskip (h0 3) n (zskip (h0 3) n (znum (h0 3) n 2 q 0).2 + 1)) _ h (by rw [List.length_append]; show L.length + 1 + m = 6; omega) ?_ hD ?_
                        · have hl9 := zsg_lt hk44 (by decide)
                          omega
                        rw [zTbs, if_neg he, if_neg (by omega), if_neg (by omega), if_pos hk44] at hQ
                        exact hQ
                  · try simp only [zup_ap, zup_row, ne_eq, not_false_eq_true, zres, Int.toNat_natCast, reduceIte, Nat.reduceEqDiff, Nat.reduceAdd, and_self, and_true, true_and, and_false, false_and]
                    refine z_if_eq (t := 54) dX0_readTaboos_49 (by rfl) (fun hx => absurd hx (by decide)) (fun _ => ?_)
                    refine z_iconst dX0_readTaboos_52 (by decide) ?_
                    refine z_zret dX0_readTaboos_53 rfl (Nat.le_refl _) (Nat.le_refl _) (zext_rf _) (by first | exact Or.inl rfl | exact Or.inr rfl | omega) ?_
                    rw [zTbs, if_neg he, if_pos ⟨by omega, by omega⟩] at hQ
                    exact hQ h hD))
        · first
          | (exfalso; omega)
          | (refine z_iconst dX0_readTaboos_19 (by decide) ?_
             refine z_zret dX0_readTaboos_20 rfl (Nat.le_refl _) (Nat.le_refl _) (zext_rf _) (by first | exact Or.inl rfl | exact Or.inr rfl | omega) ?_
             rw [zTbs, if_pos he] at hQ
             exact hQ h hD)
set_option maxRecDepth 4000 in
theorem X0_readTaboos_ct {l : Launch} {Γ : zC} {h0 h : zM} {Q : Option zV → zC → zM → Prop} {n q : Nat} {D : zDM} (hΓ : zBase Γ) (hn : h0 2 1 = (n : Int)) (hn2 : n ≤ 160) (hq : q ≤ 160) (hD : zDf h0 h q [] D) (hQ : ∀ h2, zDf h0 h2 (zTbs (h0 3) n 6 q []).2.1 (zTbs (h0 3) n 6 q []).2.2 D → Q (some (zI (if (zTbs (h0 3) n 6 q []).1 = true then 1 else 0))) Γ h2) : zCT l mX0_readTaboos 2 0 0 Γ [zR 4, zR 2] h Q := by
  refine zCT_of (by decide) (Nat.le_of_ble_eq_true rfl) (ls := [some (zR 4), some (zR 2), none, none]) rfl ?_
  refine z_iconst dX0_readTaboos_0 (by decide) ?_
  refine z_is2 dX0_readTaboos_1 (Nat.le_of_ble_eq_true rfl) rfl ?_
  exact X0_readTaboos_l hΓ hn hn2 6 [] q _ h rfl hq hD hQ
theorem zD_sp2 {l : Launch} {Γ : zC} {h0 h : zM} {Q : Option zV → zC → zM → Prop} {n p : Nat} {L : List Int} {D : zDM} (hΓ : zBase Γ) (hn : h0 2 1 = (n : Int)) (hn2 : n ≤ 160) (hD : zDf h0 h p L D) (hQ0 : ¬ n ≤ p → Q (some (zI 0)) Γ h) (hQ1 : n ≤ p → Q (some (zI 1)) Γ h) : zCT l mX5_isSpent 0 0 0 Γ [zR 2] h Q := zD_spent hΓ hn hn2 hD (by
  by_cases e : n ≤ p
  · rw [if_pos e]; exact hQ1 e
  · rw [if_neg e]; exact hQ0 e)
theorem zsg_r {t : Nat → Int} {n : Nat} (ht : ∀ j, j < n → 0 ≤ t j ∧ t j ≤ 255) (q : Nat) : -1 ≤ zsg t n q ∧ zsg t n q ≤ 255 := by
  unfold zsg
  split
  · have := ht q (by assumption); omega
  · omega
theorem zsg_ltg {t : Nat → Int} {n q : Nat} (h : 0 ≤ zsg t n q) : q < n := by
  unfold zsg at h
  split at h
  · assumption
  · omega
theorem zWy_p {t : Nat → Int} {n N q : Nat} {D : zDM} (hq : q ≤ 160) (hn : n ≤ 160) : (zWy t n N q D).2.1 ≤ 160 := by
  have s1 := zskip_b t n (q + 1)
  have s2 := zskip_b t n (zskip t n (q + 1) + 1)
  have s3 := zskip_b t n (zskip t n (zskip t n (q + 1) + 1) + 1)
  unfold zWy
  split
  · exact hq
  · rename_i c1
    have l1 := zsg_ltg (t := t) (n := n) (q := q) (by omega)
    split
    · show zskip t n (q + 1) ≤ 160; omega
    · rename_i c2
      have l2 := zsg_ltg (t := t) (n := n) (q := zskip t n (q + 1)) (by omega)
      split
      · show zskip t n (zskip t n (q + 1) + 1) ≤ 160; omega
      · rename_i c3
        have l3 := zsg_ltg (t := t) (n := n) (q := zskip t n (zskip t n (q + 1) + 1)) (by omega)
        show zskip t n (zskip t n (zskip t n (q + 1) + 1) + 1) ≤ 160; omega
set_option maxRecDepth 4000 in
theorem X0_readWay_c {l : Launch} {Γ : zC} {h0 h : zM} {Q : Option zV → zC → zM → Prop} {n q : Nat} {L : List Int} {D : zDM} (hΓ : zBase Γ) (hn : h0 2 1 = (n : Int)) (hn2 : n ≤ 160) (ht : ∀ j, j < n → 0 ≤ h0 3 j ∧ h0 3 j ≤ 255) (hq : q ≤ 160) (hL : L.length ≤ 6) (hD : zDf h0 h q L D) (hQ : ∀ h2, zDf h0 h2 (zWy (h0 3) n L.length q D).2.1 L (zWy (h0 3) n L.length q D).2.2 → Q (some (zI (if (zWy (h0 3) n L.length q D).1 = true then 1 else 0))) Γ h2) : zCT l mX0_readWay 2 0 0 Γ [zR 4, zR 2] h Q := by
  refine zCT_of (by decide) (Nat.le_of_ble_eq_true rfl) (ls := [some (zR 4), some (zR 2), none, none, none]) rfl ?_
  refine z_al1 dX0_readWay_0 (by first | decide | omega | assumption) ?_
  refine zcv0 dX0_readWay_1 zkX0_66 ziX5_sign zsX5_sign (zkB hΓ rfl) (by decide) rfl (Nat.le_of_ble_eq_true rfl) (by decide) (by first | decide | omega) ⟨Nat.le_refl _, Nat.le_refl _⟩ (zD_sign hΓ hn hn2 hD (fun _ => ?_))
  try simp only [zup_ap, zup_row, ne_eq, not_false_eq_true, zres, Int.toNat_natCast, reduceIte, Nat.reduceEqDiff, Nat.reduceAdd, and_self, and_true, true_and, and_false, false_and]
  have hz1 := zsg_r ht q
  have s1 := zskip_b (h0 3) n (q + 1)
  refine z_bipush (x := 97) dX0_readWay_4 (by rfl) (by decide) ?_
  refine z_isub dX0_readWay_6 (by omega) ?_
  refine z_is2 dX0_readWay_7 (Nat.le_of_ble_eq_true rfl) rfl ?_
  refine z_il2 dX0_readWay_8 ?_
  refine z_if_lt (t := 31) dX0_readWay_9 (by rfl) (fun ht9 => ?_) (fun hf9 => ?_)
  · refine z_iconst dX0_readWay_31 (by decide) ?_
    refine z_zret dX0_readWay_32 rfl (Nat.le_refl _) (Nat.le_refl _) (zext_rf _) (by first | exact Or.inl rfl | exact Or.inr rfl | omega) ?_
    unfold zWy at hQ
    rw [if_pos (by omega)] at hQ
    exact hQ h hD
  · refine z_il2 dX0_readWay_12 ?_
    refine z_al0 dX0_readWay_13 (by first | decide | omega | assumption) ?_
    refine z_getI zfX0_35 dX0_readWay_14 (zkB hΓ rfl) rfl ?_
    rw [hD.2.2.1]
    try simp only [zup_ap, zup_row, ne_eq, not_false_eq_true, zres, Int.toNat_natCast, reduceIte, Nat.reduceEqDiff, Nat.reduceAdd, and_self, and_true, true_and, and_false, false_and]
    refine z_icmp_ge (t := 31) dX0_readWay_17 (by rfl) (fun ht17 => ?_) (fun hf17 => ?_)
    · refine z_iconst dX0_readWay_31 (by decide) ?_
      refine z_zret dX0_readWay_32 rfl (Nat.le_refl _) (Nat.le_refl _) (zext_rf _) (by first | exact Or.inl rfl | exact Or.inr rfl | omega) ?_
      unfold zWy at hQ
      rw [if_pos (by omega)] at hQ
      exact hQ h hD
    · refine z_al1 dX0_readWay_20 (by first | decide | omega | assumption) ?_
      refine z_bipush (x := 97) dX0_readWay_21 (by rfl) (by decide) ?_
      refine z_il2 dX0_readWay_23 ?_
      refine z_iadd dX0_readWay_24 (by omega) ?_
      refine zcv1 dX0_readWay_25 zkX0_55 ziX5_accept zsX5_accept (zkB hΓ rfl) (by decide) rfl (Nat.le_of_ble_eq_true rfl) (by decide) (by first | decide | omega) ⟨Nat.le_refl _, Nat.le_refl _⟩ (zD_acc hΓ hn hn2 hD (by omega) (fun hk => absurd (by omega) hk) (fun hk h hD _ => ?_))
      · try simp only [zup_ap, zup_row, ne_eq, not_false_eq_true, zres, Int.toNat_natCast, reduceIte, Nat.reduceEqDiff, Nat.reduceAdd, and_self, and_true, true_and, and_false, false_and]
        refine z_if_ne (t := 33) dX0_readWay_28 (by rfl) (fun _ => ?_) (fun hx => absurd hx (by decide))
        have l1 := zsg_ltg (t := h0 3) (n := n) (q := q) (by omega)
        obtain ⟨a, ha⟩ := Int.eq_ofNat_of_zero_le (show 0 ≤ zsg (h0 3) n q - 97 by omega)
        rw [ha]
        have hz2 := zsg_r ht (zskip (h0 3) n (q + 1))
        have s2 := zskip_b (h0 3) n (zskip (h0 3) n (q + 1) + 1)
        refine z_al1 dX0_readWay_33 (by first | decide | omega | assumption) ?_
        refine zcv0 dX0_readWay_34 zkX0_66 ziX5_sign zsX5_sign (zkB hΓ rfl) (by decide) rfl (Nat.le_of_ble_eq_true rfl) (by decide) (by first | decide | omega) ⟨Nat.le_refl _, Nat.le_refl _⟩ (zD_sign hΓ hn hn2 hD (fun _ => ?_))
        try simp only [zup_ap, zup_row, ne_eq, not_false_eq_true, zres, Int.toNat_natCast, reduceIte, Nat.reduceEqDiff, Nat.reduceAdd, and_self, and_true, true_and, and_false, false_and]
        refine z_bipush (x := 97) dX0_readWay_37 (by rfl) (by decide) ?_
        refine z_isub dX0_readWay_39 (by omega) ?_
        refine z_is3 dX0_readWay_40 (Nat.le_of_ble_eq_true rfl) rfl ?_
        refine z_il3 dX0_readWay_41 ?_
        refine z_if_lt (t := 69) dX0_readWay_42 (by rfl) (fun ht42 => ?_) (fun hf42 => ?_)
        · refine z_iconst dX0_readWay_69 (by decide) ?_
          refine z_zret dX0_readWay_70 rfl (Nat.le_refl _) (Nat.le_refl _) (zext_rf _) (by first | exact Or.inl rfl | exact Or.inr rfl | omega) ?_
          unfold zWy at hQ
          try rw [show (zsg (h0 3) n q - 97).toNat = a by omega, show (zsg (h0 3) n (zskip (h0 3) n (q + 1)) - 97).toNat = b by omega] at hQ
          rw [if_neg (by omega), if_pos (by omega)] at hQ
          exact hQ h hD
        · refine z_il3 dX0_readWay_45 ?_
          refine z_al0 dX0_readWay_46 (by first | decide | omega | assumption) ?_
          refine z_getI zfX0_35 dX0_readWay_47 (zkB hΓ rfl) rfl ?_
          rw [hD.2.2.1]
          try simp only [zup_ap, zup_row, ne_eq, not_false_eq_true, zres, Int.toNat_natCast, reduceIte, Nat.reduceEqDiff, Nat.reduceAdd, and_self, and_true, true_and, and_false, false_and]
          refine z_icmp_ge (t := 69) dX0_readWay_50 (by rfl) (fun ht50 => ?_) (fun hf50 => ?_)
          · refine z_iconst dX0_readWay_69 (by decide) ?_
            refine z_zret dX0_readWay_70 rfl (Nat.le_refl _) (Nat.le_refl _) (zext_rf _) (by first | exact Or.inl rfl | exact Or.inr rfl | omega) ?_
            unfold zWy at hQ
            try rw [show (zsg (h0 3) n q - 97).toNat = a by omega, show (zsg (h0 3) n (zskip (h0 3) n (q + 1)) - 97).toNat = b by omega] at hQ
            rw [if_neg (by omega), if_pos (by omega)] at hQ
            exact hQ h hD
          · have l2 := zsg_ltg (t := h0 3) (n := n) (q := zskip (h0 3) n (q + 1)) (by omega)
            obtain ⟨b, hb⟩ := Int.eq_ofNat_of_zero_le (show 0 ≤ zsg (h0 3) n (zskip (h0 3) n (q + 1)) - 97 by omega)
            rw [hb]
            refine z_il3 dX0_readWay_53 ?_
            refine z_il2 dX0_readWay_54 ?_
            refine z_icmp_eq (t := 69) dX0_readWay_55 (by rfl) (fun ht55 => ?_) (fun hf55 => ?_)
            · refine z_iconst dX0_readWay_69 (by decide) ?_
              refine z_zret dX0_readWay_70 rfl (Nat.le_refl _) (Nat.le_refl _) (zext_rf _) (by first | exact Or.inl rfl | exact Or.inr rfl | omega) ?_
              unfold zWy at hQ
              try rw [show (zsg (h0 3) n q - 97).toNat = a by omega, show (zsg (h0 3) n (zskip (h0 3) n (q + 1)) - 97).toNat = b by omega] at hQ
              rw [if_neg (by omega), if_pos (by omega)] at hQ
              exact hQ h hD
            · refine z_al0 dX0_readWay_58 (by first | decide | omega | assumption) ?_
              refine z_getR zfX0_17 dX0_readWay_59 (zkB hΓ rfl) rfl (zsB hΓ rfl) (zvB hΓ (by decide)) ?_
              refine z_il2 dX0_readWay_62 ?_
              refine z_aald dX0_readWay_63 (zkB hΓ rfl) (Or.inl rfl) (by omega) (by omega) (q := 7 + a) (by rw [Int.toNat_natCast, zsr6 hΓ (by omega)]; rfl) (fun _ => zvB hΓ (Or.inl (by omega))) ?_
              refine z_il3 dX0_readWay_64 ?_
              refine z_iald dX0_readWay_65 (zks7 hΓ (by omega)) (by omega) (by omega) ?_
              try simp only [zup_ap, zup_row, ne_eq, not_false_eq_true, zres, Int.toNat_natCast, reduceIte, Nat.reduceEqDiff, Nat.reduceAdd, and_self, and_true, true_and, and_false, false_and]
              try simp only [Int.toNat_natCast]
              rw [hD.2.2.2.2 a b (by omega) (by omega)]
              refine z_if_le (t := 71) dX0_readWay_66 (by rfl) (fun ht66 => ?_) (fun hf66 => ?_)
              · refine z_al1 dX0_readWay_71 (by first | decide | omega | assumption) ?_
                refine z_bipush (x := 97) dX0_readWay_72 (by rfl) (by decide) ?_
                refine z_il3 dX0_readWay_74 ?_
                refine z_iadd dX0_readWay_75 (by omega) ?_
                refine zcv1 dX0_readWay_76 zkX0_55 ziX5_accept zsX5_accept (zkB hΓ rfl) (by decide) rfl (Nat.le_of_ble_eq_true rfl) (by decide) (by first | decide | omega) ⟨Nat.le_refl _, Nat.le_refl _⟩ (zD_acc hΓ hn hn2 hD (by omega) (fun hk => absurd (by omega) hk) (fun hk h hD _ => ?_))
                · try simp only [zup_ap, zup_row, ne_eq, not_false_eq_true, zres, Int.toNat_natCast, reduceIte, Nat.reduceEqDiff, Nat.reduceAdd, and_self, and_true, true_and, and_false, false_and]
                  refine z_if_ne (t := 84) dX0_readWay_79 (by rfl) (fun _ => ?_) (fun hx => absurd hx (by decide))
                  have hz3 := zsg_r ht (zskip (h0 3) n (zskip (h0 3) n (q + 1) + 1))
                  refine z_al1 dX0_readWay_84 (by first | decide | omega | assumption) ?_
                  refine zcv0 dX0_readWay_85 zkX0_66 ziX5_sign zsX5_sign (zkB hΓ rfl) (by decide) rfl (Nat.le_of_ble_eq_true rfl) (by decide) (by first | decide | omega) ⟨Nat.le_refl _, Nat.le_refl _⟩ (zD_sign hΓ hn hn2 hD (fun _ => ?_))
                  try simp only [zup_ap, zup_row, ne_eq, not_false_eq_true, zres, Int.toNat_natCast, reduceIte, Nat.reduceEqDiff, Nat.reduceAdd, and_self, and_true, true_and, and_false, false_and]
                  refine z_bipush (x := 48) dX0_readWay_88 (by rfl) (by decide) ?_
                  refine z_icmp_ne (t := 95) dX0_readWay_90 (by rfl) (fun ht90 => ?_) (fun hf90 => ?_)
                  · refine z_al1 dX0_readWay_95 (by first | decide | omega | assumption) ?_
                    refine z_iconst dX0_readWay_96 (by decide) ?_
                    refine zcv1 dX0_readWay_97 zkX0_51 ziX5_number zsX5_number (zkB hΓ rfl) (by decide) rfl (Nat.le_of_ble_eq_true rfl) (by decide) (by first | decide | omega) ⟨Nat.le_refl _, Nat.le_refl _⟩ (zD_num (dd := 1) hΓ hn hn2 hD (by omega) (by omega) (fun he h hD _ => ?_) (fun he h hD _ => ?_))
                    · have hz9 : ¬ zdg (zsg (h0 3) n (zskip (h0 3) n (zskip (h0 3) n (q + 1) + 1))) := fun hz => by
                        rw [znum_1 (e := 0) hz, znum_0 (Or.inl rfl)] at he
                        exact absurd he (Nat.succ_ne_self _)
                      rw [zskip_id] at hD
                      try simp only [zup_ap, zup_row, ne_eq, not_false_eq_true, zres, Int.toNat_natCast, reduceIte, Nat.reduceEqDiff, Nat.reduceAdd, and_self, and_true, true_and, and_false, false_and]
                      refine z_is4 dX0_readWay_100 (Nat.le_of_ble_eq_true rfl) rfl ?_
                      refine z_il4 dX0_readWay_102 ?_
                      refine z_iconst dX0_readWay_104 (by decide) ?_
                      refine z_icmp_ne (t := 110) dX0_readWay_105 (by rfl) (fun hx => absurd hx (by decide)) (fun _ => ?_)
                      refine z_iconst dX0_readWay_108 (by decide) ?_
                      refine z_zret dX0_readWay_109 rfl (Nat.le_refl _) (Nat.le_refl _) (zext_rf _) (by first | exact Or.inl rfl | exact Or.inr rfl | omega) ?_
                      unfold zWy at hQ
                      rw [show (zsg (h0 3) n q - 97).toNat = a by omega, show (zsg (h0 3) n (zskip (h0 3) n (q + 1)) - 97).toNat = b by omega, if_neg (by omega), if_neg (by omega), if_pos (by omega)] at hQ
                      exact hQ h hD
                    · have hz9 : zdg (zsg (h0 3) n (zskip (h0 3) n (zskip (h0 3) n (q + 1) + 1))) := Classical.byContradiction (fun hz => he (by rw [znum_0 (Or.inr hz)]))
                      rw [znum_1 (e := 0) hz9, znum_0 (Or.inl rfl)] at hD ⊢
                      try simp only [zup_ap, zup_row, ne_eq, not_false_eq_true, zres, Int.toNat_natCast, reduceIte, Nat.reduceEqDiff, Nat.reduceAdd, and_self, and_true, true_and, and_false, false_and]
                      rw [show 10 * 0 + zsg (h0 3) n (zskip (h0 3) n (zskip (h0 3) n (q + 1) + 1)) - 48 = zsg (h0 3) n (zskip (h0 3) n (zskip (h0 3) n (q + 1) + 1)) - 48 by omega]
                      refine z_is4 dX0_readWay_100 (Nat.le_of_ble_eq_true rfl) rfl ?_
                      refine z_il4 dX0_readWay_102 ?_
                      refine z_iconst dX0_readWay_104 (by decide) ?_
                      refine z_icmp_ne (t := 110) dX0_readWay_105 (by rfl) (fun ht105 => ?_) (fun hf105 => ?_)
                      · first
                        | (exfalso; omega)
                        | (refine z_al0 dX0_readWay_110 (by first | decide | omega | assumption) ?_
                           refine z_getR zfX0_17 dX0_readWay_111 (zkB hΓ rfl) rfl (zsB hΓ rfl) (zvB hΓ (by decide)) ?_
                           refine z_il2 dX0_readWay_114 ?_
                           refine z_aald dX0_readWay_115 (zkB hΓ rfl) (Or.inl rfl) (by omega) (by omega) (q := 7 + a) (by rw [Int.toNat_natCast, zsr6 hΓ (by omega)]; rfl) (fun _ => zvB hΓ (Or.inl (by omega))) ?_
                           refine z_il3 dX0_readWay_116 ?_
                           refine z_il4 dX0_readWay_117 ?_
                           refine z_iast dX0_readWay_119 (zks7 hΓ (by omega)) (by omega) (by omega) ?_
                           refine z_al0 dX0_readWay_120 (by first | decide | omega | assumption) ?_
                           refine z_getR zfX0_17 dX0_readWay_121 (zkB hΓ rfl) rfl (zsB hΓ rfl) (zvB hΓ (by decide)) ?_
                           refine z_il3 dX0_readWay_124 ?_
                           refine z_aald dX0_readWay_125 (zkB hΓ rfl) (Or.inl rfl) (by omega) (by omega) (q := 7 + b) (by rw [Int.toNat_natCast, zsr6 hΓ (by omega)]; rfl) (fun _ => zvB hΓ (Or.inl (by omega))) ?_
                           refine z_il2 dX0_readWay_126 ?_
                           refine z_il4 dX0_readWay_127 ?_
                           refine z_iast dX0_readWay_129 (zks7 hΓ (by omega)) (by omega) (by omega) ?_
                           refine z_iconst dX0_readWay_130 (by decide) ?_
                           refine z_zret dX0_readWay_131 rfl (Nat.le_refl _) (Nat.le_refl _) (zext_rf _) (by first | exact Or.inl rfl | exact Or.inr rfl | omega) ?_
                           unfold zWy at hQ
                           rw [show (zsg (h0 3) n q - 97).toNat = a by omega, show (zsg (h0 3) n (zskip (h0 3) n (q + 1)) - 97).toNat = b by omega, if_neg (by omega), if_neg (by omega), if_neg (by omega)] at hQ
                           try simp only [Int.toNat_natCast]
                           exact hQ _ (zDf_d hD (zsg (h0 3) n (zskip (h0 3) n (zskip (h0 3) n (q + 1) + 1)) - 48) (by omega) (by omega)))
                      · first
                        | (exfalso; omega)
                        | (refine z_iconst dX0_readWay_108 (by decide) ?_
                           refine z_zret dX0_readWay_109 rfl (Nat.le_refl _) (Nat.le_refl _) (zext_rf _) (by first | exact Or.inl rfl | exact Or.inr rfl | omega) ?_
                           unfold zWy at hQ
                           rw [show (zsg (h0 3) n q - 97).toNat = a by omega, show (zsg (h0 3) n (zskip (h0 3) n (q + 1)) - 97).toNat = b by omega, if_neg (by omega), if_neg (by omega), if_pos (by omega)] at hQ
                           exact hQ h hD)
                  · refine z_iconst dX0_readWay_93 (by decide) ?_
                    refine z_zret dX0_readWay_94 rfl (Nat.le_refl _) (Nat.le_refl _) (zext_rf _) (by first | exact Or.inl rfl | exact Or.inr rfl | omega) ?_
                    unfold zWy at hQ
                    rw [show (zsg (h0 3) n q - 97).toNat = a by omega, show (zsg (h0 3) n (zskip (h0 3) n (q + 1)) - 97).toNat = b by omega, if_neg (by omega), if_neg (by omega), if_pos (by omega)] at hQ
                    exact hQ h hD
              · refine z_iconst dX0_readWay_69 (by decide) ?_
                refine z_zret dX0_readWay_70 rfl (Nat.le_refl _) (Nat.le_refl _) (zext_rf _) (by first | exact Or.inl rfl | exact Or.inr rfl | omega) ?_
                unfold zWy at hQ
                try rw [show (zsg (h0 3) n q - 97).toNat = a by omega, show (zsg (h0 3) n (zskip (h0 3) n (q + 1)) - 97).toNat = b by omega] at hQ
                rw [if_neg (by omega), if_pos (by omega)] at hQ
                exact hQ h hD
theorem X0_readWay_ct {l : Launch} {Γ : zC} {h0 h : zM} {Q : Option zV → zC → zM → Prop} {n q : Nat} {L : List Int} {D : zDM} (hΓ : zBase Γ) (hn : h0 2 1 = (n : Int)) (hn2 : n ≤ 160) (ht : ∀ j, j < n → 0 ≤ h0 3 j ∧ h0 3 j ≤ 255) (hq : q ≤ 160) (hL : L.length ≤ 6) (hD : zDf h0 h q L D) (hQ0 : (zWy (h0 3) n L.length q D).1 = false → ∀ h2, zDf h0 h2 (zWy (h0 3) n L.length q D).2.1 L (zWy (h0 3) n L.length q D).2.2 → Q (some (zI 0)) Γ h2) (hQ1 : (zWy (h0 3) n L.length q D).1 = true → ∀ h2, zDf h0 h2 (zWy (h0 3) n L.length q D).2.1 L (zWy (h0 3) n L.length q D).2.2 → Q (some (zI 1)) Γ h2) : zCT l mX0_readWay 2 0 0 Γ [zR 4, zR 2] h Q := X0_readWay_c hΓ hn hn2 ht hq hL hD (fun h2 hD2 => by
  by_cases e : (zWy (h0 3) n L.length q D).1 = true
  · rw [if_pos e]; exact hQ1 e h2 hD2
  · rw [if_neg e]; exact hQ0 (Bool.eq_false_iff.2 e) h2 hD2)
set_option maxRecDepth 4000 in
theorem X0_readWays_l {l : Launch} {Γ : zC} {h0 : zM} {Q : Option zV → zC → zM → Prop} {n : Nat} {L : List Int} (hΓ : zBase Γ) (hn : h0 2 1 = (n : Int)) (hn2 : n ≤ 160) (ht : ∀ j, j < n → 0 ≤ h0 3 j ∧ h0 3 j ≤ 255) (hL : L.length ≤ 6) : ∀ (f : Nat) (q : Nat) (D : zDM) (k : Nat) (h : zM), k + f = 16 → q ≤ 160 → zDf h0 h q L D → (∀ h2, zDf h0 h2 (zWys (h0 3) n L.length f q D).2.1 L (zWys (h0 3) n L.length f q D).2.2 → Q (some (zI (if (zWys (h0 3) n L.length f q D).1 = true then 1 else 0))) Γ h2) → zG (zFn l mX0_readWays 3 0 0 Γ Q) 0 0 Γ h 2 [some (zR 4), some (zR 2), some (zI (k : Nat))] [] := by
  intro f
  induction f with
  | zero =>
    intro q D k h hk9 hq hD hQ
    refine z_il2 dX0_readWays_2 ?_
    refine z_bipush (x := 15) dX0_readWays_3 (by rfl) (by decide) ?_
    refine z_icmp_gt (t := 44) dX0_readWays_5 (by rfl) (fun ht5 => ?_) (fun hf5 => ?_)
    · refine z_iconst dX0_readWays_44 (by decide) ?_
      refine z_zret dX0_readWays_45 rfl (Nat.le_refl _) (Nat.le_refl _) (zext_rf _) (by first | exact Or.inl rfl | exact Or.inr rfl | omega) ?_
      exact hQ h hD
    · exfalso; omega
  | succ f ih =>
    intro q D k h hk9 hq hD hQ
    refine z_il2 dX0_readWays_2 ?_
    refine z_bipush (x := 15) dX0_readWays_3 (by rfl) (by decide) ?_
    refine z_icmp_gt (t := 44) dX0_readWays_5 (by rfl) (fun ht5 => ?_) (fun hf5 => ?_)
    · exfalso; omega
    · refine z_al0 dX0_readWays_8 (by first | decide | omega | assumption) ?_
      refine z_al1 dX0_readWays_9 (by first | decide | omega | assumption) ?_
      refine zcv1 dX0_readWays_10 zkX0_59 ziX0_readWay zsX0_readWay (zkB hΓ rfl) (by decide) rfl (Nat.le_of_ble_eq_true rfl) (by decide) (by first | decide | omega) ⟨Nat.le_refl _, Nat.le_refl _⟩ (X0_readWay_ct hΓ hn hn2 ht hq hL hD (fun hw h hD _ => ?_) (fun hw h hD _ => ?_))
      · try simp only [zup_ap, zup_row, ne_eq, not_false_eq_true, zres, Int.toNat_natCast, reduceIte, Nat.reduceEqDiff, Nat.reduceAdd, and_self, and_true, true_and, and_false, false_and]
        refine z_if_ne (t := 18) dX0_readWays_13 (by rfl) (fun hx => absurd hx (by decide)) (fun _ => ?_)
        refine z_iconst dX0_readWays_16 (by decide) ?_
        refine z_zret dX0_readWays_17 rfl (Nat.le_refl _) (Nat.le_refl _) (zext_rf _) (by first | exact Or.inl rfl | exact Or.inr rfl | omega) ?_
        rw [zWys, if_pos hw] at hQ
        have hQ2 := hQ h hD
        rw [hw] at hQ2
        exact hQ2
      · have hp9 := zWy_p (t := h0 3) (N := L.length) (D := D) hq hn2
        try simp only [zup_ap, zup_row, ne_eq, not_false_eq_true, zres, Int.toNat_natCast, reduceIte, Nat.reduceEqDiff, Nat.reduceAdd, and_self, and_true, true_and, and_false, false_and]
        refine z_if_ne (t := 18) dX0_readWays_13 (by rfl) (fun _ => ?_) (fun hx => absurd hx (by decide))
        refine z_al1 dX0_readWays_18 (by first | decide | omega | assumption) ?_
        refine zcv0 dX0_readWays_19 zkX0_62 ziX5_isSpent zsX5_isSpent (zkB hΓ rfl) (by decide) rfl (Nat.le_of_ble_eq_true rfl) (by decide) (by first | decide | omega) ⟨Nat.le_refl _, Nat.le_refl _⟩ (zD_sp2 hΓ hn hn2 hD (fun hs _ => ?_) (fun hs _ => ?_))
        · try simp only [zup_ap, zup_row, ne_eq, not_false_eq_true, zres, Int.toNat_natCast, reduceIte, Nat.reduceEqDiff, Nat.reduceAdd, and_self, and_true, true_and, and_false, false_and]
          refine z_if_eq (t := 27) dX0_readWays_22 (by rfl) (fun _ => ?_) (fun hx => absurd hx (by decide))
          refine z_al1 dX0_readWays_27 (by first | decide | omega | assumption) ?_
          refine z_bipush (x := 44) dX0_readWays_28 (by rfl) (by decide) ?_
          refine zcv1 dX0_readWays_30 zkX0_55 ziX5_accept zsX5_accept (zkB hΓ rfl) (by decide) rfl (Nat.le_of_ble_eq_true rfl) (by decide) (by first | decide | omega) ⟨Nat.le_refl _, Nat.le_refl _⟩ (zD_acc hΓ hn hn2 hD (by omega) (fun hk _ => ?_) (fun hk h hD _ => ?_))
          · try simp only [zup_ap, zup_row, ne_eq, not_false_eq_true, zres, Int.toNat_natCast, reduceIte, Nat.reduceEqDiff, Nat.reduceAdd, and_self, and_true, true_and, and_false, false_and]
            refine z_if_ne (t := 38) dX0_readWays_33 (by rfl) (fun hx => absurd hx (by decide)) (fun _ => ?_)
            refine z_iconst dX0_readWays_36 (by decide) ?_
            refine z_zret dX0_readWays_37 rfl (Nat.le_refl _) (Nat.le_refl _) (zext_rf _) (by first | exact Or.inl rfl | exact Or.inr rfl | omega) ?_
            rw [zWys, if_neg (by rw [hw]; decide), if_neg hs, if_neg hk] at hQ
            exact hQ h hD
          · try simp only [zup_ap, zup_row, ne_eq, not_false_eq_true, zres, Int.toNat_natCast, reduceIte, Nat.reduceEqDiff, Nat.reduceAdd, and_self, and_true, true_and, and_false, false_and]
            refine z_if_ne (t := 38) dX0_readWays_33 (by rfl) (fun _ => ?_) (fun hx => absurd hx (by decide))
            refine z_ii2 dX0_readWays_38 (by omega) (Nat.le_of_ble_eq_true rfl) rfl ?_
            refine z_goto (t := 2) dX0_readWays_41 (by rfl) ?_
            have s9 := zskip_b (h0 3) n ((zWy (h0 3) n L.length q D).2.1 + 1)
            refine ih (zskip (h0 3) n ((zWy (h0 3) n L.length q D).2.1 + 1)) (zWy (h0 3) n L.length q D).2.2 (k + 1) h (by omega) (by omega) hD ?_
            rw [zWys, if_neg (by rw [hw]; decide), if_neg hs, if_pos hk] at hQ
            exact hQ
        · try simp only [zup_ap, zup_row, ne_eq, not_false_eq_true, zres, Int.toNat_natCast, reduceIte, Nat.reduceEqDiff, Nat.reduceAdd, and_self, and_true, true_and, and_false, false_and]
          refine z_if_eq (t := 27) dX0_readWays_22 (by rfl) (fun hx => absurd hx (by decide)) (fun _ => ?_)
          refine z_iconst dX0_readWays_25 (by decide) ?_
          refine z_zret dX0_readWays_26 rfl (Nat.le_refl _) (Nat.le_refl _) (zext_rf _) (by first | exact Or.inl rfl | exact Or.inr rfl | omega) ?_
          rw [zWys, if_neg (by rw [hw]; decide), if_pos hs] at hQ
          have hQ2 := hQ h hD
          rw [hw] at hQ2
          exact hQ2
set_option maxRecDepth 4000 in
theorem X0_readWays_ct {l : Launch} {Γ : zC} {h0 h : zM} {Q : Option zV → zC → zM → Prop} {n q : Nat} {L : List Int} {D : zDM} (hΓ : zBase Γ) (hn : h0 2 1 = (n : Int)) (hn2 : n ≤ 160) (ht : ∀ j, j < n → 0 ≤ h0 3 j ∧ h0 3 j ≤ 255) (hL : L.length ≤ 6) (hq : q ≤ 160) (hD : zDf h0 h q L D) (hQ : ∀ h2, zDf h0 h2 (zWys (h0 3) n L.length 16 q D).2.1 L (zWys (h0 3) n L.length 16 q D).2.2 → Q (some (zI (if (zWys (h0 3) n L.length 16 q D).1 = true then 1 else 0))) Γ h2) : zCT l mX0_readWays 3 0 0 Γ [zR 4, zR 2] h Q := by
  refine zCT_of (by decide) (Nat.le_of_ble_eq_true rfl) (ls := [some (zR 4), some (zR 2), none]) rfl ?_
  refine z_iconst dX0_readWays_0 (by decide) ?_
  refine z_is2 dX0_readWays_1 (Nat.le_of_ble_eq_true rfl) rfl ?_
  exact X0_readWays_l hΓ hn hn2 ht hL 16 q D 0 h rfl hq hD hQ
def zDk (h0 h : zM) (k : Nat) : Prop := zfr zSS h0 h ∧ h 4 0 = 0 ∧ (∀ i, i < k → h 5 i = 0) ∧ ∀ a b, a < k → b < 6 → h (7 + a) b = 0
theorem zDk_s {h0 h h9 : zM} {k : Nat} (hk : k < 6) (H : zDk h0 h k) (hE : ∀ a, a ≠ 7 + k → h9 a = zup h 5 k 0 a) (hV : ∀ j, j < 6 → h9 (7 + k) j = 0) : zDk h0 h9 (k + 1) := ⟨zfr_1 (zfr_up H.1 rfl) (fun j => zSS7 hk j) hE, by rw [hE 4 (by omega), zup_row (by decide)]; exact H.2.1, fun i hi => by
  rw [hE 5 (by omega), zup_ap]
  by_cases e : i = k
  · rw [if_pos ⟨rfl, e⟩]
  · rw [if_neg (fun x => e x.2)]; exact H.2.2.1 i (by omega), fun a b ha hb => by
  by_cases e : a = k
  · rw [e]; exact hV b hb
  · rw [hE _ (by omega), zup_row (by omega)]; exact H.2.2.2 a b (by omega) hb⟩
set_option maxRecDepth 4000 in
theorem X0_clear_l {l : Launch} {Γ : zC} {h0 : zM} {Q : Option zV → zC → zM → Prop} (hΓ : zBase Γ) (hQ : ∀ h2, zDk h0 h2 6 → Q none Γ h2) : ∀ (m k : Nat), 6 - k < m → k ≤ 6 → ∀ h, zDk h0 h k → zG (zFn l mX0_clear 1 0 0 Γ Q) 0 0 Γ h 7 [some (zR 4), some (zI (k : Nat))] [] := by
  intro m
  induction m with
  | zero => intros; omega
  | succ m ih =>
    intro k hm hk h hD
    refine z_il1 dX0_clear_7 ?_
    refine z_bipush (x := 6) dX0_clear_8 (by rfl) (by decide) ?_
    refine z_icmp_ge (t := 36) dX0_clear_10 (by rfl) (fun ht10 => ?_) (fun hf10 => ?_)
    · refine z_ret dX0_clear_36 rfl (Nat.le_refl _) (Nat.le_refl _) (zext_rf _) ?_
      rw [show k = 6 by omega] at hD
      exact hQ h hD
    · refine z_al0 dX0_clear_13 (by first | decide | omega | assumption) ?_
      refine z_getR zfX0_9 dX0_clear_14 (zkB hΓ rfl) rfl (zsB hΓ rfl) (zvB hΓ (by decide)) ?_
      refine z_il1 dX0_clear_17 ?_
      refine z_iconst dX0_clear_18 (by decide) ?_
      refine z_iast dX0_clear_19 (zkB hΓ rfl) (by omega) (by omega) ?_
      try simp only [Int.toNat_natCast]
      refine z_al0 dX0_clear_20 (by first | decide | omega | assumption) ?_
      refine z_getR zfX0_17 dX0_clear_21 (zkB hΓ rfl) rfl (zsB hΓ rfl) (zvB hΓ (by decide)) ?_
      refine z_il1 dX0_clear_24 ?_
      refine z_aald dX0_clear_25 (zkB hΓ rfl) (Or.inl rfl) (by omega) (by omega) (q := 7 + k) (by rw [Int.toNat_natCast, zsr6 hΓ (by omega)]; rfl) (fun _ => zvB hΓ (Or.inl (by omega))) ?_
      refine z_iconst dX0_clear_26 (by decide) ?_
      refine zcs2 dX0_clear_27 zkX0_45 ztJ7_fill_53178 (Nat.le_of_ble_eq_true rfl) (by decide) (by first | decide | omega) ⟨Nat.le_refl _, Nat.le_refl _⟩ (J7_fill_53178_ct (n := 6) (by omega) (zks7 hΓ (j := k) (by omega)) (by omega) (fun h9 hE hV _ => ?_))
      try simp only [zup_ap, zup_row, ne_eq, not_false_eq_true, zres, Int.toNat_natCast, reduceIte, Nat.reduceEqDiff, Nat.reduceAdd, and_self, and_true, true_and, and_false, false_and]
      refine z_ii1 dX0_clear_30 (by omega) (Nat.le_of_ble_eq_true rfl) rfl ?_
      refine z_goto (t := 7) dX0_clear_33 (by rfl) ?_
      exact ih (k + 1) (by omega) (by omega) h9 (zDk_s (by omega) hD hE hV)
set_option maxRecDepth 4000 in
theorem X0_clear_ct {l : Launch} {Γ : zC} {h0 h : zM} {Q : Option zV → zC → zM → Prop} (hΓ : zBase Γ) (hF : zfr zSS h0 h) (hQ : ∀ h2, zDk h0 h2 6 → Q none Γ h2) : zCT l mX0_clear 1 0 0 Γ [zR 4] h Q := by
  refine zCT_of (by decide) (Nat.le_of_ble_eq_true rfl) (ls := [some (zR 4), none]) rfl ?_
  refine z_al0 dX0_clear_0 (by first | decide | omega | assumption) ?_
  refine z_iconst dX0_clear_1 (by decide) ?_
  refine z_putI zfX0_35 dX0_clear_2 (zkB hΓ rfl) rfl rfl ?_
  refine z_iconst dX0_clear_5 (by decide) ?_
  refine z_is1 dX0_clear_6 (Nat.le_of_ble_eq_true rfl) rfl ?_
  exact X0_clear_l hΓ hQ _ 0 (Nat.lt_succ_self _) (by omega) _ ⟨zfr_up hF rfl, zup_rj _ _ _ _, fun i hi => absurd hi (by omega), fun a b ha _ => absurd ha (by omega)⟩
theorem zTbs_p {t : Nat → Int} {n : Nat} (hn : n ≤ 160) : ∀ (m q : Nat) (L : List Int), L.length + m = 6 → q ≤ 160 → (zTbs t n m q L).2.1 ≤ 160 ∧ (zTbs t n m q L).2.2.length ≤ 6 ∧ ((zTbs t n m q L).1 = true → 2 ≤ (zTbs t n m q L).2.2.length)
  | 0, q, L, hm, hq => ⟨hq, by show L.length ≤ 6; omega, fun e => by cases e⟩
  | m + 1, q, L, hm, hq => by
    have hp9 := znum_p t n 2 q 0
    have s0 := zskip_b t n q
    have s1 := zskip_b t n (znum t n 2 q 0).2
    have s2 := zskip_b t n (zskip t n (znum t n 2 q 0).2 + 1)
    have hl : (L ++ [(znum t n 2 q 0).1]).length = L.length + 1 := by rw [List.length_append]; rfl
    rw [zTbs]
    split
    · exact ⟨by show zskip t n q ≤ 160; omega, by show L.length ≤ 6; omega, fun e => by cases e⟩
    · split
      · rename_i c2
        have l9 := zsg_lt c2.2 (by decide)
        exact ⟨by show zskip t n (zskip t n (znum t n 2 q 0).2 + 1) ≤ 160; omega, by show (L ++ [(znum t n 2 q 0).1]).length ≤ 6; omega, fun _ => by show 2 ≤ (L ++ [(znum t n 2 q 0).1]).length; omega⟩
      · split
        · exact ⟨by show zskip t n (znum t n 2 q 0).2 ≤ 160; omega, by show (L ++ [(znum t n 2 q 0).1]).length ≤ 6; omega, fun e => by cases e⟩
        · split
          · rename_i c4
            have l9 := zsg_lt c4 (by decide)
            exact zTbs_p hn m _ _ (by omega) (by omega)
          · exact ⟨by show zskip t n (znum t n 2 q 0).2 ≤ 160; omega, by show (L ++ [(znum t n 2 q 0).1]).length ≤ 6; omega, fun e => by cases e⟩
theorem zDf_k {h0 h : zM} {p : Nat} (H : zDk h0 h 6) : zDf h0 (zup h 2 2 (p : Nat)) p [] (fun _ _ => 0) := ⟨zfr_up H.1 rfl, zup_rj _ _ _ _, by rw [zup_row (by decide)]; exact H.2.1, fun i hi => by rw [zup_row (by decide)]; exact H.2.2.1 i hi, fun a b ha hb => by rw [zup_row (by omega)]; exact H.2.2.2 a b ha hb⟩
set_option maxRecDepth 4000 in
theorem X0_read_ct {l : Launch} {Γ : zC} {h0 h : zM} {Q : Option zV → zC → zM → Prop} {n : Nat} (hΓ : zBase Γ) (hn : h0 2 1 = (n : Int)) (hn2 : n ≤ 160) (ht : ∀ j, j < n → 0 ≤ h0 3 j ∧ h0 3 j ≤ 255) (hF : zfr zSS h0 h) (hQ : ∀ h2, zDf h0 h2 (zIs (h0 3) n).2.1 (zIs (h0 3) n).2.2.1 (zIs (h0 3) n).2.2.2 → Q (some (zI (if (zIs (h0 3) n).1 = true then 1 else 0))) Γ h2) : zCT l mX0_read 4 0 0 Γ [zR 4, zR 2] h Q := by
  refine zCT_of (by decide) (Nat.le_of_ble_eq_true rfl) (ls := [some (zR 4), some (zR 2)]) rfl ?_
  refine z_al0 dX0_read_0 (by first | decide | omega | assumption) ?_
  refine zcv0 dX0_read_1 zkX0_20 ziX0_clear zsX0_clear (zkB hΓ rfl) (by decide) rfl (Nat.le_of_ble_eq_true rfl) (by decide) (by first | decide | omega) ⟨Nat.le_refl _, Nat.le_refl _⟩ (X0_clear_ct hΓ hF (fun h hD _ => ?_))
  try simp only [zup_ap, zup_row, ne_eq, not_false_eq_true, zres, Int.toNat_natCast, reduceIte, Nat.reduceEqDiff, Nat.reduceAdd, and_self, and_true, true_and, and_false, false_and]
  refine z_al1 dX0_read_4 (by first | decide | omega | assumption) ?_
  refine zcv0 dX0_read_5 zkX0_23 ziX5_begin zsX5_begin (zkB hΓ rfl) (by decide) rfl (Nat.le_of_ble_eq_true rfl) (by decide) (by first | decide | omega) ⟨Nat.le_refl _, Nat.le_refl _⟩ (X5_begin_ct (n := n) hΓ ((hD.1 2 1 rfl).trans hn) hn2 (fun _ => ?_))
  try simp only [zup_ap, zup_row, ne_eq, not_false_eq_true, zres, Int.toNat_natCast, reduceIte, Nat.reduceEqDiff, Nat.reduceAdd, and_self, and_true, true_and, and_false, false_and]
  have s0 := zskip_b (h0 3) n 0
  rw [show h 3 = h0 3 from funext fun j => hD.1 3 j rfl]
  replace hD := zDf_k (p := zskip (h0 3) n 0) hD
  generalize zup h 2 2 ((zskip (h0 3) n 0 : Nat) : Int) = h at hD ⊢
  have hb9 := zTbs_p (t := h0 3) hn2 6 (zskip (h0 3) n 0) [] rfl (by omega)
  refine z_al0 dX0_read_8 (by first | decide | omega | assumption) ?_
  refine z_al1 dX0_read_9 (by first | decide | omega | assumption) ?_
  refine zcv1 dX0_read_10 zkX0_28 ziX0_readTaboos zsX0_readTaboos (zkB hΓ rfl) (by decide) rfl (Nat.le_of_ble_eq_true rfl) (by decide) (by first | decide | omega) ⟨Nat.le_refl _, Nat.le_refl _⟩ (X0_readTaboos_ct hΓ hn hn2 (by omega) hD (fun h hD _ => ?_))
  try simp only [zup_ap, zup_row, ne_eq, not_false_eq_true, zres, Int.toNat_natCast, reduceIte, Nat.reduceEqDiff, Nat.reduceAdd, and_self, and_true, true_and, and_false, false_and]
  refine z_if_eq (t := 28) dX0_read_13 (by rfl) (fun ht13 => ?_) (fun hf13 => ?_)
  · refine z_iconst dX0_read_28 (by decide) ?_
    refine z_zret dX0_read_29 rfl (Nat.le_refl _) (Nat.le_refl _) (zext_rf _) (by first | exact Or.inl rfl | exact Or.inr rfl | omega) ?_
    unfold zIs zIsW zIsB at hQ
    first
    | (rw [if_neg (zif0.1 ht13)] at hQ; exact hQ h hD)
    | (rw [if_pos (zif1.1 hf13)] at hQ
       have hQ2 := hQ h hD
       first
       | (rw [if_neg (zif0.1 ht21)] at hQ2; exact hQ2)
       | (rw [if_pos (zif1.1 hf21)] at hQ2; exact hQ2))
  · refine z_al0 dX0_read_16 (by first | decide | omega | assumption) ?_
    refine z_al1 dX0_read_17 (by first | decide | omega | assumption) ?_
    refine zcv1 dX0_read_18 zkX0_32 ziX0_readWays zsX0_readWays (zkB hΓ rfl) (by decide) rfl (Nat.le_of_ble_eq_true rfl) (by decide) (by first | decide | omega) ⟨Nat.le_refl _, Nat.le_refl _⟩ (X0_readWays_ct hΓ hn hn2 ht hb9.2.1 hb9.1 hD (fun h hD _ => ?_))
    try simp only [zup_ap, zup_row, ne_eq, not_false_eq_true, zres, Int.toNat_natCast, reduceIte, Nat.reduceEqDiff, Nat.reduceAdd, and_self, and_true, true_and, and_false, false_and]
    refine z_if_eq (t := 28) dX0_read_21 (by rfl) (fun ht21 => ?_) (fun hf21 => ?_)
    · refine z_iconst dX0_read_28 (by decide) ?_
      refine z_zret dX0_read_29 rfl (Nat.le_refl _) (Nat.le_refl _) (zext_rf _) (by first | exact Or.inl rfl | exact Or.inr rfl | omega) ?_
      unfold zIs zIsW zIsB at hQ
      first
      | (rw [if_neg (zif0.1 ht13)] at hQ; exact hQ h hD)
      | (rw [if_pos (zif1.1 hf13)] at hQ
         have hQ2 := hQ h hD
         first
         | (rw [if_neg (zif0.1 ht21)] at hQ2; exact hQ2)
         | (rw [if_pos (zif1.1 hf21)] at hQ2; exact hQ2))
    · refine z_iconst dX0_read_24 (by decide) ?_
      refine z_goto (t := 29) dX0_read_25 (by rfl) ?_
      refine z_zret dX0_read_29 rfl (Nat.le_refl _) (Nat.le_refl _) (zext_rf _) (by first | exact Or.inl rfl | exact Or.inr rfl | omega) ?_
      unfold zIs zIsW zIsB at hQ
      first
      | (rw [if_neg (zif0.1 ht13)] at hQ; exact hQ h hD)
      | (rw [if_pos (zif1.1 hf13)] at hQ
         have hQ2 := hQ h hD
         first
         | (rw [if_neg (zif0.1 ht21)] at hQ2; exact hQ2)
         | (rw [if_pos (zif1.1 hf21)] at hQ2; exact hQ2))
