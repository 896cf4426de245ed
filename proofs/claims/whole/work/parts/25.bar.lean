/-! what is barred: the rows of it; the reference's tables of what is come to -/
def zfA (h h' : zM) : Prop := ∀ q, q ≠ 42 → (q < 122 ∨ q % 3 ≠ 1) → h' q = h q
theorem zfA_rf (h : zM) : zfA h h := fun _ _ _ => rfl
theorem zfA_tr {h0 h h' : zM} (H : zfA h0 h) (H2 : zfA h h') : zfA h0 h' := fun r p q => (H2 r p q).trans (H r p q)
theorem zfA_K {h h' : zM} (H : zfK h h') : zfA h h' := fun r _ q => H r q
theorem zfA_up {h0 h : zM} {n : Nat} {x : Int} (H : zfA h0 h) : zfA h0 (zup h 42 n x) := fun r p q => (zup_row p).trans (H r p q)
theorem zfr_A {h0 h h' : zM} (H : zfr zSS h0 h) (H2 : zfA h h') : zfr zSS h0 h' := fun r j q => by
  by_cases h3 : r = 42
  · subst h3; cases q
  · rw [H2 r h3 ?_]
    · exact H r j q
    · by_cases hr : r < 122
      · exact Or.inl hr
      · rw [zSS_hi (by omega)] at q
        exact Or.inr (fun e => by rw [e] at q; cases q)
theorem zfr_1 {h0 h h' : zM} {q : Nat} (H : zfr zSS h0 h) (hs : ∀ j, zSS q j = true) (H2 : ∀ r, r ≠ q → h' r = h r) : zfr zSS h0 h' := fun r j p => by
  by_cases h3 : r = q
  · subst h3; rw [hs j] at p; cases p
  · rw [H2 r h3]; exact H r j p
def zfB (q : Nat) (h h' : zM) : Prop := (∀ r, r ≠ 89 → r ≠ 93 → r ≠ q → h' r = h r) ∧ ∀ j, zsMT j = false → h' 89 j = h 89 j
theorem zfB_rf (q : Nat) (h : zM) : zfB q h h := ⟨fun _ _ _ _ => rfl, fun _ _ => rfl⟩
theorem zfB_tr {q : Nat} {h0 h h' : zM} (H : zfB q h0 h) (H2 : zfB q h h') : zfB q h0 h' := ⟨fun r a b c => (H2.1 r a b c).trans (H.1 r a b c), fun j a => (H2.2 j a).trans (H.2 j a)⟩
theorem zfB_M {q : Nat} {h h' : zM} (H : zfM h h') : zfB q h h' := ⟨fun r a b _ => H.1 r a b, H.2⟩
theorem zfB_up {q : Nat} {h0 h : zM} {n : Nat} {x : Int} (H : zfB q h0 h) (h9 : q ≠ 89) : zfB q h0 (zup h q n x) := ⟨fun r a b c => (zup_row c).trans (H.1 r a b c), fun j a => by rw [zup_row (Ne.symm h9)]; exact H.2 j a⟩
theorem zfr_B {q : Nat} {h0 h h' : zM} (H : zfr zSS h0 h) (hs : ∀ j, zSS q j = true) (H2 : zfB q h h') : zfr zSS h0 h' := fun r j p => by
  by_cases hr : r = 89
  · subst hr
    rw [H2.2 j (zsMT_89 p)]
    exact H _ j p
  · by_cases h3 : r = 93
    · subst h3; cases p
    · by_cases h4 : r = q
      · subst h4; rw [hs j] at p; cases p
      · rw [H2.1 r hr h3 h4]; exact H r j p
theorem zs42 (j : Nat) : zSS 42 j = true := rfl
theorem zs43 (j : Nat) : zSS 43 j = true := rfl
theorem zs44 (j : Nat) : zSS 44 j = true := rfl
theorem zs102 (j : Nat) : zSS 102 j = true := rfl
theorem zs103 (j : Nat) : zSS 103 j = true := rfl
theorem zFb_r (h : zM) (i n d t : Int) : -2147483648 ≤ zFb h i n d t ∧ zFb h i n d t ≤ 2147483647 := by rcases zFb_01 h i n d t with e | e <;> rw [e] <;> decide
set_option maxRecDepth 4000 in
theorem X7_bar_l {l : Launch} {Γ : zC} {h0 h1 : zM} {Q : Option zV → zC → zM → Prop} {i d t : Int} (hI : zIv Γ h0) (hF1 : zfr zSS h0 h1) (hv : 0 ≤ i ∧ i < h0 89 22) (hQ : ∀ h9, zfA h1 h9 → (∀ n : Nat, n ≤ 200 → h9 42 n = zFb h0 i n d t) → Q none Γ h9) : ∀ (m k : Nat) (h : zM), 201 - k < m → k ≤ 201 → zfA h1 h → (∀ n : Nat, n < k → h 42 n = zFb h0 i n d t) → zG (zFn l mX7_bar 3 0 0 Γ Q) 0 0 Γ h 3 [some (zR 15), some (zR 42), some (zI i), some (zI d), some (zI t), some (zI (k : Int))] [] := by
  have hΓ := hI.base
  have hx2 := hI.isl
  intro m
  induction m with
  | zero => intros; omega
  | succ m ih =>
    intro k h hm hk hA hD
    have hF := zfr_A hF1 hA
    refine z_il5 dX7_bar_3 ?_
    refine z_al1 dX7_bar_5 (by first | decide | omega | assumption) ?_
    refine z_alen dX7_bar_6 (zkB hΓ rfl) (by decide) ?_
    refine z_icmp_ge (t := 30) dX7_bar_7 (by rfl) (fun ht7 => ?_) (fun hf7 => ?_)
    · refine z_ret dX7_bar_30 rfl (Nat.le_refl _) (Nat.le_refl _) (zext_rf _) ?_
      exact hQ h hA (fun n hn => hD n (by omega))
    · refine z_al1 dX7_bar_10 (by first | decide | omega | assumption) ?_
      refine z_il5 dX7_bar_11 ?_
      refine z_al0 dX7_bar_13 (by first | decide | omega | assumption) ?_
      refine z_il2 dX7_bar_14 ?_
      refine z_il5 dX7_bar_15 ?_
      refine z_il3 dX7_bar_17 ?_
      refine z_il4 dX7_bar_18 ?_
      refine zcv4 dX7_bar_20 zkX7_69 ziX7_forbidsBy zsX7_forbidsBy (zkB hΓ rfl) (by decide) rfl (Nat.le_of_ble_eq_true rfl) (by decide) (by first | decide | omega) ⟨Nat.le_refl _, Nat.le_refl _⟩ (X7_forbidsBy_ct hI hF hv (by omega) (fun h9 hK9 _ => ?_))
      try simp only [zup_ap, zup_row, ne_eq, not_false_eq_true, zres, Int.toNat_natCast, reduceIte, Nat.reduceEqDiff, Nat.reduceAdd, and_self, and_true, true_and, and_false, false_and]
      refine z_zast dX7_bar_23 (zkB hΓ rfl) (by omega) (by omega) (by exact zFb_01 _ _ _ _ _) ?_
      refine z_ii5 dX7_bar_24 (by omega) (Nat.le_of_ble_eq_true rfl) rfl ?_
      refine z_goto (t := 3) dX7_bar_27 (by rfl) ?_
      refine ih (k + 1) (zup h9 42 (k : Int).toNat _) (by omega) (by omega) (zfA_up (zfA_tr hA (zfA_K hK9))) (fun n hn => ?_)
      by_cases en : n = k
      · subst en; rw [zup_ap, if_pos ⟨rfl, by omega⟩]
      · rw [zup_ap, if_neg (fun e => en (by have := e.2; omega)), hK9 42 (by omega)]
        exact hD n (by omega)
set_option maxRecDepth 4000 in
theorem X7_bar_ct {l : Launch} {Γ : zC} {h0 h : zM} {Q : Option zV → zC → zM → Prop} {i d t : Int} (hI : zIv Γ h0) (hF : zfr zSS h0 h) (hv : 0 ≤ i ∧ i < h0 89 22) (hQ : ∀ h9, zfA h h9 → (∀ n : Nat, n ≤ 200 → h9 42 n = zFb h0 i n d t) → Q none Γ h9) : zCT l mX7_bar 3 0 0 Γ [zR 15, zR 42, zI i, zI d, zI t] h Q := by
  have hΓ := hI.base
  have hx2 := hI.isl
  refine zCT_of (by decide) (Nat.le_of_ble_eq_true rfl) (ls := [some (zR 15), some (zR 42), some (zI i), some (zI d), some (zI t), none]) rfl ?_
  refine z_iconst dX7_bar_0 (by decide) ?_
  refine z_is5 dX7_bar_1 (Nat.le_of_ble_eq_true rfl) rfl ?_
  exact X7_bar_l hI hF hv hQ _ 0 h (Nat.lt_succ_self _) (by omega) (zfA_rf _) (fun n hn => absurd hn (by omega))
def zor2 (a c : Int) : Int := if a = 0 ∧ c = 0 then 0 else 1
theorem zor2_01 (a c : Int) : zor2 a c = 0 ∨ zor2 a c = 1 := by unfold zor2; split <;> first | exact Or.inl rfl | exact Or.inr rfl
set_option maxRecDepth 4000 in
theorem X7_barAlso_l {l : Launch} {Γ : zC} {h0 h1 : zM} {Q : Option zV → zC → zM → Prop} {i : Int} {b : Nat → Int} (hI : zIv Γ h0) (hF1 : zfr zSS h0 h1) (hv : 0 ≤ i ∧ i < h0 89 22) (hQ : ∀ h9, zfA h1 h9 → (∀ n : Nat, n ≤ 200 → h9 42 n = zor2 (b n) (zFb h0 i n (h0 89 29) (zTb h0 i (h0 89 29)))) → Q none Γ h9) : ∀ (m k : Nat) (h : zM), 201 - k < m → k ≤ 201 → zfA h1 h → (∀ n : Nat, n < k → h 42 n = zor2 (b n) (zFb h0 i n (h0 89 29) (zTb h0 i (h0 89 29)))) → (∀ n, k ≤ n → h 42 n = b n) → zG (zFn l mX7_barAlso 3 0 0 Γ Q) 0 0 Γ h 16 [some (zR 15), some (zR 42), some (zI i), some (zI (zTb h0 i (h0 89 29))), some (zI (k : Int))] [] := by
  have hΓ := hI.base
  have hx2 := hI.isl
  intro m
  induction m with
  | zero => intros; omega
  | succ m ih =>
    intro k h hm hk hA hD hE
    have hF := zfr_A hF1 hA
    refine z_il4 dX7_barAlso_16 ?_
    refine z_al1 dX7_barAlso_18 (by first | decide | omega | assumption) ?_
    refine z_alen dX7_barAlso_19 (zkB hΓ rfl) (by decide) ?_
    refine z_icmp_ge (t := 63) dX7_barAlso_20 (by rfl) (fun ht20 => ?_) (fun hf20 => ?_)
    · refine z_ret dX7_barAlso_63 rfl (Nat.le_refl _) (Nat.le_refl _) (zext_rf _) ?_
      exact hQ h hA (fun n hn => hD n (by omega))
    · refine z_al1 dX7_barAlso_23 (by first | decide | omega | assumption) ?_
      refine z_il4 dX7_barAlso_24 ?_
      refine z_al1 dX7_barAlso_26 (by first | decide | omega | assumption) ?_
      refine z_il4 dX7_barAlso_27 ?_
      refine z_zald dX7_barAlso_29 (zkB hΓ rfl) (by omega) (by omega) ?_
      have hE9 := hE k (by omega)
      try simp only [Int.toNat_natCast]
      rw [hE9]
      try simp only [zup_ap, zup_row, ne_eq, not_false_eq_true, zres, Int.toNat_natCast, reduceIte, Nat.reduceEqDiff, Nat.reduceAdd, and_self, and_true, true_and, and_false, false_and]
      refine z_if_ne (t := 51) dX7_barAlso_30 (by rfl) (fun ht30 => ?_) (fun hf30 => ?_)
      · refine z_iconst dX7_barAlso_51 (by decide) ?_
        refine z_goto (t := 56) dX7_barAlso_52 (by rfl) ?_
        refine z_zast dX7_barAlso_56 (zkB hΓ rfl) (by omega) (by omega) (by first | exact Or.inl rfl | exact Or.inr rfl | omega) ?_
        refine z_ii4 dX7_barAlso_57 (by omega) (Nat.le_of_ble_eq_true rfl) rfl ?_
        refine z_goto (t := 16) dX7_barAlso_60 (by rfl) ?_
        first
        | (refine ih (k + 1) (zup h 42 (k : Int).toNat _) (by omega) (by omega) (zfA_up hA) (fun n hn => ?_) (fun n hn => ?_)
           · by_cases en : n = k
             · subst en; rw [zup_ap, if_pos ⟨rfl, by omega⟩]; unfold zor2; first | rw [if_neg (by omega)] | rw [if_pos (by omega)]
             · rw [zup_ap, if_neg (fun e => en (by have := e.2; omega))]
               exact hD n (by omega)
           · rw [zup_ap, if_neg (fun e => (by have := e.2; omega))]
             exact hE n (by omega))
        | (refine ih (k + 1) (zup h9 42 (k : Int).toNat _) (by omega) (by omega) (zfA_up (zfA_tr hA (zfA_K hK9))) (fun n hn => ?_) (fun n hn => ?_)
           · by_cases en : n = k
             · subst en; rw [zup_ap, if_pos ⟨rfl, by omega⟩]; unfold zor2; first | rw [if_neg (by omega)] | rw [if_pos (by omega)]
             · rw [zup_ap, if_neg (fun e => en (by have := e.2; omega)), hK9 42 (by omega)]
               exact hD n (by omega)
           · rw [zup_ap, if_neg (fun e => (by have := e.2; omega)), hK9 42 (by omega)]
             exact hE n (by omega))
      · refine z_al0 dX7_barAlso_33 (by first | decide | omega | assumption) ?_
        refine z_il2 dX7_barAlso_34 ?_
        refine z_il4 dX7_barAlso_35 ?_
        refine z_al0 dX7_barAlso_37 (by first | decide | omega | assumption) ?_
        refine z_getR zfX7_21 dX7_barAlso_38 (zkB hΓ rfl) rfl (zsB hΓ rfl) (zvB hΓ (by decide)) ?_
        refine z_getI zfX7_73 dX7_barAlso_41 (zkB hΓ rfl) rfl ?_
        rw [hF 25 0 rfl, hI.now.1]
        try simp only [zup_ap, zup_row, ne_eq, not_false_eq_true, zres, Int.toNat_natCast, reduceIte, Nat.reduceEqDiff, Nat.reduceAdd, and_self, and_true, true_and, and_false, false_and]
        refine z_il3 dX7_barAlso_44 ?_
        refine zcv4 dX7_barAlso_45 zkX7_69 ziX7_forbidsBy zsX7_forbidsBy (zkB hΓ rfl) (by decide) rfl (Nat.le_of_ble_eq_true rfl) (by decide) (by first | decide | omega) ⟨Nat.le_refl _, Nat.le_refl _⟩ (X7_forbidsBy_ct hI hF hv (by omega) (fun h9 hK9 _ => ?_))
        try simp only [zup_ap, zup_row, ne_eq, not_false_eq_true, zres, Int.toNat_natCast, reduceIte, Nat.reduceEqDiff, Nat.reduceAdd, and_self, and_true, true_and, and_false, false_and]
        refine z_if_eq (t := 55) dX7_barAlso_48 (by rfl) (fun ht48 => ?_) (fun hf48 => ?_)
        · refine z_iconst dX7_barAlso_55 (by decide) ?_
          refine z_zast dX7_barAlso_56 (zkB hΓ rfl) (by omega) (by omega) (by first | exact Or.inl rfl | exact Or.inr rfl | omega) ?_
          refine z_ii4 dX7_barAlso_57 (by omega) (Nat.le_of_ble_eq_true rfl) rfl ?_
          refine z_goto (t := 16) dX7_barAlso_60 (by rfl) ?_
          first
          | (refine ih (k + 1) (zup h 42 (k : Int).toNat _) (by omega) (by omega) (zfA_up hA) (fun n hn => ?_) (fun n hn => ?_)
             · by_cases en : n = k
               · subst en; rw [zup_ap, if_pos ⟨rfl, by omega⟩]; unfold zor2; first | rw [if_neg (by omega)] | rw [if_pos (by omega)]
               · rw [zup_ap, if_neg (fun e => en (by have := e.2; omega))]
                 exact hD n (by omega)
             · rw [zup_ap, if_neg (fun e => (by have := e.2; omega))]
               exact hE n (by omega))
          | (refine ih (k + 1) (zup h9 42 (k : Int).toNat _) (by omega) (by omega) (zfA_up (zfA_tr hA (zfA_K hK9))) (fun n hn => ?_) (fun n hn => ?_)
             · by_cases en : n = k
               · subst en; rw [zup_ap, if_pos ⟨rfl, by omega⟩]; unfold zor2; first | rw [if_neg (by omega)] | rw [if_pos (by omega)]
               · rw [zup_ap, if_neg (fun e => en (by have := e.2; omega)), hK9 42 (by omega)]
                 exact hD n (by omega)
             · rw [zup_ap, if_neg (fun e => (by have := e.2; omega)), hK9 42 (by omega)]
               exact hE n (by omega))
        · refine z_iconst dX7_barAlso_51 (by decide) ?_
          refine z_goto (t := 56) dX7_barAlso_52 (by rfl) ?_
          refine z_zast dX7_barAlso_56 (zkB hΓ rfl) (by omega) (by omega) (by first | exact Or.inl rfl | exact Or.inr rfl | omega) ?_
          refine z_ii4 dX7_barAlso_57 (by omega) (Nat.le_of_ble_eq_true rfl) rfl ?_
          refine z_goto (t := 16) dX7_barAlso_60 (by rfl) ?_
          first
          | (refine ih (k + 1) (zup h 42 (k : Int).toNat _) (by omega) (by omega) (zfA_up hA) (fun n hn => ?_) (fun n hn => ?_)
             · by_cases en : n = k
               · subst en; rw [zup_ap, if_pos ⟨rfl, by omega⟩]; unfold zor2; first | rw [if_neg (by omega)] | rw [if_pos (by omega)]
               · rw [zup_ap, if_neg (fun e => en (by have := e.2; omega))]
                 exact hD n (by omega)
             · rw [zup_ap, if_neg (fun e => (by have := e.2; omega))]
               exact hE n (by omega))
          | (refine ih (k + 1) (zup h9 42 (k : Int).toNat _) (by omega) (by omega) (zfA_up (zfA_tr hA (zfA_K hK9))) (fun n hn => ?_) (fun n hn => ?_)
             · by_cases en : n = k
               · subst en; rw [zup_ap, if_pos ⟨rfl, by omega⟩]; unfold zor2; first | rw [if_neg (by omega)] | rw [if_pos (by omega)]
               · rw [zup_ap, if_neg (fun e => en (by have := e.2; omega)), hK9 42 (by omega)]
                 exact hD n (by omega)
             · rw [zup_ap, if_neg (fun e => (by have := e.2; omega)), hK9 42 (by omega)]
               exact hE n (by omega))
set_option maxRecDepth 4000 in
theorem X7_barAlso_ct {l : Launch} {Γ : zC} {h0 h : zM} {Q : Option zV → zC → zM → Prop} {i : Int} {b : Nat → Int} (hI : zIv Γ h0) (hF : zfr zSS h0 h) (hv : 0 ≤ i ∧ i < h0 89 22) (hE : ∀ n, h 42 n = b n) (hQ : ∀ h9, zfA h h9 → (∀ n : Nat, n ≤ 200 → h9 42 n = zor2 (b n) (zFb h0 i n (h0 89 29) (zTb h0 i (h0 89 29)))) → Q none Γ h9) : zCT l mX7_barAlso 3 0 0 Γ [zR 15, zR 42, zI i] h Q := by
  have hΓ := hI.base
  have hx2 := hI.isl
  refine zCT_of (by decide) (Nat.le_of_ble_eq_true rfl) (ls := [some (zR 15), some (zR 42), some (zI i), none, none]) rfl ?_
  refine z_al0 dX7_barAlso_0 (by first | decide | omega | assumption) ?_
  refine z_il2 dX7_barAlso_1 ?_
  refine z_al0 dX7_barAlso_2 (by first | decide | omega | assumption) ?_
  refine z_getR zfX7_21 dX7_barAlso_3 (zkB hΓ rfl) rfl (zsB hΓ rfl) (zvB hΓ (by decide)) ?_
  refine z_getI zfX7_73 dX7_barAlso_6 (zkB hΓ rfl) rfl ?_
  rw [hF 25 0 rfl, hI.now.1]
  try simp only [zup_ap, zup_row, ne_eq, not_false_eq_true, zres, Int.toNat_natCast, reduceIte, Nat.reduceEqDiff, Nat.reduceAdd, and_self, and_true, true_and, and_false, false_and]
  refine zcv2 dX7_barAlso_9 zkX7_66 ziX7_tabooOn zsX7_tabooOn (zkB hΓ rfl) (by decide) rfl (Nat.le_of_ble_eq_true rfl) (by decide) (by first | decide | omega) ⟨Nat.le_refl _, Nat.le_refl _⟩ (X7_tabooOn_ct hI hF hv (fun _ => ?_))
  try simp only [zup_ap, zup_row, ne_eq, not_false_eq_true, zres, Int.toNat_natCast, reduceIte, Nat.reduceEqDiff, Nat.reduceAdd, and_self, and_true, true_and, and_false, false_and]
  refine z_is3 dX7_barAlso_12 (Nat.le_of_ble_eq_true rfl) rfl ?_
  refine z_iconst dX7_barAlso_13 (by decide) ?_
  refine z_is4 dX7_barAlso_14 (Nat.le_of_ble_eq_true rfl) rfl ?_
  exact X7_barAlso_l hI hF hv hQ _ 0 h (Nat.lt_succ_self _) (by omega) (zfA_rf _) (fun n hn => absurd hn (by omega)) (fun n _ => hE n)
set_option maxRecDepth 4000 in
theorem X4_open_ct {l : Launch} {Γ : zC} {h : zM} {Q : Option zV → zC → zM → Prop} (hΓ : zBase Γ) {a c : Int} (hQ : Q none Γ (zup (zup h 41 4 a) 41 5 c)) : zCT l mX4_open 0 0 0 Γ [zR 41, zI a, zI c] h Q := by
  refine zCT_of (by decide) (Nat.le_of_ble_eq_true rfl) (ls := [some (zR 41), some (zI a), some (zI c)]) rfl ?_
  refine z_al0 dX4_open_0 (by first | decide | omega | assumption) ?_
  refine z_il1 dX4_open_1 ?_
  refine z_putI zfX4_27 dX4_open_2 (zkB hΓ rfl) rfl rfl ?_
  refine z_al0 dX4_open_5 (by first | decide | omega | assumption) ?_
  refine z_il2 dX4_open_6 ?_
  refine z_putI zfX4_31 dX4_open_7 (zkB hΓ rfl) rfl rfl ?_
  refine z_ret dX4_open_10 rfl (Nat.le_refl _) (Nat.le_refl _) (zext_rf _) ?_
  exact hQ
def zfO (h h' : zM) : Prop := ∀ q, q ≠ 41 → q ≠ 42 → (q < 122 ∨ q % 3 ≠ 1) → h' q = h q
theorem zfr_O {h0 h h' : zM} (H : zfr zSS h0 h) (H2 : zfO h h') (H3 : ∀ j, j < 4 → h' 41 j = h 41 j) : zfr zSS h0 h' := fun r j q => by
  by_cases h3 : r = 42
  · subst h3; cases q
  · by_cases h4 : r = 41
    · subst h4
      by_cases hj : j < 4
      · rw [H3 j hj]; exact H _ j q
      · have e : zSS 41 j = true := by
          show (_ || _) = true
          simp [show Nat.ble 4 j = true from Nat.ble_eq_true_of_le (by omega)]
        rw [e] at q; cases q
    · rw [H2 r h4 h3 ?_]
      · exact H r j q
      · by_cases hr : r < 122
        · exact Or.inl hr
        · rw [zSS_hi (by omega)] at q
          exact Or.inr (fun e => by rw [e] at q; cases q)
/-- what is barred at an ISLE on a DAY -/
def zbF (h : zM) (i d : Int) : Nat → Int := fun n => zFo h i (n : Int) d
set_option maxRecDepth 4000 in
theorem X8_openPurse_ct {l : Launch} {Γ : zC} {h0 h : zM} {Q : Option zV → zC → zM → Prop} {i r : Int} {hd : Nat} (hI : zIv Γ h0) (hF : zfr zSS h0 h) (hO : h0 89 30 = -1) (hv : 0 ≤ i ∧ i < h0 89 22) (hr7 : 0 ≤ r ∧ r ≤ 7) (hd9 : hd ≤ 30) (hQ : ∀ h9, zfO h h9 → zfr zSS h0 h9 → zPu h9 (zbF h0 i (h0 89 29)) r hd → Q none Γ h9) : zCT l mX8_openPurse 4 0 0 Γ [zR 1, zI i, zI (hd : Int), zI r] h Q := by
  have hΓ := hI.base
  have hx2 := hI.isl
  refine zCT_of (by decide) (Nat.le_of_ble_eq_true rfl) (ls := [some (zR 1), some (zI i), some (zI (hd : Int)), some (zI r)]) rfl ?_
  refine z_al0 dX8_openPurse_0 (by first | decide | omega | assumption) ?_
  refine z_getR zfX8_49 dX8_openPurse_1 (zkB hΓ rfl) rfl (zsB hΓ rfl) (zvB hΓ (by decide)) ?_
  refine z_il2 dX8_openPurse_4 ?_
  refine z_il3 dX8_openPurse_5 ?_
  refine zcv2 dX8_openPurse_6 zkX8_288 ziX4_open zsX4_open (zkB hΓ rfl) (by decide) rfl (Nat.le_of_ble_eq_true rfl) (by decide) (by first | decide | omega) ⟨Nat.le_refl _, Nat.le_refl _⟩ (X4_open_ct hΓ (fun _ => ?_))
  try simp only [zup_ap, zup_row, ne_eq, not_false_eq_true, zres, Int.toNat_natCast, reduceIte, Nat.reduceEqDiff, Nat.reduceAdd, and_self, and_true, true_and, and_false, false_and]
  have hF2 : zfr zSS h0 (zup (zup h 41 4 (hd : Int)) 41 5 r) := zfr_up (zfr_up hF rfl) rfl
  refine z_al0 dX8_openPurse_9 (by first | decide | omega | assumption) ?_
  refine z_getR zfX8_35 dX8_openPurse_10 (zkB hΓ rfl) rfl (zsB hΓ rfl) (zvB hΓ (by decide)) ?_
  refine z_al0 dX8_openPurse_13 (by first | decide | omega | assumption) ?_
  refine z_getR zfX8_49 dX8_openPurse_14 (zkB hΓ rfl) rfl (zsB hΓ rfl) (zvB hΓ (by decide)) ?_
  refine z_getR zfX8_281 dX8_openPurse_17 (zkB hΓ rfl) rfl (zsB hΓ rfl) (zvB hΓ (by decide)) ?_
  refine z_il1 dX8_openPurse_20 ?_
  refine z_al0 dX8_openPurse_21 (by first | decide | omega | assumption) ?_
  refine z_getR zfX8_35 dX8_openPurse_22 (zkB hΓ rfl) rfl (zsB hΓ rfl) (zvB hΓ (by decide)) ?_
  refine z_getR zfX8_190 dX8_openPurse_25 (zkB hΓ rfl) rfl (zsB hΓ rfl) (zvB hΓ (by decide)) ?_
  refine z_getI zfX8_193 dX8_openPurse_28 (zkB hΓ rfl) rfl ?_
  rw [hF2 25 0 rfl, hI.now.1]
  try simp only [zup_ap, zup_row, ne_eq, not_false_eq_true, zres, Int.toNat_natCast, reduceIte, Nat.reduceEqDiff, Nat.reduceAdd, and_self, and_true, true_and, and_false, false_and]
  refine z_al0 dX8_openPurse_31 (by first | decide | omega | assumption) ?_
  refine z_getR zfX8_35 dX8_openPurse_32 (zkB hΓ rfl) rfl (zsB hΓ rfl) (zvB hΓ (by decide)) ?_
  refine z_il1 dX8_openPurse_35 ?_
  refine z_al0 dX8_openPurse_36 (by first | decide | omega | assumption) ?_
  refine z_getR zfX8_35 dX8_openPurse_37 (zkB hΓ rfl) rfl (zsB hΓ rfl) (zvB hΓ (by decide)) ?_
  refine z_getR zfX8_190 dX8_openPurse_40 (zkB hΓ rfl) rfl (zsB hΓ rfl) (zvB hΓ (by decide)) ?_
  refine z_getI zfX8_193 dX8_openPurse_43 (zkB hΓ rfl) rfl ?_
  rw [hF2 25 0 rfl, hI.now.1]
  try simp only [zup_ap, zup_row, ne_eq, not_false_eq_true, zres, Int.toNat_natCast, reduceIte, Nat.reduceEqDiff, Nat.reduceAdd, and_self, and_true, true_and, and_false, false_and]
  refine zcv2 dX8_openPurse_46 zkX8_128 ziX7_tabooOn zsX7_tabooOn (zkB hΓ rfl) (by decide) rfl (Nat.le_of_ble_eq_true rfl) (by decide) (by first | decide | omega) ⟨Nat.le_refl _, Nat.le_refl _⟩ (X7_tabooOn_ct hI hF2 hv (fun _ => ?_))
  try simp only [zup_ap, zup_row, ne_eq, not_false_eq_true, zres, Int.toNat_natCast, reduceIte, Nat.reduceEqDiff, Nat.reduceAdd, and_self, and_true, true_and, and_false, false_and]
  refine zcv4 dX8_openPurse_49 zkX8_292 ziX7_bar zsX7_bar (zkB hΓ rfl) (by decide) rfl (Nat.le_of_ble_eq_true rfl) (by decide) (by first | decide | omega) ⟨Nat.le_refl _, Nat.le_refl _⟩ (X7_bar_ct hI hF2 hv (fun h9 hA hB _ => ?_))
  try simp only [zup_ap, zup_row, ne_eq, not_false_eq_true, zres, Int.toNat_natCast, reduceIte, Nat.reduceEqDiff, Nat.reduceAdd, and_self, and_true, true_and, and_false, false_and]
  refine z_ret dX8_openPurse_52 rfl (Nat.le_refl _) (Nat.le_refl _) (zext_rf _) ?_
  have hO9 : zfO h h9 := fun q h1 h2 h3 => by rw [hA q h2 h3, zup_row h1, zup_row h1]
  have hF9 := zfr_A hF2 hA
  refine hQ h9 hO9 hF9 ⟨fun n hn => ?_, ?_, ?_, hr7, hd9⟩
  · rw [hB n hn]
    unfold zbF zFo zTbR
    rw [if_neg (by omega)]
  · rw [hA 41 (by decide) (by decide)]; rfl
  · rw [hA 41 (by decide) (by decide)]; rfl
set_option maxRecDepth 4000 in
theorem X9_has_ct {l : Launch} {Γ : zC} {h : zM} {Q : Option zV → zC → zM → Prop} {s k : Int} (hQ0 : ¬ zf_iand (zf_ishr s k) 1 = 1 → Q (some (zI 0)) Γ h) (hQ1 : zf_iand (zf_ishr s k) 1 = 1 → Q (some (zI 1)) Γ h) : zCT l mX9_has 0 0 0 Γ [zI s, zI k] h Q := by
  refine zCT_of (by decide) (Nat.le_of_ble_eq_true rfl) (ls := [some (zI s), some (zI k)]) rfl ?_
  refine z_il0 dX9_has_0 ?_
  refine z_il1 dX9_has_1 ?_
  refine z_ishr dX9_has_2 ?_
  refine z_iconst dX9_has_3 (by decide) ?_
  refine z_iand dX9_has_4 ?_
  refine z_iconst dX9_has_5 (by decide) ?_
  refine z_icmp_ne (t := 13) dX9_has_6 (by rfl) (fun ht6 => ?_) (fun hf6 => ?_)
  · refine z_iconst dX9_has_13 (by decide) ?_
    refine z_zret dX9_has_14 rfl (Nat.le_refl _) (Nat.le_refl _) (zext_rf _) (by first | exact Or.inl rfl | exact Or.inr rfl | omega) ?_
    first | exact hQ0 (by assumption) | exact hQ1 (by omega)
  · refine z_iconst dX9_has_9 (by decide) ?_
    refine z_goto (t := 14) dX9_has_10 (by rfl) ?_
    refine z_zret dX9_has_14 rfl (Nat.le_refl _) (Nat.le_refl _) (zext_rf _) (by first | exact Or.inl rfl | exact Or.inr rfl | omega) ?_
    first | exact hQ0 (by assumption) | exact hQ1 (by omega)
set_option maxRecDepth 4000 in
theorem X9_isPart_ct {l : Launch} {Γ : zC} {h : zM} {Q : Option zV → zC → zM → Prop} (hΓ : zBase Γ) {b : Nat → Int} {r : Int} (hr7 : 0 ≤ r ∧ r ≤ 7) (hB : ∀ n, n ≤ 200 → h 102 n = b n) {n : Nat} (hn : n ≤ 200) (hQ0 : zpt b r n = false → Q (some (zI 0)) Γ h) (hQ1 : zpt b r n = true → Q (some (zI 1)) Γ h) : zCT l mX9_isPart 1 0 0 Γ [zR 89, zI (n : Int), zI r] h Q := by
  refine zCT_of (by decide) (Nat.le_of_ble_eq_true rfl) (ls := [some (zR 89), some (zI (n : Int)), some (zI r)]) rfl ?_
  refine z_il2 dX9_isPart_0 ?_
  refine z_iconst dX9_isPart_1 (by decide) ?_
  refine zcs2 dX9_isPart_2 zkX9_317 ztX9_has (Nat.le_of_ble_eq_true rfl) (by decide) (by first | decide | omega) ⟨Nat.le_refl _, Nat.le_refl _⟩ (X9_has_ct (fun hh9 _ => ?_) (fun hh9 _ => ?_))
  · try simp only [zup_ap, zup_row, ne_eq, not_false_eq_true, zres, Int.toNat_natCast, reduceIte, Nat.reduceEqDiff, Nat.reduceAdd, and_self, and_true, true_and, and_false, false_and]
    rw [zis0 hr7] at hh9
    refine z_if_eq (t := 17) dX9_isPart_5 (by rfl) (fun _ => ?_) (fun hx => absurd hx (by decide))
    refine z_iconst dX9_isPart_17 (by decide) ?_
    refine z_goto (t := 22) dX9_isPart_18 (by rfl) ?_
    refine z_zret dX9_isPart_22 rfl (Nat.le_refl _) (Nat.le_refl _) (zext_rf _) (by first | exact Or.inl rfl | exact Or.inr rfl | omega) ?_
    first | exact hQ0 (zpt_f (by omega)) | exact hQ1 (zpt_t (by omega))
  · try simp only [zup_ap, zup_row, ne_eq, not_false_eq_true, zres, Int.toNat_natCast, reduceIte, Nat.reduceEqDiff, Nat.reduceAdd, and_self, and_true, true_and, and_false, false_and]
    rw [zis0 hr7] at hh9
    refine z_if_eq (t := 17) dX9_isPart_5 (by rfl) (fun hx => absurd hx (by decide)) (fun _ => ?_)
    refine z_al0 dX9_isPart_8 (by first | decide | omega | assumption) ?_
    refine z_getR zfX9_68 dX9_isPart_9 (zkB hΓ rfl) rfl (zsB hΓ rfl) (zvB hΓ (by decide)) ?_
    refine z_il1 dX9_isPart_12 ?_
    refine z_zald dX9_isPart_13 (zkB hΓ rfl) (by omega) (by omega) ?_
    rw [hB _ (by omega)]
    try simp only [zup_ap, zup_row, ne_eq, not_false_eq_true, zres, Int.toNat_natCast, reduceIte, Nat.reduceEqDiff, Nat.reduceAdd, and_self, and_true, true_and, and_false, false_and]
    refine z_if_ne (t := 21) dX9_isPart_14 (by rfl) (fun ht14 => ?_) (fun hf14 => ?_)
    · refine z_iconst dX9_isPart_21 (by decide) ?_
      refine z_zret dX9_isPart_22 rfl (Nat.le_refl _) (Nat.le_refl _) (zext_rf _) (by first | exact Or.inl rfl | exact Or.inr rfl | omega) ?_
      first | exact hQ0 (zpt_f (by omega)) | exact hQ1 (zpt_t (by omega))
    · refine z_iconst dX9_isPart_17 (by decide) ?_
      refine z_goto (t := 22) dX9_isPart_18 (by rfl) ?_
      refine z_zret dX9_isPart_22 rfl (Nat.le_refl _) (Nat.le_refl _) (zext_rf _) (by first | exact Or.inl rfl | exact Or.inr rfl | omega) ?_
      first | exact hQ0 (zpt_f (by omega)) | exact hQ1 (zpt_t (by omega))
set_option maxRecDepth 4000 in
theorem X9_isTotal_ct {l : Launch} {Γ : zC} {h : zM} {Q : Option zV → zC → zM → Prop} (hΓ : zBase Γ) {b : Nat → Int} {r : Int} (hr7 : 0 ≤ r ∧ r ≤ 7) (hB : ∀ n, n ≤ 200 → h 102 n = b n) {n : Nat} (hn : n ≤ 200) (hQ0 : zto b r n = false → Q (some (zI 0)) Γ h) (hQ1 : zto b r n = true → Q (some (zI 1)) Γ h) : zCT l mX9_isTotal 1 0 0 Γ [zR 89, zI (n : Int), zI r] h Q := by
  refine zCT_of (by decide) (Nat.le_of_ble_eq_true rfl) (ls := [some (zR 89), some (zI (n : Int)), some (zI r)]) rfl ?_
  refine z_il2 dX9_isTotal_0 ?_
  refine z_iconst dX9_isTotal_1 (by decide) ?_
  refine zcs2 dX9_isTotal_2 zkX9_317 ztX9_has (Nat.le_of_ble_eq_true rfl) (by decide) (by first | decide | omega) ⟨Nat.le_refl _, Nat.le_refl _⟩ (X9_has_ct (fun hh9 _ => ?_) (fun hh9 _ => ?_))
  · try simp only [zup_ap, zup_row, ne_eq, not_false_eq_true, zres, Int.toNat_natCast, reduceIte, Nat.reduceEqDiff, Nat.reduceAdd, and_self, and_true, true_and, and_false, false_and]
    rw [zis1 hr7] at hh9
    refine z_if_eq (t := 17) dX9_isTotal_5 (by rfl) (fun _ => ?_) (fun hx => absurd hx (by decide))
    refine z_iconst dX9_isTotal_17 (by decide) ?_
    refine z_goto (t := 22) dX9_isTotal_18 (by rfl) ?_
    refine z_zret dX9_isTotal_22 rfl (Nat.le_refl _) (Nat.le_refl _) (zext_rf _) (by first | exact Or.inl rfl | exact Or.inr rfl | omega) ?_
    first | exact hQ0 (zto_f (by omega)) | exact hQ1 (zto_t (by omega))
  · try simp only [zup_ap, zup_row, ne_eq, not_false_eq_true, zres, Int.toNat_natCast, reduceIte, Nat.reduceEqDiff, Nat.reduceAdd, and_self, and_true, true_and, and_false, false_and]
    rw [zis1 hr7] at hh9
    refine z_if_eq (t := 17) dX9_isTotal_5 (by rfl) (fun hx => absurd hx (by decide)) (fun _ => ?_)
    refine z_al0 dX9_isTotal_8 (by first | decide | omega | assumption) ?_
    refine z_getR zfX9_68 dX9_isTotal_9 (zkB hΓ rfl) rfl (zsB hΓ rfl) (zvB hΓ (by decide)) ?_
    refine z_il1 dX9_isTotal_12 ?_
    refine z_zald dX9_isTotal_13 (zkB hΓ rfl) (by omega) (by omega) ?_
    rw [hB _ (by omega)]
    try simp only [zup_ap, zup_row, ne_eq, not_false_eq_true, zres, Int.toNat_natCast, reduceIte, Nat.reduceEqDiff, Nat.reduceAdd, and_self, and_true, true_and, and_false, false_and]
    refine z_if_ne (t := 21) dX9_isTotal_14 (by rfl) (fun ht14 => ?_) (fun hf14 => ?_)
    · refine z_iconst dX9_isTotal_21 (by decide) ?_
      refine z_zret dX9_isTotal_22 rfl (Nat.le_refl _) (Nat.le_refl _) (zext_rf _) (by first | exact Or.inl rfl | exact Or.inr rfl | omega) ?_
      first | exact hQ0 (zto_f (by omega)) | exact hQ1 (zto_t (by omega))
    · refine z_iconst dX9_isTotal_17 (by decide) ?_
      refine z_goto (t := 22) dX9_isTotal_18 (by rfl) ?_
      refine z_zret dX9_isTotal_22 rfl (Nat.le_refl _) (Nat.le_refl _) (zext_rf _) (by first | exact Or.inl rfl | exact Or.inr rfl | omega) ?_
      first | exact hQ0 (zto_f (by omega)) | exact hQ1 (zto_t (by omega))
set_option maxRecDepth 4000 in
theorem X9_isCount_ct {l : Launch} {Γ : zC} {h : zM} {Q : Option zV → zC → zM → Prop} (hΓ : zBase Γ) {b : Nat → Int} {r : Int} (hr7 : 0 ≤ r ∧ r ≤ 7) (hB : ∀ n, n ≤ 200 → h 102 n = b n) {n : Nat} (hn : n ≤ 200) (hQ0 : zco b r n = false → Q (some (zI 0)) Γ h) (hQ1 : zco b r n = true → Q (some (zI 1)) Γ h) : zCT l mX9_isCount 1 0 0 Γ [zR 89, zI (n : Int), zI r] h Q := by
  refine zCT_of (by decide) (Nat.le_of_ble_eq_true rfl) (ls := [some (zR 89), some (zI (n : Int)), some (zI r)]) rfl ?_
  refine z_il2 dX9_isCount_0 ?_
  refine z_iconst dX9_isCount_1 (by decide) ?_
  refine zcs2 dX9_isCount_2 zkX9_317 ztX9_has (Nat.le_of_ble_eq_true rfl) (by decide) (by first | decide | omega) ⟨Nat.le_refl _, Nat.le_refl _⟩ (X9_has_ct (fun hh9 _ => ?_) (fun hh9 _ => ?_))
  · try simp only [zup_ap, zup_row, ne_eq, not_false_eq_true, zres, Int.toNat_natCast, reduceIte, Nat.reduceEqDiff, Nat.reduceAdd, and_self, and_true, true_and, and_false, false_and]
    rw [zis2 hr7] at hh9
    refine z_if_eq (t := 17) dX9_isCount_5 (by rfl) (fun _ => ?_) (fun hx => absurd hx (by decide))
    refine z_iconst dX9_isCount_17 (by decide) ?_
    refine z_goto (t := 22) dX9_isCount_18 (by rfl) ?_
    refine z_zret dX9_isCount_22 rfl (Nat.le_refl _) (Nat.le_refl _) (zext_rf _) (by first | exact Or.inl rfl | exact Or.inr rfl | omega) ?_
    first | exact hQ0 (zco_f (by omega)) | exact hQ1 (zco_t (by omega))
  · try simp only [zup_ap, zup_row, ne_eq, not_false_eq_true, zres, Int.toNat_natCast, reduceIte, Nat.reduceEqDiff, Nat.reduceAdd, and_self, and_true, true_and, and_false, false_and]
    rw [zis2 hr7] at hh9
    refine z_if_eq (t := 17) dX9_isCount_5 (by rfl) (fun hx => absurd hx (by decide)) (fun _ => ?_)
    refine z_al0 dX9_isCount_8 (by first | decide | omega | assumption) ?_
    refine z_getR zfX9_68 dX9_isCount_9 (zkB hΓ rfl) rfl (zsB hΓ rfl) (zvB hΓ (by decide)) ?_
    refine z_il1 dX9_isCount_12 ?_
    refine z_zald dX9_isCount_13 (zkB hΓ rfl) (by omega) (by omega) ?_
    rw [hB _ (by omega)]
    try simp only [zup_ap, zup_row, ne_eq, not_false_eq_true, zres, Int.toNat_natCast, reduceIte, Nat.reduceEqDiff, Nat.reduceAdd, and_self, and_true, true_and, and_false, false_and]
    refine z_if_ne (t := 21) dX9_isCount_14 (by rfl) (fun ht14 => ?_) (fun hf14 => ?_)
    · refine z_iconst dX9_isCount_21 (by decide) ?_
      refine z_zret dX9_isCount_22 rfl (Nat.le_refl _) (Nat.le_refl _) (zext_rf _) (by first | exact Or.inl rfl | exact Or.inr rfl | omega) ?_
      first | exact hQ0 (zco_f (by omega)) | exact hQ1 (zco_t (by omega))
    · refine z_iconst dX9_isCount_17 (by decide) ?_
      refine z_goto (t := 22) dX9_isCount_18 (by rfl) ?_
      refine z_zret dX9_isCount_22 rfl (Nat.le_refl _) (Nat.le_refl _) (zext_rf _) (by first | exact Or.inl rfl | exact Or.inr rfl | omega) ?_
      first | exact hQ0 (zco_f (by omega)) | exact hQ1 (zco_t (by omega))
set_option maxRecDepth 4000 in
theorem X9_can_ct {l : Launch} {Γ : zC} {h : zM} {Q : Option zV → zC → zM → Prop} (hΓ : zBase Γ) {k t : Nat} {f : Bool} (hk : k ≤ 60) (ht : t ≤ 200) (hC : h 103 (201 * k + t) = if f then 1 else 0) (hQ0 : f = false → Q (some (zI 0)) Γ h) (hQ1 : f = true → Q (some (zI 1)) Γ h) : zCT l mX9_can 0 0 0 Γ [zR 89, zI (k : Int), zI (t : Int)] h Q := by
  refine zCT_of (by decide) (Nat.le_of_ble_eq_true rfl) (ls := [some (zR 89), some (zI (k : Int)), some (zI (t : Int))]) rfl ?_
  refine z_al0 dX9_can_0 (by first | decide | omega | assumption) ?_
  refine z_getR zfX9_72 dX9_can_1 (zkB hΓ rfl) rfl (zsB hΓ rfl) (zvB hΓ (by decide)) ?_
  refine z_sipush (x := 201) dX9_can_4 (by rfl) (by decide) ?_
  refine z_il1 dX9_can_7 ?_
  refine z_imul dX9_can_8 (by omega) ?_
  refine z_il2 dX9_can_9 ?_
  refine z_iadd dX9_can_10 (by omega) ?_
  refine z_zald dX9_can_11 (zkB hΓ rfl) (by omega) (by omega) ?_
  rw [show ((201 : Int) * (k : Int) + (t : Int)).toNat = 201 * k + t by omega, hC]
  try simp only [zup_ap, zup_row, ne_eq, not_false_eq_true, zres, Int.toNat_natCast, reduceIte, Nat.reduceEqDiff, Nat.reduceAdd, and_self, and_true, true_and, and_false, false_and]
  refine z_zret dX9_can_12 rfl (Nat.le_refl _) (Nat.le_refl _) (zext_rf _) (by cases f <;> first | exact Or.inl rfl | exact Or.inr rfl) ?_
  cases f with
  | false => exact hQ0 rfl
  | true => exact hQ1 rfl
set_option maxRecDepth 4000 in
theorem X9_layBad_l {l : Launch} {Γ : zC} {h0 h1 : zM} {Q : Option zV → zC → zM → Prop} {i d : Int} (hI : zIv Γ h0) (hF1 : zfr zSS h0 h1) (hv : 0 ≤ i ∧ i < h0 89 22) (hQ : ∀ h9, zfB 102 h1 h9 → (∀ n : Nat, n ≤ 200 → h9 102 n = zbF h0 i d n) → Q none Γ h9) : ∀ (m k : Nat) (h : zM), 201 - k < m → k ≤ 201 → zfB 102 h1 h → (∀ n : Nat, n < k → h 102 n = zbF h0 i d n) → zG (zFn l mX9_layBad 1681 0 0 Γ Q) 0 0 Γ h 2 [some (zR 89), some (zI i), some (zI d), some (zI (k : Int))] [] := by
  have hΓ := hI.base
  have hx2 := hI.isl
  intro m
  induction m with
  | zero => intros; omega
  | succ m ih =>
    intro k h hm hk hA hD
    have hF := zfr_B hF1 zs102 hA
    refine z_il3 dX9_layBad_2 ?_
    refine z_sipush (x := 200) dX9_layBad_3 (by rfl) (by decide) ?_
    refine z_icmp_gt (t := 28) dX9_layBad_6 (by rfl) (fun ht6 => ?_) (fun hf6 => ?_)
    · refine z_ret dX9_layBad_28 rfl (Nat.le_refl _) (Nat.le_refl _) (zext_rf _) ?_
      exact hQ h hA (fun n hn => hD n (by omega))
    · refine z_al0 dX9_layBad_9 (by first | decide | omega | assumption) ?_
      refine z_getR zfX9_68 dX9_layBad_10 (zkB hΓ rfl) rfl (zsB hΓ rfl) (zvB hΓ (by decide)) ?_
      refine z_il3 dX9_layBad_13 ?_
      refine z_al0 dX9_layBad_14 (by first | decide | omega | assumption) ?_
      refine z_il1 dX9_layBad_15 ?_
      refine z_il3 dX9_layBad_16 ?_
      refine z_il2 dX9_layBad_17 ?_
      refine zcv3 dX9_layBad_18 zkX9_311 ziX9_isForbidden zsX9_isForbidden (zkB hΓ rfl) (by decide) rfl (Nat.le_of_ble_eq_true rfl) (by decide) (by first | decide | omega) ⟨Nat.le_refl _, Nat.le_refl _⟩ (X9_isForbidden_ct hI hF hv (by omega) (fun h9 hM9 _ => ?_))
      try simp only [zup_ap, zup_row, ne_eq, not_false_eq_true, zres, Int.toNat_natCast, reduceIte, Nat.reduceEqDiff, Nat.reduceAdd, and_self, and_true, true_and, and_false, false_and]
      refine z_zast dX9_layBad_21 (zkB hΓ rfl) (by omega) (by omega) (by exact zFo_01 _ _ _ _) ?_
      refine z_ii3 dX9_layBad_22 (by omega) (Nat.le_of_ble_eq_true rfl) rfl ?_
      refine z_goto (t := 2) dX9_layBad_25 (by rfl) ?_
      refine ih (k + 1) (zup h9 102 (k : Int).toNat _) (by omega) (by omega) (zfB_up (zfB_tr hA (zfB_M hM9)) (by decide)) (fun n hn => ?_)
      by_cases en : n = k
      · subst en; rw [zup_ap, if_pos ⟨rfl, by omega⟩]; rfl
      · rw [zup_ap, if_neg (fun e => en (by have := e.2; omega)), hM9.1 102 (by decide) (by decide)]
        exact hD n (by omega)
set_option maxRecDepth 4000 in
theorem X9_layBad_ct {l : Launch} {Γ : zC} {h0 h : zM} {Q : Option zV → zC → zM → Prop} {i d : Int} (hI : zIv Γ h0) (hF : zfr zSS h0 h) (hv : 0 ≤ i ∧ i < h0 89 22) (hQ : ∀ h9, zfB 102 h h9 → (∀ n : Nat, n ≤ 200 → h9 102 n = zbF h0 i d n) → Q none Γ h9) : zCT l mX9_layBad 1681 0 0 Γ [zR 89, zI i, zI d] h Q := by
  have hΓ := hI.base
  have hx2 := hI.isl
  refine zCT_of (by decide) (Nat.le_of_ble_eq_true rfl) (ls := [some (zR 89), some (zI i), some (zI d), none]) rfl ?_
  refine z_iconst dX9_layBad_0 (by decide) ?_
  refine z_is3 dX9_layBad_1 (Nat.le_of_ble_eq_true rfl) rfl ?_
  exact X9_layBad_l hI hF hv hQ _ 0 h (Nat.lt_succ_self _) (by omega) (zfB_rf _ _) (fun n hn => absurd hn (by omega))
def zw (b : Nat → Int) (r : Int) (hd k t p u : Nat) : Bool := zto b r u && zan (fun q => decide (q ≤ u ∧ (u - q < t ∨ u - q = t ∧ q < p)) && (zpt b r q && zcm b r hd k (u - q))) hd
theorem zw_0 (b : Nat → Int) (r : Int) (hd k u : Nat) : zw b r hd k 0 1 u = false := by
  unfold zw
  rw [show zan (fun q => decide (q ≤ u ∧ (u - q < 0 ∨ u - q = 0 ∧ q < 1)) && (zpt b r q && zcm b r hd k (u - q))) hd = zan (fun _ => false) hd from zan_cg (fun q h1 h2 => by
    simp only [Bool.and_eq_true, decide_eq_true_eq]
    exact ⟨fun e => absurd e.1 (by omega), fun e => by cases e⟩)]
  rw [show zan (fun _ => false) hd = false from Bool.eq_false_iff.2 (fun e => by obtain ⟨p, -, -, e3⟩ := (zan_iff _ _).1 e; cases e3)]
  exact Bool.and_false _
theorem zw_z (b : Nat → Int) (r : Int) (hd k u : Nat) (hu : u ≤ 200) : zw b r hd k 201 1 u = zcm b r hd (k + 1) u := by
  show (_ && _) = (_ && _)
  congr 1
  refine zan_cg (fun q h1 h2 => ?_)
  simp only [Bool.and_eq_true, decide_eq_true_eq]
  exact ⟨fun e => ⟨e.1.1, e.2⟩, fun e => ⟨⟨e.1, Or.inl (by omega)⟩, e.2⟩⟩
/-- the next total -/
theorem zw_t {b : Nat → Int} {r : Int} {hd k t p u : Nat} (hu : u ≤ 200) (h : zcm b r hd k t = false ∨ hd < p ∨ 200 < t + p) : zw b r hd k t p u = zw b r hd k (t + 1) 1 u := by
  show (_ && _) = (_ && _)
  congr 1
  refine zan_cg (fun q h1 h2 => ?_)
  simp only [Bool.and_eq_true, decide_eq_true_eq]
  constructor
  · rintro ⟨⟨e1, e2⟩, e3⟩
    exact ⟨⟨e1, Or.inl (by omega)⟩, e3⟩
  · rintro ⟨⟨e1, e2⟩, e3⟩
    refine ⟨⟨e1, ?_⟩, e3⟩
    by_cases e4 : u - q = t
    · rw [e4] at e3
      rcases h with h | h | h
      · rw [h] at e3; exact absurd e3.2 (by decide)
      · exact Or.inr ⟨e4, by omega⟩
      · exact Or.inr ⟨e4, by omega⟩
    · exact Or.inl (by omega)
/-- the next PART: nothing new -/
theorem zw_p {b : Nat → Int} {r : Int} {hd k t p u : Nat} (h : u ≠ t + p ∨ zpt b r p = false ∨ zto b r (t + p) = false) : zw b r hd k t p u = zw b r hd k t (p + 1) u := by
  by_cases h0 : zto b r u = false
  · unfold zw; rw [h0]; rfl
  show (_ && _) = (_ && _)
  congr 1
  refine zan_cg (fun q h1 h2 => ?_)
  simp only [Bool.and_eq_true, decide_eq_true_eq]
  constructor
  · rintro ⟨⟨e1, e2⟩, e3⟩
    exact ⟨⟨e1, by omega⟩, e3⟩
  · rintro ⟨⟨e1, e2⟩, e3⟩
    refine ⟨⟨e1, ?_⟩, e3⟩
    rcases e2 with e2 | ⟨e2, e4⟩
    · exact Or.inl e2
    · by_cases e5 : q = p
      · subst e5
        have e6 : u = t + q := by omega
        rcases h with h | h | h
        · exact absurd e6 h
        · rw [h] at e3; exact absurd e3.1 (by decide)
        · rw [← e6] at h; exact absurd h h0
      · exact Or.inr ⟨e2, by omega⟩
theorem zw_n {b : Nat → Int} {r : Int} {hd k t p : Nat} (h1 : 1 ≤ p) (h2 : p ≤ hd) (h3 : zpt b r p = true) (h4 : zto b r (t + p) = true) (h5 : zcm b r hd k t = true) : zw b r hd k t (p + 1) (t + p) = true := by
  unfold zw
  rw [h4, Bool.true_and, zan_iff]
  refine ⟨p, h1, h2, ?_⟩
  simp only [Bool.and_eq_true, decide_eq_true_eq]
  rw [show t + p - p = t by omega]
  exact ⟨⟨by omega, Or.inr ⟨rfl, by omega⟩⟩, h3, h5⟩
set_option maxRecDepth 4000 in
theorem X9_layComes_0 {l : Launch} {Γ : zC} {h1 : zM} {Q : Option zV → zC → zM → Prop} (hΓ : zBase Γ) {r : Int} {y3 y4 : Option zV} (hK : ∀ h9, (∀ q, q ≠ 103 → h9 q = h1 q) → (∀ j, j < 12261 → h9 103 j = if j = 0 then 1 else 0) → zG (zFn l mX9_layComes 2 0 0 Γ Q) 0 0 Γ h9 32 [some (zR 89), some (zI r), some (zI ((12261 : Nat) : Int)), y3, y4] []) : ∀ (m k : Nat) (h : zM), 12261 - k < m → k ≤ 12261 → (∀ q, q ≠ 103 → h q = h1 q) → (∀ j, j < k → h 103 j = if j = 0 then 1 else 0) → zG (zFn l mX9_layComes 2 0 0 Γ Q) 0 0 Γ h 2 [some (zR 89), some (zI r), some (zI (k : Int)), y3, y4] [] := by
  intro m
  induction m with
  | zero => intros; omega
  | succ m ih =>
    intro k h hm hk hE hD
    refine z_il2 dX9_layComes_2 ?_
    refine z_al0 dX9_layComes_3 (by first | decide | omega | assumption) ?_
    refine z_getR zfX9_72 dX9_layComes_4 (zkB hΓ rfl) rfl (zsB hΓ rfl) (zvB hΓ (by decide)) ?_
    refine z_alen dX9_layComes_7 (zkB hΓ rfl) (by decide) ?_
    refine z_icmp_ge (t := 32) dX9_layComes_8 (by rfl) (fun ht8 => ?_) (fun hf8 => ?_)
    · have ek : k = 12261 := by omega
      subst ek
      exact hK h hE hD
    · refine z_al0 dX9_layComes_11 (by first | decide | omega | assumption) ?_
      refine z_getR zfX9_72 dX9_layComes_12 (zkB hΓ rfl) rfl (zsB hΓ rfl) (zvB hΓ (by decide)) ?_
      refine z_il2 dX9_layComes_15 ?_
      refine z_il2 dX9_layComes_16 ?_
      refine z_if_ne (t := 24) dX9_layComes_17 (by rfl) (fun ht17 => ?_) (fun hf17 => ?_)
      · refine z_iconst dX9_layComes_24 (by decide) ?_
        refine z_zast dX9_layComes_25 (zkB hΓ rfl) (by omega) (by omega) (by first | exact Or.inl rfl | exact Or.inr rfl | omega) ?_
        refine z_ii2 dX9_layComes_26 (by omega) (Nat.le_of_ble_eq_true rfl) rfl ?_
        refine z_goto (t := 2) dX9_layComes_29 (by rfl) ?_
        refine ih (k + 1) _ (by omega) (by omega) (fun q hq => (zup_row hq).trans (hE q hq)) (fun j hj => ?_)
        by_cases ej : j = k
        · subst ej; rw [zup_ap, if_pos ⟨rfl, by omega⟩]
          first | rw [if_pos (by omega)] | rw [if_neg (by omega)]
        · rw [zup_ap, if_neg (fun e => ej (by have := e.2; omega))]
          exact hD j (by omega)
      · refine z_iconst dX9_layComes_20 (by decide) ?_
        refine z_goto (t := 25) dX9_layComes_21 (by rfl) ?_
        refine z_zast dX9_layComes_25 (zkB hΓ rfl) (by omega) (by omega) (by first | exact Or.inl rfl | exact Or.inr rfl | omega) ?_
        refine z_ii2 dX9_layComes_26 (by omega) (Nat.le_of_ble_eq_true rfl) rfl ?_
        refine z_goto (t := 2) dX9_layComes_29 (by rfl) ?_
        refine ih (k + 1) _ (by omega) (by omega) (fun q hq => (zup_row hq).trans (hE q hq)) (fun j hj => ?_)
        by_cases ej : j = k
        · subst ej; rw [zup_ap, if_pos ⟨rfl, by omega⟩]
          first | rw [if_pos (by omega)] | rw [if_neg (by omega)]
        · rw [zup_ap, if_neg (fun e => ej (by have := e.2; omega))]
          exact hD j (by omega)
set_option maxRecDepth 4000 in
theorem X9_layGoes_0 {l : Launch} {Γ : zC} {h1 : zM} {Q : Option zV → zC → zM → Prop} (hΓ : zBase Γ) {r : Int} {sum : Nat} {y4 y5 : Option zV} (hK : ∀ h9, (∀ q, q ≠ 103 → h9 q = h1 q) → (∀ j, j < 12261 → h9 103 j = if j = sum then 1 else 0) → zG (zFn l mX9_layGoes 2 0 0 Γ Q) 0 0 Γ h9 33 [some (zR 89), some (zI (sum : Int)), some (zI r), some (zI ((12261 : Nat) : Int)), y4, y5] []) : ∀ (m k : Nat) (h : zM), 12261 - k < m → k ≤ 12261 → (∀ q, q ≠ 103 → h q = h1 q) → (∀ j, j < k → h 103 j = if j = sum then 1 else 0) → zG (zFn l mX9_layGoes 2 0 0 Γ Q) 0 0 Γ h 2 [some (zR 89), some (zI (sum : Int)), some (zI r), some (zI (k : Int)), y4, y5] [] := by
  intro m
  induction m with
  | zero => intros; omega
  | succ m ih =>
    intro k h hm hk hE hD
    refine z_il3 dX9_layGoes_2 ?_
    refine z_al0 dX9_layGoes_3 (by first | decide | omega | assumption) ?_
    refine z_getR zfX9_72 dX9_layGoes_4 (zkB hΓ rfl) rfl (zsB hΓ rfl) (zvB hΓ (by decide)) ?_
    refine z_alen dX9_layGoes_7 (zkB hΓ rfl) (by decide) ?_
    refine z_icmp_ge (t := 33) dX9_layGoes_8 (by rfl) (fun ht8 => ?_) (fun hf8 => ?_)
    · have ek : k = 12261 := by omega
      subst ek
      exact hK h hE hD
    · refine z_al0 dX9_layGoes_11 (by first | decide | omega | assumption) ?_
      refine z_getR zfX9_72 dX9_layGoes_12 (zkB hΓ rfl) rfl (zsB hΓ rfl) (zvB hΓ (by decide)) ?_
      refine z_il3 dX9_layGoes_15 ?_
      refine z_il3 dX9_layGoes_16 ?_
      refine z_il1 dX9_layGoes_17 ?_
      refine z_icmp_ne (t := 25) dX9_layGoes_18 (by rfl) (fun ht18 => ?_) (fun hf18 => ?_)
      · refine z_iconst dX9_layGoes_25 (by decide) ?_
        refine z_zast dX9_layGoes_26 (zkB hΓ rfl) (by omega) (by omega) (by first | exact Or.inl rfl | exact Or.inr rfl | omega) ?_
        refine z_ii3 dX9_layGoes_27 (by omega) (Nat.le_of_ble_eq_true rfl) rfl ?_
        refine z_goto (t := 2) dX9_layGoes_30 (by rfl) ?_
        refine ih (k + 1) _ (by omega) (by omega) (fun q hq => (zup_row hq).trans (hE q hq)) (fun j hj => ?_)
        by_cases ej : j = k
        · subst ej; rw [zup_ap, if_pos ⟨rfl, by omega⟩]
          first | rw [if_pos (by omega)] | rw [if_neg (by omega)]
        · rw [zup_ap, if_neg (fun e => ej (by have := e.2; omega))]
          exact hD j (by omega)
      · refine z_iconst dX9_layGoes_21 (by decide) ?_
        refine z_goto (t := 26) dX9_layGoes_22 (by rfl) ?_
        refine z_zast dX9_layGoes_26 (zkB hΓ rfl) (by omega) (by omega) (by first | exact Or.inl rfl | exact Or.inr rfl | omega) ?_
        refine z_ii3 dX9_layGoes_27 (by omega) (Nat.le_of_ble_eq_true rfl) rfl ?_
        refine z_goto (t := 2) dX9_layGoes_30 (by rfl) ?_
        refine ih (k + 1) _ (by omega) (by omega) (fun q hq => (zup_row hq).trans (hE q hq)) (fun j hj => ?_)
        by_cases ej : j = k
        · subst ej; rw [zup_ap, if_pos ⟨rfl, by omega⟩]
          first | rw [if_pos (by omega)] | rw [if_neg (by omega)]
        · rw [zup_ap, if_neg (fun e => ej (by have := e.2; omega))]
          exact hD j (by omega)
def zcR (b : Nat → Int) (r : Int) (hd : Nat) (h : zM) (k t p : Nat) : Prop := (∀ j, j ≤ k → ∀ u, u ≤ 200 → h 103 (201 * j + u) = if zcm b r hd j u then 1 else 0) ∧ (∀ u, u ≤ 200 → h 103 (201 * (k + 1) + u) = if zw b r hd k t p u then 1 else 0) ∧ ∀ q, 201 * (k + 2) ≤ q → q < 12261 → h 103 q = 0
theorem zcR_cg {b : Nat → Int} {r : Int} {hd : Nat} {h : zM} {k t p t' p' : Nat} (H : zcR b r hd h k t p) (e : ∀ u, u ≤ 200 → zw b r hd k t p u = zw b r hd k t' p' u) : zcR b r hd h k t' p' := ⟨H.1, fun u hu => by rw [← e u hu]; exact H.2.1 u hu, H.2.2⟩
set_option maxRecDepth 4000 in
theorem X9_lC_p {l : Launch} {Γ : zC} {h0 h1 : zM} {Q : Option zV → zC → zM → Prop} {b : Nat → Int} {r : Int} (hI : zIv Γ h0) (hF1 : zfr zSS h0 h1) {hd : Nat} (hhd : h0 89 32 = (hd : Int)) (hr7 : 0 ≤ r ∧ r ≤ 7) (hB1 : ∀ n, n ≤ 200 → h1 102 n = b n) {k t : Nat} (hk : k < 60) (ht : t ≤ 200) (hcan : zcm b r hd k t = true) (hK : ∀ h9 (p : Nat), (∀ q, q ≠ 103 → h9 q = h1 q) → zcR b r hd h9 k (t + 1) 1 → zG (zFn l mX9_layComes 2 0 0 Γ Q) 0 0 Γ h9 129 [some (zR 89), some (zI r), some (zI (k : Int)), some (zI (t : Int)), some (zI (p : Int))] []) : ∀ (m p : Nat) (h : zM), hd + 2 - p < m → 1 ≤ p → p ≤ hd + 1 → (∀ q, q ≠ 103 → h q = h1 q) → zcR b r hd h k t p → zG (zFn l mX9_layComes 2 0 0 Γ Q) 0 0 Γ h 64 [some (zR 89), some (zI r), some (zI (k : Int)), some (zI (t : Int)), some (zI (p : Int))] [] := by
  have hΓ := hI.base
  have hx2 := hI.isl
  have hx3 := hI.hnd
  intro m
  induction m with
  | zero => intros; omega
  | succ m ih =>
    intro p h hm hp1 hp2 hE hD
    have hF := zfr_1 hF1 zs103 hE
    have hB : ∀ n, n ≤ 200 → h 102 n = b n := fun n hn => by rw [hE 102 (by decide)]; exact hB1 n hn
    refine z_il4 dX9_layComes_64 ?_
    refine z_al0 dX9_layComes_66 (by first | decide | omega | assumption) ?_
    refine z_getI zfX9_65 dX9_layComes_67 (zkB hΓ rfl) rfl ?_
    rw [hF 89 32 rfl, hhd]
    try simp only [zup_ap, zup_row, ne_eq, not_false_eq_true, zres, Int.toNat_natCast, reduceIte, Nat.reduceEqDiff, Nat.reduceAdd, and_self, and_true, true_and, and_false, false_and]
    refine z_icmp_gt (t := 129) dX9_layComes_70 (by rfl) (fun ht70 => ?_) (fun hf70 => ?_)
    · exact hK h p hE (zcR_cg hD (fun u hu => zw_t hu (by omega)))
    · refine z_il3 dX9_layComes_73 ?_
      refine z_il4 dX9_layComes_74 ?_
      refine z_iadd dX9_layComes_76 (by omega) ?_
      refine z_sipush (x := 200) dX9_layComes_77 (by rfl) (by decide) ?_
      refine z_icmp_gt (t := 129) dX9_layComes_80 (by rfl) (fun ht80 => ?_) (fun hf80 => ?_)
      · exact hK h p hE (zcR_cg hD (fun u hu => zw_t hu (by omega)))
      · refine z_al0 dX9_layComes_83 (by first | decide | omega | assumption) ?_
        refine z_il4 dX9_layComes_84 ?_
        refine z_il1 dX9_layComes_86 ?_
        refine zcv2 dX9_layComes_87 zkX9_324 ziX9_isPart zsX9_isPart (zkB hΓ rfl) (by decide) rfl (Nat.le_of_ble_eq_true rfl) (by decide) (by first | decide | omega) ⟨Nat.le_refl _, Nat.le_refl _⟩ (X9_isPart_ct hΓ hr7 hB (n := p) (by omega) (fun hp9 _ => ?_) (fun hp9 _ => ?_))
        · try simp only [zup_ap, zup_row, ne_eq, not_false_eq_true, zres, Int.toNat_natCast, reduceIte, Nat.reduceEqDiff, Nat.reduceAdd, and_self, and_true, true_and, and_false, false_and]
          refine z_if_eq (t := 123) dX9_layComes_90 (by rfl) (fun _ => ?_) (fun hx => absurd hx (by decide))
          refine z_ii4 dX9_layComes_123 (by omega) (Nat.le_of_ble_eq_true rfl) rfl ?_
          refine z_goto (t := 64) dX9_layComes_126 (by rfl) ?_
          first
          | exact ih (p + 1) _ (by omega) (by omega) (by omega) hE (zcR_cg hD (fun u hu => zw_p (Or.inr (Or.inl hp9))))
          | exact ih (p + 1) _ (by omega) (by omega) (by omega) hE (zcR_cg hD (fun u hu => zw_p (Or.inr (Or.inr ht9))))
          | (refine ih (p + 1) (zup h 103 _ 1) (by omega) (by omega) (by omega) (fun q hq => (zup_row hq).trans (hE q hq)) ⟨fun j hj u hu => ?_, fun u hu => ?_, fun q h1q h2q => ?_⟩
             · rw [zup_ap, if_neg (fun e => (by have := e.2; omega))]
               exact hD.1 j hj u hu
             · by_cases eu : u = t + p
               · subst eu
                 rw [zup_ap, if_pos ⟨rfl, by omega⟩, zw_n (by omega) (by omega) hp9 ht9 hcan]
                 rfl
               · rw [zup_ap, if_neg (fun e => eu (by have := e.2; omega)), hD.2.1 u hu, zw_p (Or.inl eu)]
             · rw [zup_ap, if_neg (fun e => (by have := e.2; omega))]
               exact hD.2.2 q h1q h2q)
        · try simp only [zup_ap, zup_row, ne_eq, not_false_eq_true, zres, Int.toNat_natCast, reduceIte, Nat.reduceEqDiff, Nat.reduceAdd, and_self, and_true, true_and, and_false, false_and]
          refine z_if_eq (t := 123) dX9_layComes_90 (by rfl) (fun hx => absurd hx (by decide)) (fun _ => ?_)
          refine z_al0 dX9_layComes_93 (by first | decide | omega | assumption) ?_
          refine z_il3 dX9_layComes_94 ?_
          refine z_il4 dX9_layComes_95 ?_
          refine z_iadd dX9_layComes_97 (by omega) ?_
          refine z_il1 dX9_layComes_98 ?_
          rw [show (t : Int) + (p : Int) = ((t + p : Nat) : Int) by omega]
          refine zcv2 dX9_layComes_99 zkX9_327 ziX9_isTotal zsX9_isTotal (zkB hΓ rfl) (by decide) rfl (Nat.le_of_ble_eq_true rfl) (by decide) (by first | decide | omega) ⟨Nat.le_refl _, Nat.le_refl _⟩ (X9_isTotal_ct hΓ hr7 hB (n := t + p) (by omega) (fun ht9 _ => ?_) (fun ht9 _ => ?_))
          · try simp only [zup_ap, zup_row, ne_eq, not_false_eq_true, zres, Int.toNat_natCast, reduceIte, Nat.reduceEqDiff, Nat.reduceAdd, and_self, and_true, true_and, and_false, false_and]
            refine z_if_eq (t := 123) dX9_layComes_102 (by rfl) (fun _ => ?_) (fun hx => absurd hx (by decide))
            refine z_ii4 dX9_layComes_123 (by omega) (Nat.le_of_ble_eq_true rfl) rfl ?_
            refine z_goto (t := 64) dX9_layComes_126 (by rfl) ?_
            first
            | exact ih (p + 1) _ (by omega) (by omega) (by omega) hE (zcR_cg hD (fun u hu => zw_p (Or.inr (Or.inl hp9))))
            | exact ih (p + 1) _ (by omega) (by omega) (by omega) hE (zcR_cg hD (fun u hu => zw_p (Or.inr (Or.inr ht9))))
            | (refine ih (p + 1) (zup h 103 _ 1) (by omega) (by omega) (by omega) (fun q hq => (zup_row hq).trans (hE q hq)) ⟨fun j hj u hu => ?_, fun u hu => ?_, fun q h1q h2q => ?_⟩
               · rw [zup_ap, if_neg (fun e => (by have := e.2; omega))]
                 exact hD.1 j hj u hu
               · by_cases eu : u = t + p
                 · subst eu
                   rw [zup_ap, if_pos ⟨rfl, by omega⟩, zw_n (by omega) (by omega) hp9 ht9 hcan]
                   rfl
                 · rw [zup_ap, if_neg (fun e => eu (by have := e.2; omega)), hD.2.1 u hu, zw_p (Or.inl eu)]
               · rw [zup_ap, if_neg (fun e => (by have := e.2; omega))]
                 exact hD.2.2 q h1q h2q)
          · try simp only [zup_ap, zup_row, ne_eq, not_false_eq_true, zres, Int.toNat_natCast, reduceIte, Nat.reduceEqDiff, Nat.reduceAdd, and_self, and_true, true_and, and_false, false_and]
            refine z_if_eq (t := 123) dX9_layComes_102 (by rfl) (fun hx => absurd hx (by decide)) (fun _ => ?_)
            refine z_al0 dX9_layComes_105 (by first | decide | omega | assumption) ?_
            refine z_getR zfX9_72 dX9_layComes_106 (zkB hΓ rfl) rfl (zsB hΓ rfl) (zvB hΓ (by decide)) ?_
            refine z_sipush (x := 201) dX9_layComes_109 (by rfl) (by decide) ?_
            refine z_il2 dX9_layComes_112 ?_
            refine z_iconst dX9_layComes_113 (by decide) ?_
            refine z_iadd dX9_layComes_114 (by omega) ?_
            refine z_imul dX9_layComes_115 (by omega) ?_
            refine z_il3 dX9_layComes_116 ?_
            refine z_iadd dX9_layComes_117 (by omega) ?_
            refine z_il4 dX9_layComes_118 ?_
            refine z_iadd dX9_layComes_120 (by omega) ?_
            refine z_iconst dX9_layComes_121 (by decide) ?_
            refine z_zast dX9_layComes_122 (zkB hΓ rfl) (by omega) (by omega) (by first | exact Or.inl rfl | exact Or.inr rfl | omega) ?_
            refine z_ii4 dX9_layComes_123 (by omega) (Nat.le_of_ble_eq_true rfl) rfl ?_
            refine z_goto (t := 64) dX9_layComes_126 (by rfl) ?_
            first
            | exact ih (p + 1) _ (by omega) (by omega) (by omega) hE (zcR_cg hD (fun u hu => zw_p (Or.inr (Or.inl hp9))))
            | exact ih (p + 1) _ (by omega) (by omega) (by omega) hE (zcR_cg hD (fun u hu => zw_p (Or.inr (Or.inr ht9))))
            | (refine ih (p + 1) (zup h 103 _ 1) (by omega) (by omega) (by omega) (fun q hq => (zup_row hq).trans (hE q hq)) ⟨fun j hj u hu => ?_, fun u hu => ?_, fun q h1q h2q => ?_⟩
               · rw [zup_ap, if_neg (fun e => (by have := e.2; omega))]
                 exact hD.1 j hj u hu
               · by_cases eu : u = t + p
                 · subst eu
                   rw [zup_ap, if_pos ⟨rfl, by omega⟩, zw_n (by omega) (by omega) hp9 ht9 hcan]
                   rfl
                 · rw [zup_ap, if_neg (fun e => eu (by have := e.2; omega)), hD.2.1 u hu, zw_p (Or.inl eu)]
               · rw [zup_ap, if_neg (fun e => (by have := e.2; omega))]
                 exact hD.2.2 q h1q h2q)
set_option maxRecDepth 4000 in
theorem X9_lC_t {l : Launch} {Γ : zC} {h0 h1 : zM} {Q : Option zV → zC → zM → Prop} {b : Nat → Int} {r : Int} (hI : zIv Γ h0) (hF1 : zfr zSS h0 h1) {hd : Nat} (hhd : h0 89 32 = (hd : Int)) (hr7 : 0 ≤ r ∧ r ≤ 7) (hB1 : ∀ n, n ≤ 200 → h1 102 n = b n) {k : Nat} (hk : k < 60) (hK : ∀ h9 {y4 : Option zV}, (∀ q, q ≠ 103 → h9 q = h1 q) → zcR b r hd h9 k 201 1 → zG (zFn l mX9_layComes 2 0 0 Γ Q) 0 0 Γ h9 135 [some (zR 89), some (zI r), some (zI (k : Int)), some (zI ((201 : Nat) : Int)), y4] []) : ∀ (m t : Nat) (h : zM) (y4 : Option zV), 201 - t < m → t ≤ 201 → (∀ q, q ≠ 103 → h q = h1 q) → zcR b r hd h k t 1 → zG (zFn l mX9_layComes 2 0 0 Γ Q) 0 0 Γ h 42 [some (zR 89), some (zI r), some (zI (k : Int)), some (zI (t : Int)), y4] [] := by
  have hΓ := hI.base
  have hx2 := hI.isl
  have hx3 := hI.hnd
  intro m
  induction m with
  | zero => intros; omega
  | succ m ih =>
    intro t h y4 hm ht hE hD
    refine z_il3 dX9_layComes_42 ?_
    refine z_sipush (x := 200) dX9_layComes_43 (by rfl) (by decide) ?_
    refine z_icmp_gt (t := 135) dX9_layComes_46 (by rfl) (fun ht46 => ?_) (fun hf46 => ?_)
    · have et : t = 201 := by omega
      subst et
      exact hK h hE hD
    · refine z_al0 dX9_layComes_49 (by first | decide | omega | assumption) ?_
      refine z_il2 dX9_layComes_50 ?_
      refine z_il3 dX9_layComes_51 ?_
      refine zcv2 dX9_layComes_52 zkX9_321 ziX9_can zsX9_can (zkB hΓ rfl) (by decide) rfl (Nat.le_of_ble_eq_true rfl) (by decide) (by first | decide | omega) ⟨Nat.le_refl _, Nat.le_refl _⟩ (X9_can_ct hΓ (k := k) (t := t) (by omega) (by omega) (hD.1 k (Nat.le_refl _) t (by omega)) (fun hc9 _ => ?_) (fun hc9 _ => ?_))
      · try simp only [zup_ap, zup_row, ne_eq, not_false_eq_true, zres, Int.toNat_natCast, reduceIte, Nat.reduceEqDiff, Nat.reduceAdd, and_self, and_true, true_and, and_false, false_and]
        refine z_if_ne (t := 61) dX9_layComes_55 (by rfl) (fun hx => absurd hx (by decide)) (fun _ => ?_)
        refine z_goto (t := 129) dX9_layComes_58 (by rfl) ?_
        refine z_ii3 dX9_layComes_129 (by omega) (Nat.le_of_ble_eq_true rfl) rfl ?_
        refine z_goto (t := 42) dX9_layComes_132 (by rfl) ?_
        exact ih (t + 1) _ _ (by omega) (by omega) hE (zcR_cg hD (fun u hu => zw_t hu (Or.inl hc9)))
      · try simp only [zup_ap, zup_row, ne_eq, not_false_eq_true, zres, Int.toNat_natCast, reduceIte, Nat.reduceEqDiff, Nat.reduceAdd, and_self, and_true, true_and, and_false, false_and]
        refine z_if_ne (t := 61) dX9_layComes_55 (by rfl) (fun _ => ?_) (fun hx => absurd hx (by decide))
        refine z_iconst dX9_layComes_61 (by decide) ?_
        refine z_is4 dX9_layComes_62 (Nat.le_of_ble_eq_true rfl) rfl ?_
        refine X9_lC_p hI hF1 hhd hr7 hB1 hk (by omega) hc9 (fun h9 p hE9 hD9 => ?_) _ 1 h (Nat.lt_succ_self _) (by omega) (by omega) hE hD
        refine z_ii3 dX9_layComes_129 (by omega) (Nat.le_of_ble_eq_true rfl) rfl ?_
        refine z_goto (t := 42) dX9_layComes_132 (by rfl) ?_
        exact ih (t + 1) _ _ (by omega) (by omega) hE9 hD9
/-- rows of comes: by so many PARTS to each total -/
def zCm (b : Nat → Int) (r : Int) (hd : Nat) (h : zM) (k : Nat) : Prop := (∀ j, j ≤ k → ∀ u, u ≤ 200 → h 103 (201 * j + u) = if zcm b r hd j u then 1 else 0) ∧ ∀ q, 201 * (k + 1) ≤ q → q < 12261 → h 103 q = 0
theorem zCm_R {b : Nat → Int} {r : Int} {hd : Nat} {h : zM} {k : Nat} (hk : k < 60) (H : zCm b r hd h k) : zcR b r hd h k 0 1 := ⟨H.1, fun u hu => by rw [zw_0]; exact H.2 _ (by omega) (by omega), fun q a c => H.2 q (by omega) c⟩
theorem zCm_S {b : Nat → Int} {r : Int} {hd : Nat} {h : zM} {k : Nat} (H : zcR b r hd h k 201 1) : zCm b r hd h (k + 1) := ⟨fun j hj u hu => by
  by_cases e : j = k + 1
  · subst e; rw [H.2.1 u hu, zw_z _ _ _ _ _ hu]
  · exact H.1 j (by omega) u hu, H.2.2⟩
set_option maxRecDepth 4000 in
theorem X9_lC_k {l : Launch} {Γ : zC} {h0 h1 : zM} {Q : Option zV → zC → zM → Prop} {b : Nat → Int} {r : Int} (hI : zIv Γ h0) (hF1 : zfr zSS h0 h1) {hd : Nat} (hhd : h0 89 32 = (hd : Int)) (hr7 : 0 ≤ r ∧ r ≤ 7) (hB1 : ∀ n, n ≤ 200 → h1 102 n = b n) (hQ : ∀ h9, (∀ q, q ≠ 103 → h9 q = h1 q) → (∀ k, k ≤ 60 → ∀ t, t ≤ 200 → h9 103 (201 * k + t) = if zcm b r hd k t then 1 else 0) → Q none Γ h9) : ∀ (m k : Nat) (h : zM) (y3 y4 : Option zV), 60 - k < m → k ≤ 60 → (∀ q, q ≠ 103 → h q = h1 q) → zCm b r hd h k → zG (zFn l mX9_layComes 2 0 0 Γ Q) 0 0 Γ h 34 [some (zR 89), some (zI r), some (zI (k : Int)), y3, y4] [] := by
  have hΓ := hI.base
  have hx2 := hI.isl
  have hx3 := hI.hnd
  intro m
  induction m with
  | zero => intros; omega
  | succ m ih =>
    intro k h y3 y4 hm hk hE hD
    refine z_il2 dX9_layComes_34 ?_
    refine z_bipush (x := 60) dX9_layComes_35 (by rfl) (by decide) ?_
    refine z_icmp_ge (t := 141) dX9_layComes_37 (by rfl) (fun ht37 => ?_) (fun hf37 => ?_)
    · refine z_ret dX9_layComes_141 rfl (Nat.le_refl _) (Nat.le_refl _) (zext_rf _) ?_
      have ek : k = 60 := by omega
      subst ek
      exact hQ h hE (fun k h1 t h2 => hD.1 k h1 t h2)
    · refine z_iconst dX9_layComes_40 (by decide) ?_
      refine z_is3 dX9_layComes_41 (Nat.le_of_ble_eq_true rfl) rfl ?_
      refine X9_lC_t hI hF1 hhd hr7 hB1 (k := k) (by omega) (fun h9 y4 hE9 hD9 => ?_) _ 0 h _ (Nat.lt_succ_self _) (by omega) hE (zCm_R (by omega) hD)
      refine z_ii2 dX9_layComes_135 (by omega) (Nat.le_of_ble_eq_true rfl) rfl ?_
      refine z_goto (t := 34) dX9_layComes_138 (by rfl) ?_
      exact ih (k + 1) _ _ _ (by omega) (by omega) hE9 (zCm_S hD9)
set_option maxRecDepth 4000 in
theorem X9_layComes_ct {l : Launch} {Γ : zC} {h0 h : zM} {Q : Option zV → zC → zM → Prop} {b : Nat → Int} {r : Int} (hI : zIv Γ h0) (hF : zfr zSS h0 h) {hd : Nat} (hhd : h0 89 32 = (hd : Int)) (hr7 : 0 ≤ r ∧ r ≤ 7) (hB : ∀ n, n ≤ 200 → h 102 n = b n) (hQ : ∀ h9, (∀ q, q ≠ 103 → h9 q = h q) → (∀ k, k ≤ 60 → ∀ t, t ≤ 200 → h9 103 (201 * k + t) = if zcm b r hd k t then 1 else 0) → Q none Γ h9) : zCT l mX9_layComes 2 0 0 Γ [zR 89, zI r] h Q := by
  have hΓ := hI.base
  have hx2 := hI.isl
  refine zCT_of (by decide) (Nat.le_of_ble_eq_true rfl) (ls := [some (zR 89), some (zI r), none, none, none]) rfl ?_
  refine z_iconst dX9_layComes_0 (by decide) ?_
  refine z_is2 dX9_layComes_1 (Nat.le_of_ble_eq_true rfl) rfl ?_
  refine X9_layComes_0 hΓ (fun h9 hE9 hD9 => ?_) _ 0 h (Nat.lt_succ_self _) (by omega) (fun q _ => rfl) (fun j hj => absurd hj (by omega))
  refine z_iconst dX9_layComes_32 (by decide) ?_
  refine z_is2 dX9_layComes_33 (Nat.le_of_ble_eq_true rfl) rfl ?_
  refine X9_lC_k hI hF hhd hr7 hB hQ _ 0 _ _ _ (Nat.lt_succ_self _) (by omega) hE9 ⟨fun j hj u hu => ?_, fun q h1q h2q => ?_⟩
  · have ej : j = 0 := by omega
    subst ej
    rw [hD9 _ (by omega)]
    by_cases eu : u = 0
    · subst eu; rfl
    · rw [if_neg (by omega)]
      show 0 = if decide (u = 0) = true then 1 else 0
      rw [if_neg (fun e => eu (of_decide_eq_true e))]
  · rw [hD9 _ h2q, if_neg (by omega)]
/-- the PARTS below p only -/
def zgw (b : Nat → Int) (r : Int) (hd sum k t p : Nat) : Bool := zan (fun q => decide (q ≤ sum - t) && (zpt b r q && (zto b r (t + q) && zgo b r hd sum k (t + q)))) p
def zGo (b : Nat → Int) (r : Int) (hd sum : Nat) (h : zM) (k t p : Nat) : Prop := (∀ j, j ≤ k → ∀ u, u ≤ sum → h 103 (201 * j + u) = if zgo b r hd sum j u then 1 else 0) ∧ (∀ u, u < t → h 103 (201 * (k + 1) + u) = if zgo b r hd sum (k + 1) u then 1 else 0) ∧ (t ≤ sum → h 103 (201 * (k + 1) + t) = if zgw b r hd sum k t p then 1 else 0) ∧ ∀ q, (201 * (k + 1) + t < q ∧ q ≤ 201 * (k + 1) + sum ∨ 201 * (k + 2) ≤ q) → q < 12261 → h 103 q = 0
theorem zgw_e {b : Nat → Int} {r : Int} {hd sum k t p : Nat} (h : p ≤ hd) (h2 : hd ≤ p ∨ sum - t ≤ p) : zgw b r hd sum k t p = zgo b r hd sum (k + 1) t := by
  unfold zgw
  show zan _ _ = zan _ _
  rw [zan_stop, zan_stop, show min p (sum - t) = min hd (sum - t) by omega]
set_option maxRecDepth 4000 in
theorem X9_lG_p {l : Launch} {Γ : zC} {h0 h1 : zM} {Q : Option zV → zC → zM → Prop} {b : Nat → Int} {r : Int} (hI : zIv Γ h0) (hF1 : zfr zSS h0 h1) {hd : Nat} (hhd : h0 89 32 = (hd : Int)) (hr7 : 0 ≤ r ∧ r ≤ 7) (hB1 : ∀ n, n ≤ 200 → h1 102 n = b n) {k t sum : Nat} (hs9 : sum ≤ 200) (hk : k < 60) (ht : t ≤ sum) (hK : ∀ h9 (p : Nat), (∀ q, q ≠ 103 → h9 q = h1 q) → zGo b r hd sum h9 k t hd → zG (zFn l mX9_layGoes 2 0 0 Γ Q) 0 0 Γ h9 129 [some (zR 89), some (zI (sum : Int)), some (zI r), some (zI (k : Int)), some (zI (t : Int)), some (zI (p : Int))] []) : ∀ (m p : Nat) (h : zM), hd + 1 - p < m → p ≤ hd → (∀ q, q ≠ 103 → h q = h1 q) → zGo b r hd sum h k t p → zG (zFn l mX9_layGoes 2 0 0 Γ Q) 0 0 Γ h 53 [some (zR 89), some (zI (sum : Int)), some (zI r), some (zI (k : Int)), some (zI (t : Int)), some (zI ((p + 1 : Nat) : Int))] [] := by
  have hΓ := hI.base
  have hx2 := hI.isl
  have hx3 := hI.hnd
  intro m
  induction m with
  | zero => intros; omega
  | succ m ih =>
    intro p h hm hp2 hE hD
    have hF := zfr_1 hF1 zs103 hE
    have hB : ∀ n, n ≤ 200 → h 102 n = b n := fun n hn => by rw [hE 102 (by decide)]; exact hB1 n hn
    refine z_il5 dX9_layGoes_53 ?_
    refine z_al0 dX9_layGoes_55 (by first | decide | omega | assumption) ?_
    refine z_getI zfX9_65 dX9_layGoes_56 (zkB hΓ rfl) rfl ?_
    rw [hF 89 32 rfl, hhd]
    try simp only [zup_ap, zup_row, ne_eq, not_false_eq_true, zres, Int.toNat_natCast, reduceIte, Nat.reduceEqDiff, Nat.reduceAdd, and_self, and_true, true_and, and_false, false_and]
    refine z_icmp_gt (t := 129) dX9_layGoes_59 (by rfl) (fun ht59 => ?_) (fun hf59 => ?_)
    · exact hK h (p + 1) hE ⟨hD.1, hD.2.1, fun e => by rw [hD.2.2.1 e, zgw_e (p := p) (by omega) (by omega), ← zgw_e (p := hd) (by omega) (by omega)], hD.2.2.2⟩
    · refine z_il4 dX9_layGoes_62 ?_
      refine z_il5 dX9_layGoes_64 ?_
      refine z_iadd dX9_layGoes_66 (by omega) ?_
      refine z_il1 dX9_layGoes_67 ?_
      refine z_icmp_gt (t := 129) dX9_layGoes_68 (by rfl) (fun ht68 => ?_) (fun hf68 => ?_)
      · exact hK h (p + 1) hE ⟨hD.1, hD.2.1, fun e => by rw [hD.2.2.1 e, zgw_e (p := p) (by omega) (by omega), ← zgw_e (p := hd) (by omega) (by omega)], hD.2.2.2⟩
      · refine z_al0 dX9_layGoes_71 (by first | decide | omega | assumption) ?_
        refine z_il3 dX9_layGoes_72 ?_
        refine z_il4 dX9_layGoes_73 ?_
        refine z_il5 dX9_layGoes_75 ?_
        refine z_iadd dX9_layGoes_77 (by omega) ?_
        rw [show (t : Int) + ((p + 1 : Nat) : Int) = ((t + (p + 1) : Nat) : Int) by omega]
        refine zcv2 dX9_layGoes_78 zkX9_321 ziX9_can zsX9_can (zkB hΓ rfl) (by decide) rfl (Nat.le_of_ble_eq_true rfl) (by decide) (by first | decide | omega) ⟨Nat.le_refl _, Nat.le_refl _⟩ (X9_can_ct hΓ (k := k) (t := t + (p + 1)) (by omega) (by omega) (hD.1 k (Nat.le_refl _) (t + (p + 1)) (by omega)) (fun hc9 _ => ?_) (fun hc9 _ => ?_))
        · try simp only [zup_ap, zup_row, ne_eq, not_false_eq_true, zres, Int.toNat_natCast, reduceIte, Nat.reduceEqDiff, Nat.reduceAdd, and_self, and_true, true_and, and_false, false_and]
          refine z_if_eq (t := 123) dX9_layGoes_81 (by rfl) (fun _ => ?_) (fun hx => absurd hx (by decide))
          refine z_ii5 dX9_layGoes_123 (by omega) (Nat.le_of_ble_eq_true rfl) rfl ?_
          refine z_goto (t := 53) dX9_layGoes_126 (by rfl) ?_
          first
          | (refine ih (p + 1) _ (by omega) (by omega) hE ⟨hD.1, hD.2.1, fun e => ?_, hD.2.2.2⟩
             rw [hD.2.2.1 e]
             show _ = if (zan _ p || (_ && (zpt b r (p + 1) && (zto b r (t + (p + 1)) && zgo b r hd sum k (t + (p + 1)))))) then 1 else 0
             first
             | (rw [hp9]; simp only [Bool.and_false, Bool.false_and, Bool.or_false]; rfl)
             | (rw [ht9]; simp only [Bool.and_false, Bool.false_and, Bool.or_false]; rfl)
             | (rw [hc9]; simp only [Bool.and_false, Bool.false_and, Bool.or_false]; rfl))
          | (refine ih (p + 1) (zup h 103 _ 1) (by omega) (by omega) (fun q hq => (zup_row hq).trans (hE q hq)) ⟨fun j hj u hu => ?_, fun u hu => ?_, fun e => ?_, fun q h1q h2q => ?_⟩
             · rw [zup_ap, if_neg (fun e => (by have := e.2; omega))]
               exact hD.1 j hj u hu
             · rw [zup_ap, if_neg (fun e => (by have := e.2; omega))]
               exact hD.2.1 u hu
             · rw [zup_ap, if_pos ⟨rfl, by omega⟩]
               show _ = if (zan _ p || (_ && (zpt b r (p + 1) && (zto b r (t + (p + 1)) && zgo b r hd sum k (t + (p + 1)))))) then 1 else 0
               rw [hc9, hp9, ht9, decide_eq_true (show p + 1 ≤ sum - t by omega)]
               simp only [Bool.and_self, Bool.or_true]
               rfl
             · rw [zup_ap, if_neg (fun e => (by have := e.2; omega))]
               exact hD.2.2.2 q h1q h2q)
        · try simp only [zup_ap, zup_row, ne_eq, not_false_eq_true, zres, Int.toNat_natCast, reduceIte, Nat.reduceEqDiff, Nat.reduceAdd, and_self, and_true, true_and, and_false, false_and]
          refine z_if_eq (t := 123) dX9_layGoes_81 (by rfl) (fun hx => absurd hx (by decide)) (fun _ => ?_)
          refine z_al0 dX9_layGoes_84 (by first | decide | omega | assumption) ?_
          refine z_il5 dX9_layGoes_85 ?_
          refine z_il2 dX9_layGoes_87 ?_
          refine zcv2 dX9_layGoes_88 zkX9_324 ziX9_isPart zsX9_isPart (zkB hΓ rfl) (by decide) rfl (Nat.le_of_ble_eq_true rfl) (by decide) (by first | decide | omega) ⟨Nat.le_refl _, Nat.le_refl _⟩ (X9_isPart_ct hΓ hr7 hB (n := p + 1) (by omega) (fun hp9 _ => ?_) (fun hp9 _ => ?_))
          · try simp only [zup_ap, zup_row, ne_eq, not_false_eq_true, zres, Int.toNat_natCast, reduceIte, Nat.reduceEqDiff, Nat.reduceAdd, and_self, and_true, true_and, and_false, false_and]
            refine z_if_eq (t := 123) dX9_layGoes_91 (by rfl) (fun _ => ?_) (fun hx => absurd hx (by decide))
            refine z_ii5 dX9_layGoes_123 (by omega) (Nat.le_of_ble_eq_true rfl) rfl ?_
            refine z_goto (t := 53) dX9_layGoes_126 (by rfl) ?_
            first
            | (refine ih (p + 1) _ (by omega) (by omega) hE ⟨hD.1, hD.2.1, fun e => ?_, hD.2.2.2⟩
               rw [hD.2.2.1 e]
               show _ = if (zan _ p || (_ && (zpt b r (p + 1) && (zto b r (t + (p + 1)) && zgo b r hd sum k (t + (p + 1)))))) then 1 else 0
               first
               | (rw [hp9]; simp only [Bool.and_false, Bool.false_and, Bool.or_false]; rfl)
               | (rw [ht9]; simp only [Bool.and_false, Bool.false_and, Bool.or_false]; rfl)
               | (rw [hc9]; simp only [Bool.and_false, Bool.false_and, Bool.or_false]; rfl))
            | (refine ih (p + 1) (zup h 103 _ 1) (by omega) (by omega) (fun q hq => (zup_row hq).trans (hE q hq)) ⟨fun j hj u hu => ?_, fun u hu => ?_, fun e => ?_, fun q h1q h2q => ?_⟩
               · rw [zup_ap, if_neg (fun e => (by have := e.2; omega))]
                 exact hD.1 j hj u hu
               · rw [zup_ap, if_neg (fun e => (by have := e.2; omega))]
                 exact hD.2.1 u hu
               · rw [zup_ap, if_pos ⟨rfl, by omega⟩]
                 show _ = if (zan _ p || (_ && (zpt b r (p + 1) && (zto b r (t + (p + 1)) && zgo b r hd sum k (t + (p + 1)))))) then 1 else 0
                 rw [hc9, hp9, ht9, decide_eq_true (show p + 1 ≤ sum - t by omega)]
                 simp only [Bool.and_self, Bool.or_true]
                 rfl
               · rw [zup_ap, if_neg (fun e => (by have := e.2; omega))]
                 exact hD.2.2.2 q h1q h2q)
          · try simp only [zup_ap, zup_row, ne_eq, not_false_eq_true, zres, Int.toNat_natCast, reduceIte, Nat.reduceEqDiff, Nat.reduceAdd, and_self, and_true, true_and, and_false, false_and]
            refine z_if_eq (t := 123) dX9_layGoes_91 (by rfl) (fun hx => absurd hx (by decide)) (fun _ => ?_)
            refine z_al0 dX9_layGoes_94 (by first | decide | omega | assumption) ?_
            refine z_il4 dX9_layGoes_95 ?_
            refine z_il5 dX9_layGoes_97 ?_
            refine z_iadd dX9_layGoes_99 (by omega) ?_
            refine z_il2 dX9_layGoes_100 ?_
            rw [show (t : Int) + ((p + 1 : Nat) : Int) = ((t + (p + 1) : Nat) : Int) by omega]
            refine zcv2 dX9_layGoes_101 zkX9_327 ziX9_isTotal zsX9_isTotal (zkB hΓ rfl) (by decide) rfl (Nat.le_of_ble_eq_true rfl) (by decide) (by first | decide | omega) ⟨Nat.le_refl _, Nat.le_refl _⟩ (X9_isTotal_ct hΓ hr7 hB (n := t + (p + 1)) (by omega) (fun ht9 _ => ?_) (fun ht9 _ => ?_))
            · try simp only [zup_ap, zup_row, ne_eq, not_false_eq_true, zres, Int.toNat_natCast, reduceIte, Nat.reduceEqDiff, Nat.reduceAdd, and_self, and_true, true_and, and_false, false_and]
              refine z_if_eq (t := 123) dX9_layGoes_104 (by rfl) (fun _ => ?_) (fun hx => absurd hx (by decide))
              refine z_ii5 dX9_layGoes_123 (by omega) (Nat.le_of_ble_eq_true rfl) rfl ?_
              refine z_goto (t := 53) dX9_layGoes_126 (by rfl) ?_
              first
              | (refine ih (p + 1) _ (by omega) (by omega) hE ⟨hD.1, hD.2.1, fun e => ?_, hD.2.2.2⟩
                 rw [hD.2.2.1 e]
                 show _ = if (zan _ p || (_ && (zpt b r (p + 1) && (zto b r (t + (p + 1)) && zgo b r hd sum k (t + (p + 1)))))) then 1 else 0
                 first
                 | (rw [hp9]; simp only [Bool.and_false, Bool.false_and, Bool.or_false]; rfl)
                 | (rw [ht9]; simp only [Bool.and_false, Bool.false_and, Bool.or_false]; rfl)
                 | (rw [hc9]; simp only [Bool.and_false, Bool.false_and, Bool.or_false]; rfl))
              | (refine ih (p + 1) (zup h 103 _ 1) (by omega) (by omega) (fun q hq => (zup_row hq).trans (hE q hq)) ⟨fun j hj u hu => ?_, fun u hu => ?_, fun e => ?_, fun q h1q h2q => ?_⟩
                 · rw [zup_ap, if_neg (fun e => (by have := e.2; omega))]
                   exact hD.1 j hj u hu
                 · rw [zup_ap, if_neg (fun e => (by have := e.2; omega))]
                   exact hD.2.1 u hu
                 · rw [zup_ap, if_pos ⟨rfl, by omega⟩]
                   show _ = if (zan _ p || (_ && (zpt b r (p + 1) && (zto b r (t + (p + 1)) && zgo b r hd sum k (t + (p + 1)))))) then 1 else 0
                   rw [hc9, hp9, ht9, decide_eq_true (show p + 1 ≤ sum - t by omega)]
                   simp only [Bool.and_self, Bool.or_true]
                   rfl
                 · rw [zup_ap, if_neg (fun e => (by have := e.2; omega))]
                   exact hD.2.2.2 q h1q h2q)
            · try simp only [zup_ap, zup_row, ne_eq, not_false_eq_true, zres, Int.toNat_natCast, reduceIte, Nat.reduceEqDiff, Nat.reduceAdd, and_self, and_true, true_and, and_false, false_and]
              refine z_if_eq (t := 123) dX9_layGoes_104 (by rfl) (fun hx => absurd hx (by decide)) (fun _ => ?_)
              refine z_al0 dX9_layGoes_107 (by first | decide | omega | assumption) ?_
              refine z_getR zfX9_72 dX9_layGoes_108 (zkB hΓ rfl) rfl (zsB hΓ rfl) (zvB hΓ (by decide)) ?_
              refine z_sipush (x := 201) dX9_layGoes_111 (by rfl) (by decide) ?_
              refine z_il3 dX9_layGoes_114 ?_
              refine z_iconst dX9_layGoes_115 (by decide) ?_
              refine z_iadd dX9_layGoes_116 (by omega) ?_
              refine z_imul dX9_layGoes_117 (by omega) ?_
              refine z_il4 dX9_layGoes_118 ?_
              refine z_iadd dX9_layGoes_120 (by omega) ?_
              refine z_iconst dX9_layGoes_121 (by decide) ?_
              refine z_zast dX9_layGoes_122 (zkB hΓ rfl) (by omega) (by omega) (by first | exact Or.inl rfl | exact Or.inr rfl | omega) ?_
              refine z_ii5 dX9_layGoes_123 (by omega) (Nat.le_of_ble_eq_true rfl) rfl ?_
              refine z_goto (t := 53) dX9_layGoes_126 (by rfl) ?_
              first
              | (refine ih (p + 1) _ (by omega) (by omega) hE ⟨hD.1, hD.2.1, fun e => ?_, hD.2.2.2⟩
                 rw [hD.2.2.1 e]
                 show _ = if (zan _ p || (_ && (zpt b r (p + 1) && (zto b r (t + (p + 1)) && zgo b r hd sum k (t + (p + 1)))))) then 1 else 0
                 first
                 | (rw [hp9]; simp only [Bool.and_false, Bool.false_and, Bool.or_false]; rfl)
                 | (rw [ht9]; simp only [Bool.and_false, Bool.false_and, Bool.or_false]; rfl)
                 | (rw [hc9]; simp only [Bool.and_false, Bool.false_and, Bool.or_false]; rfl))
              | (refine ih (p + 1) (zup h 103 _ 1) (by omega) (by omega) (fun q hq => (zup_row hq).trans (hE q hq)) ⟨fun j hj u hu => ?_, fun u hu => ?_, fun e => ?_, fun q h1q h2q => ?_⟩
                 · rw [zup_ap, if_neg (fun e => (by have := e.2; omega))]
                   exact hD.1 j hj u hu
                 · rw [zup_ap, if_neg (fun e => (by have := e.2; omega))]
                   exact hD.2.1 u hu
                 · rw [zup_ap, if_pos ⟨rfl, by omega⟩]
                   show _ = if (zan _ p || (_ && (zpt b r (p + 1) && (zto b r (t + (p + 1)) && zgo b r hd sum k (t + (p + 1)))))) then 1 else 0
                   rw [hc9, hp9, ht9, decide_eq_true (show p + 1 ≤ sum - t by omega)]
                   simp only [Bool.and_self, Bool.or_true]
                   rfl
                 · rw [zup_ap, if_neg (fun e => (by have := e.2; omega))]
                   exact hD.2.2.2 q h1q h2q)
set_option maxRecDepth 4000 in
theorem X9_lG_t {l : Launch} {Γ : zC} {h0 h1 : zM} {Q : Option zV → zC → zM → Prop} {b : Nat → Int} {r : Int} (hI : zIv Γ h0) (hF1 : zfr zSS h0 h1) {hd : Nat} (hhd : h0 89 32 = (hd : Int)) (hr7 : 0 ≤ r ∧ r ≤ 7) (hB1 : ∀ n, n ≤ 200 → h1 102 n = b n) {k sum : Nat} (hs9 : sum ≤ 200) (hk : k < 60) (hK : ∀ h9 {y5 : Option zV}, (∀ q, q ≠ 103 → h9 q = h1 q) → zGo b r hd sum h9 k (sum + 1) 0 → zG (zFn l mX9_layGoes 2 0 0 Γ Q) 0 0 Γ h9 135 [some (zR 89), some (zI (sum : Int)), some (zI r), some (zI (k : Int)), some (zI ((sum + 1 : Nat) : Int)), y5] []) : ∀ (m t : Nat) (h : zM) (y5 : Option zV), sum + 1 - t < m → t ≤ sum + 1 → (∀ q, q ≠ 103 → h q = h1 q) → zGo b r hd sum h k t 0 → zG (zFn l mX9_layGoes 2 0 0 Γ Q) 0 0 Γ h 44 [some (zR 89), some (zI (sum : Int)), some (zI r), some (zI (k : Int)), some (zI (t : Int)), y5] [] := by
  have hΓ := hI.base
  have hx2 := hI.isl
  have hx3 := hI.hnd
  intro m
  induction m with
  | zero => intros; omega
  | succ m ih =>
    intro t h y5 hm ht hE hD
    refine z_il4 dX9_layGoes_44 ?_
    refine z_il1 dX9_layGoes_46 ?_
    refine z_icmp_gt (t := 135) dX9_layGoes_47 (by rfl) (fun ht47 => ?_) (fun hf47 => ?_)
    · have et : t = sum + 1 := by omega
      subst et
      exact hK h hE hD
    · refine z_iconst dX9_layGoes_50 (by decide) ?_
      refine z_is5 dX9_layGoes_51 (Nat.le_of_ble_eq_true rfl) rfl ?_
      refine X9_lG_p hI hF1 hhd hr7 hB1 (k := k) (t := t) hs9 hk (by omega) (fun h9 p hE9 hD9 => ?_) _ 0 h (Nat.lt_succ_self _) (by omega) hE hD
      refine z_ii4 dX9_layGoes_129 (by omega) (Nat.le_of_ble_eq_true rfl) rfl ?_
      refine z_goto (t := 44) dX9_layGoes_132 (by rfl) ?_
      refine ih (t + 1) _ _ (by omega) (by omega) hE9 ⟨hD9.1, fun u hu => ?_, fun e => ?_, fun q h1q h2q => hD9.2.2.2 q (by omega) h2q⟩
      · by_cases eu : u = t
        · subst eu; rw [hD9.2.2.1 (by omega), zgw_e (Nat.le_refl _) (Or.inl (Nat.le_refl _))]
        · exact hD9.2.1 u (by omega)
      · rw [hD9.2.2.2 _ (by omega) (by omega)]; rfl
def zGk (b : Nat → Int) (r : Int) (hd sum : Nat) (h : zM) (k : Nat) : Prop := (∀ j, j ≤ k → ∀ u, u ≤ sum → h 103 (201 * j + u) = if zgo b r hd sum j u then 1 else 0) ∧ ∀ q, 201 * (k + 1) ≤ q → q < 12261 → h 103 q = 0
theorem zGk_R {b : Nat → Int} {r : Int} {hd sum : Nat} {h : zM} {k : Nat} (hs : sum ≤ 200) (hk : k < 60) (H : zGk b r hd sum h k) : zGo b r hd sum h k 0 0 := ⟨H.1, fun u hu => absurd hu (by omega), fun _ => by rw [H.2 _ (by omega) (by omega)]; rfl, fun q a c => H.2 q (by omega) c⟩
theorem zGk_S {b : Nat → Int} {r : Int} {hd sum : Nat} {h : zM} {k : Nat} (H : zGo b r hd sum h k (sum + 1) 0) : zGk b r hd sum h (k + 1) := ⟨fun j hj u hu => by
  by_cases e : j = k + 1
  · subst e; exact H.2.1 u (by omega)
  · exact H.1 j (by omega) u hu, fun q a c => H.2.2.2 q (Or.inr a) c⟩
set_option maxRecDepth 4000 in
theorem X9_lG_k {l : Launch} {Γ : zC} {h0 h1 : zM} {Q : Option zV → zC → zM → Prop} {b : Nat → Int} {r : Int} (hI : zIv Γ h0) (hF1 : zfr zSS h0 h1) {hd : Nat} (hhd : h0 89 32 = (hd : Int)) (hr7 : 0 ≤ r ∧ r ≤ 7) (hB1 : ∀ n, n ≤ 200 → h1 102 n = b n) {sum : Nat} (hs9 : sum ≤ 200) (hQ : ∀ h9, (∀ q, q ≠ 103 → h9 q = h1 q) → (∀ k, k ≤ 60 → ∀ t, t ≤ sum → h9 103 (201 * k + t) = if zgo b r hd sum k t then 1 else 0) → Q none Γ h9) : ∀ (m k : Nat) (h : zM) (y4 y5 : Option zV), 60 - k < m → k ≤ 60 → (∀ q, q ≠ 103 → h q = h1 q) → zGk b r hd sum h k → zG (zFn l mX9_layGoes 2 0 0 Γ Q) 0 0 Γ h 35 [some (zR 89), some (zI (sum : Int)), some (zI r), some (zI (k : Int)), y4, y5] [] := by
  have hΓ := hI.base
  have hx2 := hI.isl
  have hx3 := hI.hnd
  intro m
  induction m with
  | zero => intros; omega
  | succ m ih =>
    intro k h y4 y5 hm hk hE hD
    refine z_il3 dX9_layGoes_35 ?_
    refine z_bipush (x := 60) dX9_layGoes_36 (by rfl) (by decide) ?_
    refine z_icmp_ge (t := 141) dX9_layGoes_38 (by rfl) (fun ht38 => ?_) (fun hf38 => ?_)
    · refine z_ret dX9_layGoes_141 rfl (Nat.le_refl _) (Nat.le_refl _) (zext_rf _) ?_
      have ek : k = 60 := by omega
      subst ek
      exact hQ h hE (fun k h1 t h2 => hD.1 k h1 t h2)
    · refine z_iconst dX9_layGoes_41 (by decide) ?_
      refine z_is4 dX9_layGoes_42 (Nat.le_of_ble_eq_true rfl) rfl ?_
      refine X9_lG_t hI hF1 hhd hr7 hB1 (k := k) hs9 (by omega) (fun h9 y5 hE9 hD9 => ?_) _ 0 h _ (Nat.lt_succ_self _) (by omega) hE (zGk_R hs9 (by omega) hD)
      refine z_ii3 dX9_layGoes_135 (by omega) (Nat.le_of_ble_eq_true rfl) rfl ?_
      refine z_goto (t := 35) dX9_layGoes_138 (by rfl) ?_
      exact ih (k + 1) _ _ _ (by omega) (by omega) hE9 (zGk_S hD9)
set_option maxRecDepth 4000 in
theorem X9_layGoes_ct {l : Launch} {Γ : zC} {h0 h : zM} {Q : Option zV → zC → zM → Prop} {b : Nat → Int} {r : Int} (hI : zIv Γ h0) (hF : zfr zSS h0 h) {hd : Nat} (hhd : h0 89 32 = (hd : Int)) (hr7 : 0 ≤ r ∧ r ≤ 7) (hB : ∀ n, n ≤ 200 → h 102 n = b n) {sum : Nat} (hs9 : sum ≤ 200) (hQ : ∀ h9, (∀ q, q ≠ 103 → h9 q = h q) → (∀ k, k ≤ 60 → ∀ t, t ≤ sum → h9 103 (201 * k + t) = if zgo b r hd sum k t then 1 else 0) → Q none Γ h9) : zCT l mX9_layGoes 2 0 0 Γ [zR 89, zI (sum : Int), zI r] h Q := by
  have hΓ := hI.base
  have hx2 := hI.isl
  refine zCT_of (by decide) (Nat.le_of_ble_eq_true rfl) (ls := [some (zR 89), some (zI (sum : Int)), some (zI r), none, none, none]) rfl ?_
  refine z_iconst dX9_layGoes_0 (by decide) ?_
  refine z_is3 dX9_layGoes_1 (Nat.le_of_ble_eq_true rfl) rfl ?_
  refine X9_layGoes_0 hΓ (sum := sum) (fun h9 hE9 hD9 => ?_) _ 0 h (Nat.lt_succ_self _) (by omega) (fun q _ => rfl) (fun j hj => absurd hj (by omega))
  refine z_iconst dX9_layGoes_33 (by decide) ?_
  refine z_is3 dX9_layGoes_34 (Nat.le_of_ble_eq_true rfl) rfl ?_
  refine X9_lG_k hI hF hhd hr7 hB hs9 hQ _ 0 _ _ _ (Nat.lt_succ_self _) (by omega) hE9 ⟨fun j hj u hu => ?_, fun q h1q h2q => ?_⟩
  · have ej : j = 0 := by omega
    subst ej
    rw [hD9 _ (by omega)]
    show _ = if decide (u = sum) = true then 1 else 0
    by_cases eu : u = sum
    · rw [if_pos (by omega), if_pos (decide_eq_true eu)]
    · rw [if_neg (by omega), if_neg (fun e => eu (of_decide_eq_true e))]
  · rw [hD9 _ h2q, if_neg (by omega)]
set_option maxRecDepth 4000 in
theorem X9_isPaid_l {l : Launch} {Γ : zC} {h : zM} {Q : Option zV → zC → zM → Prop} (hΓ : zBase Γ) {b : Nat → Int} {r : Int} (hr7 : 0 ≤ r ∧ r ≤ 7) (hB : ∀ n, n ≤ 200 → h 102 n = b n) {s : Nat} {f : Nat → Bool} (hs : s ≤ 200) (hC : ∀ k, k ≤ 60 → h 103 (201 * k + s) = if f k then 1 else 0) : ∀ (m k : Nat), 61 - k < m → 1 ≤ k → k ≤ 61 → (zlf (fun k => f k && zco b r k) (61 - k) k = -1 → Q (some (zI 0)) Γ h) → (zlf (fun k => f k && zco b r k) (61 - k) k ≠ -1 → Q (some (zI 1)) Γ h) → zG (zFn l mX9_isPaid 2 0 0 Γ Q) 0 0 Γ h 2 [some (zR 89), some (zI (s : Int)), some (zI r), some (zI (k : Int))] [] := by
  intro m
  induction m with
  | zero => intros; omega
  | succ m ih =>
    intro k hm hk1 hk2 hQ0 hQ1
    refine z_il3 dX9_isPaid_2 ?_
    refine z_bipush (x := 60) dX9_isPaid_3 (by rfl) (by decide) ?_
    refine z_icmp_gt (t := 34) dX9_isPaid_5 (by rfl) (fun ht5 => ?_) (fun hf5 => ?_)
    · refine z_iconst dX9_isPaid_34 (by decide) ?_
      refine z_zret dX9_isPaid_35 rfl (Nat.le_refl _) (Nat.le_refl _) (zext_rf _) (by first | exact Or.inl rfl | exact Or.inr rfl | omega) ?_
      rw [show 61 - k = 0 by omega] at hQ0
      exact hQ0 rfl
    · refine z_al0 dX9_isPaid_8 (by first | decide | omega | assumption) ?_
      refine z_il3 dX9_isPaid_9 ?_
      refine z_il1 dX9_isPaid_10 ?_
      refine zcv2 dX9_isPaid_11 zkX9_321 ziX9_can zsX9_can (zkB hΓ rfl) (by decide) rfl (Nat.le_of_ble_eq_true rfl) (by decide) (by first | decide | omega) ⟨Nat.le_refl _, Nat.le_refl _⟩ (X9_can_ct hΓ (k := k) (t := s) (by omega) (by omega) (hC k (by omega)) (fun hc9 _ => ?_) (fun hc9 _ => ?_))
      · try simp only [zup_ap, zup_row, ne_eq, not_false_eq_true, zres, Int.toNat_natCast, reduceIte, Nat.reduceEqDiff, Nat.reduceAdd, and_self, and_true, true_and, and_false, false_and]
        refine z_if_eq (t := 28) dX9_isPaid_14 (by rfl) (fun _ => ?_) (fun hx => absurd hx (by decide))
        refine z_ii3 dX9_isPaid_28 (by omega) (Nat.le_of_ble_eq_true rfl) rfl ?_
        refine z_goto (t := 2) dX9_isPaid_31 (by rfl) ?_
        have e9 : zlf (fun k => f k && zco b r k) (61 - k) k = zlf (fun k => f k && zco b r k) (61 - (k + 1)) (k + 1) := by
          rw [show 61 - k = (61 - (k + 1)) + 1 by omega, zlf]
          refine if_neg ?_
          first
          | (rw [hp9]; simp)
          | (rw [hc9]; simp)
        rw [e9] at hQ0 hQ1
        exact ih (k + 1) (by omega) (by omega) (by omega) hQ0 hQ1
      · try simp only [zup_ap, zup_row, ne_eq, not_false_eq_true, zres, Int.toNat_natCast, reduceIte, Nat.reduceEqDiff, Nat.reduceAdd, and_self, and_true, true_and, and_false, false_and]
        refine z_if_eq (t := 28) dX9_isPaid_14 (by rfl) (fun hx => absurd hx (by decide)) (fun _ => ?_)
        refine z_al0 dX9_isPaid_17 (by first | decide | omega | assumption) ?_
        refine z_il3 dX9_isPaid_18 ?_
        refine z_il2 dX9_isPaid_19 ?_
        refine zcv2 dX9_isPaid_20 zkX9_344 ziX9_isCount zsX9_isCount (zkB hΓ rfl) (by decide) rfl (Nat.le_of_ble_eq_true rfl) (by decide) (by first | decide | omega) ⟨Nat.le_refl _, Nat.le_refl _⟩ (X9_isCount_ct hΓ hr7 hB (n := k) (by omega) (fun hp9 _ => ?_) (fun hp9 _ => ?_))
        · try simp only [zup_ap, zup_row, ne_eq, not_false_eq_true, zres, Int.toNat_natCast, reduceIte, Nat.reduceEqDiff, Nat.reduceAdd, and_self, and_true, true_and, and_false, false_and]
          refine z_if_eq (t := 28) dX9_isPaid_23 (by rfl) (fun _ => ?_) (fun hx => absurd hx (by decide))
          refine z_ii3 dX9_isPaid_28 (by omega) (Nat.le_of_ble_eq_true rfl) rfl ?_
          refine z_goto (t := 2) dX9_isPaid_31 (by rfl) ?_
          have e9 : zlf (fun k => f k && zco b r k) (61 - k) k = zlf (fun k => f k && zco b r k) (61 - (k + 1)) (k + 1) := by
            rw [show 61 - k = (61 - (k + 1)) + 1 by omega, zlf]
            refine if_neg ?_
            first
            | (rw [hp9]; simp)
            | (rw [hc9]; simp)
          rw [e9] at hQ0 hQ1
          exact ih (k + 1) (by omega) (by omega) (by omega) hQ0 hQ1
        · try simp only [zup_ap, zup_row, ne_eq, not_false_eq_true, zres, Int.toNat_natCast, reduceIte, Nat.reduceEqDiff, Nat.reduceAdd, and_self, and_true, true_and, and_false, false_and]
          refine z_if_eq (t := 28) dX9_isPaid_23 (by rfl) (fun hx => absurd hx (by decide)) (fun _ => ?_)
          refine z_iconst dX9_isPaid_26 (by decide) ?_
          refine z_zret dX9_isPaid_27 rfl (Nat.le_refl _) (Nat.le_refl _) (zext_rf _) (by first | exact Or.inl rfl | exact Or.inr rfl | omega) ?_
          rw [show 61 - k = (61 - (k + 1)) + 1 by omega, zlf, if_pos (by rw [hc9, hp9]; rfl)] at hQ1
          exact hQ1 (by omega)
set_option maxRecDepth 4000 in
theorem X9_isPaid_ct {l : Launch} {Γ : zC} {h : zM} {Q : Option zV → zC → zM → Prop} (hΓ : zBase Γ) {b : Nat → Int} {r : Int} {hd : Nat} (hr7 : 0 ≤ r ∧ r ≤ 7) (hB : ∀ n, n ≤ 200 → h 102 n = b n) {s : Nat} (hs : s ≤ 200) (hC : ∀ k, k ≤ 60 → ∀ t, t ≤ 200 → h 103 (201 * k + t) = if zcm b r hd k t then 1 else 0) (hQ0 : zpd b r hd s = false → Q (some (zI 0)) Γ h) (hQ1 : zpd b r hd s = true → Q (some (zI 1)) Γ h) : zCT l mX9_isPaid 2 0 0 Γ [zR 89, zI (s : Int), zI r] h Q := by
  refine zCT_of (by decide) (Nat.le_of_ble_eq_true rfl) (ls := [some (zR 89), some (zI (s : Int)), some (zI r), none]) rfl ?_
  refine z_iconst dX9_isPaid_0 (by decide) ?_
  refine z_is3 dX9_isPaid_1 (Nat.le_of_ble_eq_true rfl) rfl ?_
  exact X9_isPaid_l hΓ hr7 hB hs (fun k hk => hC k hk s hs) _ 1 (Nat.lt_succ_self _) (by omega) (by omega) (fun e => hQ0 (decide_eq_false (fun e2 => e2 e))) (fun e => hQ1 (decide_eq_true e))
