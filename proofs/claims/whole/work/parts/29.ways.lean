/-! in how many WAYS a SUM is paid -/
set_option maxRecDepth 4000 in
theorem J7_fill_53178_l {l : Launch} {Γ : zC} {h1 : zM} {Q : Option zV → zC → zM → Prop} {q n : Nat} {v : Int} (hq0 : q ≠ 0) (hk : zkd Γ q = some (.inr (0, n))) (hn9 : n ≤ 200000) (hQ : ∀ h9, (∀ a, a ≠ q → h9 a = h1 a) → (∀ j, j < n → h9 q j = v) → Q none Γ h9) : ∀ (m : Nat) (k : Nat) (h : zM), n - k < m → k ≤ n → (∀ a, a ≠ q → h a = h1 a) → (∀ j, j < k → h q j = v) → zG (zFn l mJ7_fill_53178 0 0 0 Γ Q) 0 0 Γ h 5 [some (zR q), some (zI v), some (zI (k : Int)), some (zI (n : Int))] [] := by
  intro m
  induction m with
  | zero => intros; omega
  | succ m ih =>
    intro k h hm hk1 hE hD
    refine z_il2 dJ7_fill_53178_5 ?_
    refine z_il3 dJ7_fill_53178_6 ?_
    refine z_icmp_ge (t := 20) dJ7_fill_53178_7 (by rfl) (fun ht7 => ?_) (fun hf7 => ?_)
    · refine z_ret dJ7_fill_53178_20 rfl (Nat.le_refl _) (Nat.le_refl _) (zext_rf _) ?_
      exact hQ h hE (fun j hj => hD j (by omega))
    · refine z_al0 dJ7_fill_53178_10 (by first | decide | omega | assumption) ?_
      refine z_il2 dJ7_fill_53178_11 ?_
      refine z_il1 dJ7_fill_53178_12 ?_
      refine z_iast dJ7_fill_53178_13 hk (by omega) (by omega) ?_
      refine z_ii2 dJ7_fill_53178_14 (by omega) (Nat.le_of_ble_eq_true rfl) rfl ?_
      refine z_goto (t := 5) dJ7_fill_53178_17 (by rfl) ?_
      refine ih (k + 1) _ (by omega) (by omega) (fun a ha => (zup_row ha).trans (hE a ha)) (fun j hj => ?_)
      by_cases ej : j = k
      · subst ej; rw [zup_ap, if_pos ⟨rfl, by omega⟩]
      · rw [zup_ap, if_neg (fun e => ej (by have := e.2; omega))]
        exact hD j (by omega)
set_option maxRecDepth 4000 in
theorem J7_fill_53178_ct {l : Launch} {Γ : zC} {h1 : zM} {Q : Option zV → zC → zM → Prop} {q n : Nat} {v : Int} (hq0 : q ≠ 0) (hk : zkd Γ q = some (.inr (0, n))) (hn9 : n ≤ 200000) (hQ : ∀ h9, (∀ a, a ≠ q → h9 a = h1 a) → (∀ j, j < n → h9 q j = v) → Q none Γ h9) : zCT l mJ7_fill_53178 0 0 0 Γ [zR q, zI v] h1 Q := by
  refine zCT_of (by decide) (Nat.le_of_ble_eq_true rfl) (ls := [some (zR q), some (zI v), none, none]) rfl ?_
  refine z_iconst dJ7_fill_53178_0 (by decide) ?_
  refine z_is2 dJ7_fill_53178_1 (Nat.le_of_ble_eq_true rfl) rfl ?_
  refine z_al0 dJ7_fill_53178_2 (by first | decide | omega | assumption) ?_
  refine z_alen dJ7_fill_53178_3 hk (by decide) ?_
  refine z_is3 dJ7_fill_53178_4 (Nat.le_of_ble_eq_true rfl) rfl ?_
  exact J7_fill_53178_l hq0 hk hn9 hQ _ 0 _ (Nat.lt_succ_self _) (by omega) (fun _ _ => rfl) (fun j hj => absurd hj (by omega))
set_option maxRecDepth 4000 in
theorem J7_fill_d0a16_l {l : Launch} {Γ : zC} {h1 : zM} {Q : Option zV → zC → zM → Prop} {q n : Nat} {v : Int} (hq0 : q ≠ 0) (hk : zkd Γ q = some (.inr (3, n))) (hn9 : n ≤ 200000) (hQ : ∀ h9, (∀ a, a ≠ q → h9 a = h1 a) → (∀ j, j < n → h9 q j = v) → Q none Γ h9) : ∀ (m : Nat) (k : Nat) (h : zM), n - k < m → k ≤ n → (∀ a, a ≠ q → h a = h1 a) → (∀ j, j < k → h q j = v) → zG (zFn l mJ7_fill_d0a16 0 0 0 Γ Q) 0 0 Γ h 6 [some (zR q), some (zL v), none, some (zI (k : Int)), some (zI (n : Int))] [] := by
  intro m
  induction m with
  | zero => intros; omega
  | succ m ih =>
    intro k h hm hk1 hE hD
    refine z_il3 dJ7_fill_d0a16_6 ?_
    refine z_il4 dJ7_fill_d0a16_7 ?_
    refine z_icmp_ge (t := 22) dJ7_fill_d0a16_9 (by rfl) (fun ht9 => ?_) (fun hf9 => ?_)
    · refine z_ret dJ7_fill_d0a16_22 rfl (Nat.le_refl _) (Nat.le_refl _) (zext_rf _) ?_
      exact hQ h hE (fun j hj => hD j (by omega))
    · refine z_al0 dJ7_fill_d0a16_12 (by first | decide | omega | assumption) ?_
      refine z_il3 dJ7_fill_d0a16_13 ?_
      refine z_ll1 dJ7_fill_d0a16_14 ?_
      refine z_last dJ7_fill_d0a16_15 hk (by omega) (by omega) ?_
      refine z_ii3 dJ7_fill_d0a16_16 (by omega) (Nat.le_of_ble_eq_true rfl) rfl ?_
      refine z_goto (t := 6) dJ7_fill_d0a16_19 (by rfl) ?_
      refine ih (k + 1) _ (by omega) (by omega) (fun a ha => (zup_row ha).trans (hE a ha)) (fun j hj => ?_)
      by_cases ej : j = k
      · subst ej; rw [zup_ap, if_pos ⟨rfl, by omega⟩]
      · rw [zup_ap, if_neg (fun e => ej (by have := e.2; omega))]
        exact hD j (by omega)
set_option maxRecDepth 4000 in
theorem J7_fill_d0a16_ct {l : Launch} {Γ : zC} {h1 : zM} {Q : Option zV → zC → zM → Prop} {q n : Nat} {v : Int} (hq0 : q ≠ 0) (hk : zkd Γ q = some (.inr (3, n))) (hn9 : n ≤ 200000) (hQ : ∀ h9, (∀ a, a ≠ q → h9 a = h1 a) → (∀ j, j < n → h9 q j = v) → Q none Γ h9) : zCT l mJ7_fill_d0a16 0 0 0 Γ [zR q, zL v] h1 Q := by
  refine zCT_of (by decide) (Nat.le_of_ble_eq_true rfl) (ls := [some (zR q), some (zL v), none, none, none]) rfl ?_
  refine z_iconst dJ7_fill_d0a16_0 (by decide) ?_
  refine z_is3 dJ7_fill_d0a16_1 (Nat.le_of_ble_eq_true rfl) rfl ?_
  refine z_al0 dJ7_fill_d0a16_2 (by first | decide | omega | assumption) ?_
  refine z_alen dJ7_fill_d0a16_3 hk (by decide) ?_
  refine z_is4 dJ7_fill_d0a16_4 (Nat.le_of_ble_eq_true rfl) rfl ?_
  exact J7_fill_d0a16_l hq0 hk hn9 hQ _ 0 _ (Nat.lt_succ_self _) (by omega) (fun _ _ => rfl) (fun j hj => absurd hj (by omega))
def zsm (f : Nat → Int) : Nat → Int
  | 0 => 0
  | m + 1 => zsm f m + f (m + 1)
theorem zsm_cg {f g : Nat → Int} : ∀ m, (∀ p, 1 ≤ p → p ≤ m → f p = g p) → zsm f m = zsm g m
  | 0, _ => rfl
  | m + 1, h => by rw [zsm, zsm, zsm_cg m (fun p a b => h p a (by omega)), h (m + 1) (by omega) (Nat.le_refl _)]
theorem zsm_b {f : Nat → Int} {B : Int} : ∀ m : Nat, (∀ p, 1 ≤ p → p ≤ m → 0 ≤ f p ∧ f p ≤ B) → 0 ≤ zsm f m ∧ zsm f m ≤ m * B
  | 0, _ => ⟨Int.le_refl _, by show (0 : Int) ≤ ((0 : Nat) : Int) * B; simp⟩
  | m + 1, h => by
    have h1 := zsm_b m (fun p a b => h p a (by omega))
    have h2 := h (m + 1) (by omega) (Nat.le_refl _)
    rw [zsm]
    have e : ((m + 1 : Nat) : Int) * B = (m : Int) * B + B := by rw [Int.natCast_add, Int.add_mul]; simp
    omega
theorem zite_b {c : Prop} [Decidable c] {x B : Int} (h : 0 ≤ x ∧ x ≤ B) (hB : 0 ≤ B) : 0 ≤ (if c then x else 0) ∧ (if c then x else 0) ≤ B := by
  split
  · exact h
  · exact ⟨Int.le_refl _, hB⟩
/-- in how many ways so many PARTS come to a total -/
def zwy (b : Nat → Int) (r : Int) (hd : Nat) : Nat → Nat → Int
  | 0, t => if t = 0 then 1 else 0
  | k + 1, t => zsm (fun p => if zto b r t && zpt b r p then zwy b r hd k (t - p) else 0) (min hd t)
theorem zwy_b (b : Nat → Int) (r : Int) (hd : Nat) (hd9 : hd ≤ 20) : ∀ k t, 0 ≤ zwy b r hd k t ∧ zwy b r hd k t ≤ (20 : Int) ^ k
  | 0, t => by
    show 0 ≤ (if t = 0 then (1 : Int) else 0) ∧ (if t = 0 then (1 : Int) else 0) ≤ 1
    split <;> decide
  | k + 1, t => by
    have h1 := zsm_b (f := fun p => if zto b r t && zpt b r p then zwy b r hd k (t - p) else 0) (B := (20 : Int) ^ k) (min hd t) (fun p _ _ => by
      have h2 := zwy_b b r hd hd9 k (t - p)
      exact zite_b h2 (by omega))
    refine ⟨h1.1, Int.le_trans h1.2 ?_⟩
    rw [Int.pow_succ, Int.mul_comm]
    exact Int.mul_le_mul_of_nonneg_left (by omega) (by have h2 := zwy_b b r hd hd9 k 0; omega)
theorem zp20 {k : Nat} (h : k ≤ 8) : (20 : Int) ^ k ≤ 25600000000 := by
  rcases (show k = 0 ∨ k = 1 ∨ k = 2 ∨ k = 3 ∨ k = 4 ∨ k = 5 ∨ k = 6 ∨ k = 7 ∨ k = 8 by omega) with rfl | rfl | rfl | rfl | rfl | rfl | rfl | rfl | rfl <;> decide
theorem zsm_w {b : Nat → Int} {r : Int} {hd k t p : Nat} (hd9 : hd ≤ 20) (hk : k ≤ 7) (hp : p ≤ 20) : 0 ≤ zsm (fun p => if zto b r t && zpt b r p then zwy b r hd k (t - p) else 0) p ∧ zsm (fun p => if zto b r t && zpt b r p then zwy b r hd k (t - p) else 0) p ≤ 512000000000 := by
  have h1 := zsm_b (f := fun p => if zto b r t && zpt b r p then zwy b r hd k (t - p) else 0) (B := 25600000000) p (fun p _ _ => by
    have h2 := zwy_b b r hd hd9 k (t - p)
    have h3 := zp20 (k := k) (by omega)
    exact zite_b ⟨h2.1, by omega⟩ (by omega))
  omega
theorem zwy_f {b : Nat → Int} {r : Int} {hd k t : Nat} (h : zto b r t = false) : ∀ p, zsm (fun p => if zto b r t && zpt b r p then zwy b r hd k (t - p) else 0) p = 0
  | 0 => rfl
  | p + 1 => by rw [zsm, zwy_f h p, h]; rfl
set_option maxRecDepth 4000 in
theorem X4_wB_l {l : Launch} {Γ : zC} {h : zM} {Q : Option zV → zC → zM → Prop} (hΓ : zBase Γ) {b : Nat → Int} {r : Int} {hd : Nat} (hP : zPu h b r hd) (hd9 : hd ≤ 20) {k t : Nat} (hk : k ≤ 7) (ht : t ≤ 200) (ht9 : zto b r t = true) (hW : ∀ u, u < t → h 44 u = zwy b r hd k u) : ∀ (m : Nat) (p : Nat), hd + 1 - p < m → p ≤ min hd t → Q (some (zL (zsm (fun p => if zto b r t && zpt b r p then zwy b r hd k (t - p) else 0) (min hd t)))) Γ h → zG (zFn l mX4_waysBefore 2 0 0 Γ Q) 0 0 Γ h 5 [some (zR 41), some (zI (t : Int)), some (zL (zsm (fun p => if zto b r t && zpt b r p then zwy b r hd k (t - p) else 0) p)), none, some (zI ((p + 1 : Nat) : Int))] [] := by
  intro m
  induction m with
  | zero => intros; omega
  | succ m ih =>
    intro p hm hp hQ
    have hr7 := hP.2.2.2.1
    have hb9 := zsm_w (b := b) (r := r) (t := t) hd9 hk (p := p) (by omega)
    refine z_il4 dX4_waysBefore_5 ?_
    refine z_al0 dX4_waysBefore_7 (by first | decide | omega | assumption) ?_
    refine z_getI zfX4_27 dX4_waysBefore_8 (zkB hΓ rfl) rfl ?_
    rw [hP.2.2.1]
    try simp only [zup_ap, zup_row, ne_eq, not_false_eq_true, zres, Int.toNat_natCast, reduceIte, Nat.reduceEqDiff, Nat.reduceAdd, and_self, and_true, true_and, and_false, false_and]
    refine z_icmp_gt (t := 47) dX4_waysBefore_11 (by rfl) (fun ht11 => ?_) (fun hf11 => ?_)
    · refine z_ll2 dX4_waysBefore_47 ?_
      refine z_lret dX4_waysBefore_48 rfl (Nat.le_refl _) (Nat.le_refl _) (zext_rf _) (fun hrr => ?_)
      have ep : p = min hd t := by omega
      subst ep
      exact hQ
    · refine z_il4 dX4_waysBefore_14 ?_
      refine z_il1 dX4_waysBefore_16 ?_
      refine z_icmp_gt (t := 47) dX4_waysBefore_17 (by rfl) (fun ht17 => ?_) (fun hf17 => ?_)
      · refine z_ll2 dX4_waysBefore_47 ?_
        refine z_lret dX4_waysBefore_48 rfl (Nat.le_refl _) (Nat.le_refl _) (zext_rf _) (fun hrr => ?_)
        have ep : p = min hd t := by omega
        subst ep
        exact hQ
      · refine z_al0 dX4_waysBefore_20 (by first | decide | omega | assumption) ?_
        refine z_il4 dX4_waysBefore_21 ?_
        refine zcv1 dX4_waysBefore_23 zkX4_34 ziX4_isPart zsX4_isPart (zkB hΓ rfl) (by decide) rfl (Nat.le_of_ble_eq_true rfl) (by decide) (by first | decide | omega) ⟨Nat.le_refl _, Nat.le_refl _⟩ (X4_isPart_ct hΓ hP (n := p + 1) (by omega) (fun hp9 _ => ?_) (fun hp9 _ => ?_))
        · try simp only [zup_ap, zup_row, ne_eq, not_false_eq_true, zres, Int.toNat_natCast, reduceIte, Nat.reduceEqDiff, Nat.reduceAdd, and_self, and_true, true_and, and_false, false_and]
          refine z_if_eq (t := 41) dX4_waysBefore_26 (by rfl) (fun _ => ?_) (fun hx => absurd hx (by decide))
          refine z_ii4 dX4_waysBefore_41 (by omega) (Nat.le_of_ble_eq_true rfl) rfl ?_
          refine z_goto (t := 5) dX4_waysBefore_44 (by rfl) ?_
          have ih9 := ih (p + 1) (by omega) (by omega) hQ
          rw [zsm] at ih9
          first
          | (rw [if_pos (show (zto b r t && zpt b r (p + 1)) = true by rw [ht9, hp9]; rfl)] at ih9; exact ih9)
          | (rw [if_neg (show ¬ (zto b r t && zpt b r (p + 1)) = true by rw [ht9, hp9]; decide), Int.add_zero] at ih9; exact ih9)
        · try simp only [zup_ap, zup_row, ne_eq, not_false_eq_true, zres, Int.toNat_natCast, reduceIte, Nat.reduceEqDiff, Nat.reduceAdd, and_self, and_true, true_and, and_false, false_and]
          refine z_if_eq (t := 41) dX4_waysBefore_26 (by rfl) (fun hx => absurd hx (by decide)) (fun _ => ?_)
          refine z_ll2 dX4_waysBefore_29 ?_
          refine z_al0 dX4_waysBefore_30 (by first | decide | omega | assumption) ?_
          refine z_getR zfX4_19 dX4_waysBefore_31 (zkB hΓ rfl) rfl (zsB hΓ rfl) (zvB hΓ (by decide)) ?_
          refine z_il1 dX4_waysBefore_34 ?_
          refine z_il4 dX4_waysBefore_35 ?_
          refine z_isub dX4_waysBefore_37 (by omega) ?_
          refine z_lald dX4_waysBefore_38 (zkB hΓ rfl) (by omega) (by omega) ?_
          rw [show ((t : Int) - ((p + 1 : Nat) : Int)).toNat = t - (p + 1) by omega, hW (t - (p + 1)) (by omega)]
          try simp only [zup_ap, zup_row, ne_eq, not_false_eq_true, zres, Int.toNat_natCast, reduceIte, Nat.reduceEqDiff, Nat.reduceAdd, and_self, and_true, true_and, and_false, false_and]
          refine z_ladd dX4_waysBefore_39 (by show zo64 _; unfold zo64; have h7 := zwy_b b r hd hd9 k (t - (p + 1)); have h8 := zp20 (k := k) (by omega); omega) ?_
          refine z_ls2 dX4_waysBefore_40 (Nat.le_of_ble_eq_true rfl) rfl ?_
          refine z_ii4 dX4_waysBefore_41 (by omega) (Nat.le_of_ble_eq_true rfl) rfl ?_
          refine z_goto (t := 5) dX4_waysBefore_44 (by rfl) ?_
          have ih9 := ih (p + 1) (by omega) (by omega) hQ
          rw [zsm] at ih9
          first
          | (rw [if_pos (show (zto b r t && zpt b r (p + 1)) = true by rw [ht9, hp9]; rfl)] at ih9; exact ih9)
          | (rw [if_neg (show ¬ (zto b r t && zpt b r (p + 1)) = true by rw [ht9, hp9]; decide), Int.add_zero] at ih9; exact ih9)
set_option maxRecDepth 4000 in
theorem X4_waysBefore_ct {l : Launch} {Γ : zC} {h : zM} {Q : Option zV → zC → zM → Prop} (hΓ : zBase Γ) {b : Nat → Int} {r : Int} {hd : Nat} (hP : zPu h b r hd) (hd9 : hd ≤ 20) {k t : Nat} (hk : k ≤ 7) (ht : t ≤ 200) (ht9 : zto b r t = true) (hW : ∀ u, u < t → h 44 u = zwy b r hd k u) (hQ : Q (some (zL (zwy b r hd (k + 1) t))) Γ h) : zCT l mX4_waysBefore 2 0 0 Γ [zR 41, zI (t : Int)] h Q := by
  refine zCT_of (by decide) (Nat.le_of_ble_eq_true rfl) (ls := [some (zR 41), some (zI (t : Int)), none, none, none]) rfl ?_
  refine z_lconst (x := 0) dX4_waysBefore_0 (by rfl) (by decide) ?_
  refine z_ls2 dX4_waysBefore_1 (Nat.le_of_ble_eq_true rfl) rfl ?_
  refine z_iconst dX4_waysBefore_2 (by decide) ?_
  refine z_is4 dX4_waysBefore_3 (Nat.le_of_ble_eq_true rfl) rfl ?_
  exact X4_wB_l hΓ hP hd9 hk ht ht9 hW _ 0 (Nat.lt_succ_self _) (Nat.zero_le _) hQ
set_option maxRecDepth 4000 in
theorem X4_rw_t {l : Launch} {Γ : zC} {h1 : zM} {Q : Option zV → zC → zM → Prop} (hΓ : zBase Γ) {b : Nat → Int} {r : Int} {hd : Nat} (hd9 : hd ≤ 20) {k s P : Nat} (hk : k ≤ 7) (hs : s ≤ 200) (hK : ∀ h9 {t : Int}, (∀ q, q ≠ 44 → h9 q = h1 q) → (∀ u, u ≤ s → h9 44 u = zwy b r hd (k + 1) u) → zG (zFn l mX4_rows 3 0 0 Γ Q) 0 0 Γ h9 84 [some (zR 41), some (zI (s : Int)), some (zI (P : Int)), some (zI (k : Int)), some (zI t)] []) : ∀ (m : Nat) (t9 : Int) (h : zM), t9 + 1 < m → -1 ≤ t9 → t9 ≤ s → zPu h b r hd → (∀ q, q ≠ 44 → h q = h1 q) → (∀ u : Nat, t9 < u → u ≤ s → h 44 u = zwy b r hd (k + 1) u) → (∀ u : Nat, (u : Int) ≤ t9 → h 44 u = zwy b r hd k u) → zG (zFn l mX4_rows 3 0 0 Γ Q) 0 0 Γ h 47 [some (zR 41), some (zI (s : Int)), some (zI (P : Int)), some (zI (k : Int)), some (zI t9)] [] := by
  intro m
  induction m with
  | zero => intros; omega
  | succ m ih =>
    intro t9 h hm ht1 ht2 hP hE hU hL
    refine z_il4 dX4_rows_47 ?_
    refine z_if_lt (t := 84) dX4_rows_49 (by rfl) (fun ht49 => ?_) (fun hf49 => ?_)
    · exact hK h hE (fun u hu => hU u (by omega) hu)
    · obtain ⟨t, rfl⟩ := Int.eq_ofNat_of_zero_le (show 0 ≤ t9 by omega)
      refine z_al0 dX4_rows_52 (by first | decide | omega | assumption) ?_
      refine z_getR zfX4_19 dX4_rows_53 (zkB hΓ rfl) rfl (zsB hΓ rfl) (zvB hΓ (by decide)) ?_
      refine z_il4 dX4_rows_56 ?_
      refine z_al0 dX4_rows_58 (by first | decide | omega | assumption) ?_
      refine z_il4 dX4_rows_59 ?_
      refine zcv1 dX4_rows_61 zkX4_38 ziX4_isTotal zsX4_isTotal (zkB hΓ rfl) (by decide) rfl (Nat.le_of_ble_eq_true rfl) (by decide) (by first | decide | omega) ⟨Nat.le_refl _, Nat.le_refl _⟩ (X4_isTotal_ct hΓ hP (n := t) (by omega) (fun ht9 _ => ?_) (fun ht9 _ => ?_))
      · try simp only [zup_ap, zup_row, ne_eq, not_false_eq_true, zres, Int.toNat_natCast, reduceIte, Nat.reduceEqDiff, Nat.reduceAdd, and_self, and_true, true_and, and_false, false_and]
        refine z_if_eq (t := 76) dX4_rows_64 (by rfl) (fun _ => ?_) (fun hx => absurd hx (by decide))
        refine z_lconst (x := 0) dX4_rows_76 (by rfl) (by decide) ?_
        refine z_last dX4_rows_77 (zkB hΓ rfl) (by omega) (by omega) ?_
        refine z_ii4 dX4_rows_78 (by omega) (Nat.le_of_ble_eq_true rfl) rfl ?_
        refine z_goto (t := 47) dX4_rows_81 (by rfl) ?_
        refine ih ((t : Int) + -1) _ (by omega) (by omega) (by omega) (zPu_cg hP (fun q _ h2 _ => zup_row h2)) (fun q hq => (zup_row hq).trans (hE q hq)) (fun u hu hu2 => ?_) (fun u hu => ?_)
        · by_cases eu : u = t
          · subst eu
            rw [zup_ap]
            refine (if_pos ⟨rfl, by omega⟩).trans ?_
            first
            | rfl
            | (show 0 = zsm _ _; rw [zwy_f ht9])
          · rw [zup_ap, if_neg (fun e => eu (by have := e.2; omega))]
            exact hU u (by omega) hu2
        · rw [zup_ap, if_neg (fun e => (by have := e.2; omega))]
          exact hL u (by omega)
      · try simp only [zup_ap, zup_row, ne_eq, not_false_eq_true, zres, Int.toNat_natCast, reduceIte, Nat.reduceEqDiff, Nat.reduceAdd, and_self, and_true, true_and, and_false, false_and]
        refine z_if_eq (t := 76) dX4_rows_64 (by rfl) (fun hx => absurd hx (by decide)) (fun _ => ?_)
        refine z_al0 dX4_rows_67 (by first | decide | omega | assumption) ?_
        refine z_il4 dX4_rows_68 ?_
        refine zcv1 dX4_rows_70 zkX4_67 ziX4_waysBefore zsX4_waysBefore (zkB hΓ rfl) (by decide) rfl (Nat.le_of_ble_eq_true rfl) (by decide) (by first | decide | omega) ⟨Nat.le_refl _, Nat.le_refl _⟩ (X4_waysBefore_ct hΓ hP hd9 hk (by omega) ht9 (fun u hu => hL u (by omega)) (fun _ => ?_))
        try simp only [zup_ap, zup_row, ne_eq, not_false_eq_true, zres, Int.toNat_natCast, reduceIte, Nat.reduceEqDiff, Nat.reduceAdd, and_self, and_true, true_and, and_false, false_and]
        refine z_goto (t := 77) dX4_rows_73 (by rfl) ?_
        refine z_last dX4_rows_77 (zkB hΓ rfl) (by omega) (by omega) ?_
        refine z_ii4 dX4_rows_78 (by omega) (Nat.le_of_ble_eq_true rfl) rfl ?_
        refine z_goto (t := 47) dX4_rows_81 (by rfl) ?_
        refine ih ((t : Int) + -1) _ (by omega) (by omega) (by omega) (zPu_cg hP (fun q _ h2 _ => zup_row h2)) (fun q hq => (zup_row hq).trans (hE q hq)) (fun u hu hu2 => ?_) (fun u hu => ?_)
        · by_cases eu : u = t
          · subst eu
            rw [zup_ap]
            refine (if_pos ⟨rfl, by omega⟩).trans ?_
            first
            | rfl
            | (show 0 = zsm _ _; rw [zwy_f ht9])
          · rw [zup_ap, if_neg (fun e => eu (by have := e.2; omega))]
            exact hU u (by omega) hu2
        · rw [zup_ap, if_neg (fun e => (by have := e.2; omega))]
          exact hL u (by omega)
set_option maxRecDepth 4000 in
theorem X4_rw_k {l : Launch} {Γ : zC} {h1 : zM} {Q : Option zV → zC → zM → Prop} (hΓ : zBase Γ) {b : Nat → Int} {r : Int} {hd : Nat} (hd9 : hd ≤ 20) {s P : Nat} (hP8 : P ≤ 8) (hs : s ≤ 200) (hQ : ∀ h9, (∀ q, q ≠ 44 → h9 q = h1 q) → Q (some (zL (zwy b r hd P s))) Γ h9) : ∀ (m : Nat) (k : Nat) (h : zM) (y4 : Option zV), P - k < m → k ≤ P → zPu h b r hd → (∀ q, q ≠ 44 → h q = h1 q) → (∀ u : Nat, u ≤ s → h 44 u = zwy b r hd k u) → zG (zFn l mX4_rows 3 0 0 Γ Q) 0 0 Γ h 39 [some (zR 41), some (zI (s : Int)), some (zI (P : Int)), some (zI (k : Int)), y4] [] := by
  intro m
  induction m with
  | zero => intros; omega
  | succ m ih =>
    intro k h y4 hm hk hP hE hL
    refine z_il3 dX4_rows_39 ?_
    refine z_il2 dX4_rows_40 ?_
    refine z_icmp_ge (t := 90) dX4_rows_41 (by rfl) (fun ht41 => ?_) (fun hf41 => ?_)
    · refine z_al0 dX4_rows_90 (by first | decide | omega | assumption) ?_
      refine z_getR zfX4_19 dX4_rows_91 (zkB hΓ rfl) rfl (zsB hΓ rfl) (zvB hΓ (by decide)) ?_
      refine z_il1 dX4_rows_94 ?_
      refine z_lald dX4_rows_95 (zkB hΓ rfl) (by omega) (by omega) ?_
      try simp only [zup_ap, zup_row, ne_eq, not_false_eq_true, zres, Int.toNat_natCast, reduceIte, Nat.reduceEqDiff, Nat.reduceAdd, and_self, and_true, true_and, and_false, false_and]
      refine z_lret dX4_rows_96 rfl (Nat.le_refl _) (Nat.le_refl _) (zext_rf _) (fun hrr => ?_)
      have ek : k = P := by omega
      subst ek
      rw [hL s (Nat.le_refl _)]
      exact hQ h hE
    · refine z_il1 dX4_rows_44 ?_
      refine z_is4 dX4_rows_45 (Nat.le_of_ble_eq_true rfl) rfl ?_
      refine X4_rw_t hΓ hd9 (k := k) (s := s) (P := P) (by omega) hs (fun h9 t hE9 hU9 => ?_) (s + 2) (s : Int) h (by omega) (by omega) (by omega) hP (fun q _ => rfl) (fun u h1 h2 => absurd h1 (by omega)) (fun u hu => hL u (by omega))
      refine z_ii3 dX4_rows_84 (by omega) (Nat.le_of_ble_eq_true rfl) rfl ?_
      refine z_goto (t := 39) dX4_rows_87 (by rfl) ?_
      exact ih (k + 1) _ _ (by omega) (by omega) (zPu_cg hP (fun q _ h2 _ => hE9 q h2)) (fun q hq => (hE9 q hq).trans (hE q hq)) hU9
set_option maxRecDepth 4000 in
theorem X4_rows_ct {l : Launch} {Γ : zC} {h : zM} {Q : Option zV → zC → zM → Prop} (hΓ : zBase Γ) {b : Nat → Int} {r : Int} {hd : Nat} (hP : zPu h b r hd) (hd9 : hd ≤ 20) {s P : Nat} (hP8 : P ≤ 8) (hs1 : 1 ≤ s) (hs : s ≤ 200) (hQ : ∀ h9, (∀ q, q ≠ 44 → h9 q = h q) → Q (some (zL (if zco b r P then zwy b r hd P s else 0))) Γ h9) : zCT l mX4_rows 3 0 0 Γ [zR 41, zI (s : Int), zI (P : Int)] h Q := by
  refine zCT_of (by decide) (Nat.le_of_ble_eq_true rfl) (ls := [some (zR 41), some (zI (s : Int)), some (zI (P : Int)), none, none]) rfl ?_
  refine z_il1 dX4_rows_0 ?_
  refine z_iconst dX4_rows_1 (by decide) ?_
  refine z_icmp_lt (t := 20) dX4_rows_2 (by rfl) (fun ht2 => ?_) (fun hf2 => ?_)
  · refine z_lconst (x := 0) dX4_rows_20 (by rfl) (by decide) ?_
    refine z_lret dX4_rows_21 rfl (Nat.le_refl _) (Nat.le_refl _) (zext_rf _) (fun hrr => ?_)
    first
    | (exfalso; omega)
    | (have hw9 := hQ h (fun _ _ => rfl)
       rw [if_neg (by rw [hp9]; decide)] at hw9
       exact hw9)
  · refine z_il1 dX4_rows_5 ?_
    refine z_sipush (x := 200) dX4_rows_6 (by rfl) (by decide) ?_
    refine z_icmp_gt (t := 20) dX4_rows_9 (by rfl) (fun ht9 => ?_) (fun hf9 => ?_)
    · refine z_lconst (x := 0) dX4_rows_20 (by rfl) (by decide) ?_
      refine z_lret dX4_rows_21 rfl (Nat.le_refl _) (Nat.le_refl _) (zext_rf _) (fun hrr => ?_)
      first
      | (exfalso; omega)
      | (have hw9 := hQ h (fun _ _ => rfl)
         rw [if_neg (by rw [hp9]; decide)] at hw9
         exact hw9)
    · refine z_al0 dX4_rows_12 (by first | decide | omega | assumption) ?_
      refine z_il2 dX4_rows_13 ?_
      refine zcv1 dX4_rows_14 zkX4_58 ziX4_isCount zsX4_isCount (zkB hΓ rfl) (by decide) rfl (Nat.le_of_ble_eq_true rfl) (by decide) (by first | decide | omega) ⟨Nat.le_refl _, Nat.le_refl _⟩ (X4_isCount_ct hΓ hP (n := P) (by omega) (fun hp9 _ => ?_) (fun hp9 _ => ?_))
      · try simp only [zup_ap, zup_row, ne_eq, not_false_eq_true, zres, Int.toNat_natCast, reduceIte, Nat.reduceEqDiff, Nat.reduceAdd, and_self, and_true, true_and, and_false, false_and]
        refine z_if_ne (t := 22) dX4_rows_17 (by rfl) (fun hx => absurd hx (by decide)) (fun _ => ?_)
        refine z_lconst (x := 0) dX4_rows_20 (by rfl) (by decide) ?_
        refine z_lret dX4_rows_21 rfl (Nat.le_refl _) (Nat.le_refl _) (zext_rf _) (fun hrr => ?_)
        first
        | (exfalso; omega)
        | (have hw9 := hQ h (fun _ _ => rfl)
           rw [if_neg (by rw [hp9]; decide)] at hw9
           exact hw9)
      · try simp only [zup_ap, zup_row, ne_eq, not_false_eq_true, zres, Int.toNat_natCast, reduceIte, Nat.reduceEqDiff, Nat.reduceAdd, and_self, and_true, true_and, and_false, false_and]
        refine z_if_ne (t := 22) dX4_rows_17 (by rfl) (fun _ => ?_) (fun hx => absurd hx (by decide))
        refine z_al0 dX4_rows_22 (by first | decide | omega | assumption) ?_
        refine z_getR zfX4_19 dX4_rows_23 (zkB hΓ rfl) rfl (zsB hΓ rfl) (zvB hΓ (by decide)) ?_
        refine z_lconst (x := 0) dX4_rows_26 (by rfl) (by decide) ?_
        refine zcs2 dX4_rows_27 zkX4_61 ztJ7_fill_d0a16 (Nat.le_of_ble_eq_true rfl) (by decide) (by first | decide | omega) ⟨Nat.le_refl _, Nat.le_refl _⟩ (J7_fill_d0a16_ct (by decide) (zkB hΓ rfl) (by decide) (fun h2 hE2 hD2 _ => ?_))
        try simp only [zup_ap, zup_row, ne_eq, not_false_eq_true, zres, Int.toNat_natCast, reduceIte, Nat.reduceEqDiff, Nat.reduceAdd, and_self, and_true, true_and, and_false, false_and]
        refine z_al0 dX4_rows_30 (by first | decide | omega | assumption) ?_
        refine z_getR zfX4_19 dX4_rows_31 (zkB hΓ rfl) rfl (zsB hΓ rfl) (zvB hΓ (by decide)) ?_
        refine z_iconst dX4_rows_34 (by decide) ?_
        refine z_lconst (x := 1) dX4_rows_35 (by rfl) (by decide) ?_
        refine z_last dX4_rows_36 (zkB hΓ rfl) (by omega) (by omega) ?_
        refine z_iconst dX4_rows_37 (by decide) ?_
        refine z_is3 dX4_rows_38 (Nat.le_of_ble_eq_true rfl) rfl ?_
        refine X4_rw_k hΓ hd9 hP8 hs (fun h9 hE9 => ?_) _ 0 _ _ (Nat.lt_succ_self _) (Nat.zero_le _) (zPu_cg hP (fun q _ h2 _ => (zup_row h2).trans (hE2 q h2))) (fun q hq => (zup_row hq).trans (hE2 q hq)) (fun u hu => ?_)
        · have hw9 := hQ _ hE9
          rw [if_pos hp9] at hw9
          exact hw9
        · rw [zup_ap]
          show _ = if u = 0 then (1 : Int) else 0
          by_cases eu : u = 0
          · rw [if_pos ⟨rfl, by omega⟩, if_pos eu]
          · rw [if_neg (fun e => eu (by have := e.2; omega)), if_neg eu, hD2 u (by omega)]
def zvWays (h : zM) (i s r k : Int) : Int := if ((0 ≤ i ∧ i < h 89 22) ∧ (1 ≤ s ∧ s ≤ 200) ∧ (0 ≤ r ∧ r ≤ 7)) ∧ 1 ≤ k ∧ k ≤ 8 then (if zco (zbF h i (h 89 29)) r k.toNat then zwy (zbF h i (h 89 29)) r (h 89 32).toNat k.toNat s.toNat else 0) else -1
set_option maxRecDepth 4000 in
theorem X8_ways_ct {l : Launch} {Γ : zC} {h0 h : zM} {Q : Option zV → zC → zM → Prop} {i s r k : Int} (hI : zIv Γ h0) (hF : zfr zSS h0 h) (hO : h0 89 30 = -1) (hQ : ∀ h9, zfr zSS h0 h9 → Q (some (zL (zvWays h0 i s r k))) Γ h9) : zCT l mX8_ways 5 0 0 Γ [zR 1, zI i, zI s, zI r, zI k] h Q := by
  have hΓ := hI.base
  have hx2 := hI.isl
  have hx3 := hI.hnd
  obtain ⟨hd, hhd⟩ := Int.eq_ofNat_of_zero_le (show 0 ≤ h0 89 32 by omega)
  have hdn : (h0 89 32).toNat = hd := by omega
  have hnw := hI.now
  refine zCT_of (by decide) (Nat.le_of_ble_eq_true rfl) (ls := [some (zR 1), some (zI i), some (zI s), some (zI r), some (zI k)]) rfl ?_
  refine z_al0 dX8_ways_0 (by first | decide | omega | assumption) ?_
  refine z_il1 dX8_ways_1 ?_
  refine z_il2 dX8_ways_2 ?_
  refine z_il3 dX8_ways_3 ?_
  refine zcv3 dX8_ways_4 zkX8_149 ziX8_isPayment zsX8_isPayment (zkB hΓ rfl) (by decide) rfl (Nat.le_of_ble_eq_true rfl) (by decide) (by first | decide | omega) ⟨Nat.le_refl _, Nat.le_refl _⟩ (X8_isPayment_ct hI hF (fun hg1 _ => ?_) (fun hg1 _ => ?_))
  · try simp only [zup_ap, zup_row, ne_eq, not_false_eq_true, zres, Int.toNat_natCast, reduceIte, Nat.reduceEqDiff, Nat.reduceAdd, and_self, and_true, true_and, and_false, false_and]
    refine z_if_eq (t := 23) dX8_ways_7 (by rfl) (fun _ => ?_) (fun hx => absurd hx (by decide))
    refine z_ldc2 (x := -1) dX8_ways_23 zqX8_159 (by decide) ?_
    refine z_lret dX8_ways_26 rfl (Nat.le_refl _) (Nat.le_refl _) (zext_rf _) (fun hrr => ?_)
    have hw9 := hQ _ hF
    unfold zvWays at hw9
    rw [if_neg (by omega)] at hw9
    exact hw9
  · try simp only [zup_ap, zup_row, ne_eq, not_false_eq_true, zres, Int.toNat_natCast, reduceIte, Nat.reduceEqDiff, Nat.reduceAdd, and_self, and_true, true_and, and_false, false_and]
    refine z_if_eq (t := 23) dX8_ways_7 (by rfl) (fun hx => absurd hx (by decide)) (fun _ => ?_)
    refine z_il4 dX8_ways_10 ?_
    refine z_iconst dX8_ways_12 (by decide) ?_
    refine z_icmp_lt (t := 23) dX8_ways_13 (by rfl) (fun ht13 => ?_) (fun hf13 => ?_)
    · refine z_ldc2 (x := -1) dX8_ways_23 zqX8_159 (by decide) ?_
      refine z_lret dX8_ways_26 rfl (Nat.le_refl _) (Nat.le_refl _) (zext_rf _) (fun hrr => ?_)
      have hw9 := hQ _ hF
      unfold zvWays at hw9
      rw [if_neg (by omega)] at hw9
      exact hw9
    · refine z_il4 dX8_ways_16 ?_
      refine z_bipush (x := 8) dX8_ways_18 (by rfl) (by decide) ?_
      refine z_icmp_le (t := 27) dX8_ways_20 (by rfl) (fun ht20 => ?_) (fun hf20 => ?_)
      · refine z_al0 dX8_ways_27 (by first | decide | omega | assumption) ?_
        refine z_il1 dX8_ways_28 ?_
        refine z_al0 dX8_ways_29 (by first | decide | omega | assumption) ?_
        refine z_getI zfX8_79 dX8_ways_30 (zkB hΓ rfl) rfl ?_
        rw [hF 1 11 rfl, hI.hnd.1, hhd]
        try simp only [zup_ap, zup_row, ne_eq, not_false_eq_true, zres, Int.toNat_natCast, reduceIte, Nat.reduceEqDiff, Nat.reduceAdd, and_self, and_true, true_and, and_false, false_and]
        refine z_il3 dX8_ways_33 ?_
        refine zcv3 dX8_ways_34 zkX8_152 ziX8_openPurse zsX8_openPurse (zkB hΓ rfl) (by decide) rfl (Nat.le_of_ble_eq_true rfl) (by decide) (by first | decide | omega) ⟨Nat.le_refl _, Nat.le_refl _⟩ (X8_openPurse_ct hI hF hO (by omega) (by omega) (by omega) (fun h2 hO2 hF2 hP _ => ?_))
        try simp only [zup_ap, zup_row, ne_eq, not_false_eq_true, zres, Int.toNat_natCast, reduceIte, Nat.reduceEqDiff, Nat.reduceAdd, and_self, and_true, true_and, and_false, false_and]
        refine z_al0 dX8_ways_37 (by first | decide | omega | assumption) ?_
        refine z_getR zfX8_49 dX8_ways_38 (zkB hΓ rfl) rfl (zsB hΓ rfl) (zvB hΓ (by decide)) ?_
        refine z_il2 dX8_ways_41 ?_
        refine z_il4 dX8_ways_42 ?_
        obtain ⟨s9, rfl⟩ := Int.eq_ofNat_of_zero_le (show 0 ≤ s by omega)
        obtain ⟨k9, rfl⟩ := Int.eq_ofNat_of_zero_le (show 0 ≤ k by omega)
        refine zcv2 dX8_ways_44 zkX8_161 ziX4_rows zsX4_rows (zkB hΓ rfl) (by decide) rfl (Nat.le_of_ble_eq_true rfl) (by decide) (by first | decide | omega) ⟨Nat.le_refl _, Nat.le_refl _⟩ (X4_rows_ct hΓ hP (by omega) (by omega) (by omega) (by omega) (fun h3 hE3 _ => ?_))
        try simp only [zup_ap, zup_row, ne_eq, not_false_eq_true, zres, Int.toNat_natCast, reduceIte, Nat.reduceEqDiff, Nat.reduceAdd, and_self, and_true, true_and, and_false, false_and]
        refine z_lret dX8_ways_47 rfl (Nat.le_refl _) (Nat.le_refl _) (zext_rf _) (fun hrr => ?_)
        have hw9 := hQ _ (zfr_1 hF2 zs44 hE3)
        unfold zvWays at hw9
        rw [if_pos (by omega)] at hw9
        rw [hdn, Int.toNat_natCast, Int.toNat_natCast] at hw9
        exact hw9
      · refine z_ldc2 (x := -1) dX8_ways_23 zqX8_159 (by decide) ?_
        refine z_lret dX8_ways_26 rfl (Nat.le_refl _) (Nat.le_refl _) (zext_rf _) (fun hrr => ?_)
        have hw9 := hQ _ hF
        unfold zvWays at hw9
        rw [if_neg (by omega)] at hw9
        exact hw9
set_option maxRecDepth 4000 in
theorem X9_wy_0 {l : Launch} {Γ : zC} {h1 : zM} {Q : Option zV → zC → zM → Prop} (hΓ : zBase Γ) {i r : Int} {s P : Nat} (hK : ∀ h9 {y : Option zV}, (∀ a, a ≠ 104 → h9 a = h1 a) → (∀ j, j ≤ 200 → h9 104 j = if j = 0 then 1 else 0) → zG (zFn l mX9_ways 1682 0 0 Γ Q) 0 0 Γ h9 104 [some (zR 89), some (zI i), some (zI (s : Int)), some (zI r), some (zI (P : Int)), y, none, none] []) : ∀ (m : Nat) (k : Nat) (h : zM), 201 - k < m → k ≤ 201 → (∀ a, a ≠ 104 → h a = h1 a) → (∀ j, j < k → h 104 j = if j = 0 then 1 else 0) → zG (zFn l mX9_ways 1682 0 0 Γ Q) 0 0 Γ h 73 [some (zR 89), some (zI i), some (zI (s : Int)), some (zI r), some (zI (P : Int)), some (zI (k : Int)), none, none] [] := by
  intro m
  induction m with
  | zero => intros; omega
  | succ m ih =>
    intro k h hm hk hE hD
    refine z_il5 dX9_ways_73 ?_
    refine z_sipush (x := 200) dX9_ways_75 (by rfl) (by decide) ?_
    refine z_icmp_gt (t := 104) dX9_ways_78 (by rfl) (fun ht78 => ?_) (fun hf78 => ?_)
    · exact hK h hE (fun j hj => hD j (by omega))
    · refine z_al0 dX9_ways_81 (by first | decide | omega | assumption) ?_
      refine z_getR zfX9_75 dX9_ways_82 (zkB hΓ rfl) rfl (zsB hΓ rfl) (zvB hΓ (by decide)) ?_
      refine z_il5 dX9_ways_85 ?_
      refine z_il5 dX9_ways_87 ?_
      refine z_if_ne (t := 96) dX9_ways_89 (by rfl) (fun ht89 => ?_) (fun hf89 => ?_)
      · refine z_lconst (x := 0) dX9_ways_96 (by rfl) (by decide) ?_
        refine z_last dX9_ways_97 (zkB hΓ rfl) (by omega) (by omega) ?_
        refine z_ii5 dX9_ways_98 (by omega) (Nat.le_of_ble_eq_true rfl) rfl ?_
        refine z_goto (t := 73) dX9_ways_101 (by rfl) ?_
        refine ih (k + 1) _ (by omega) (by omega) (fun a ha => (zup_row ha).trans (hE a ha)) (fun j hj => ?_)
        by_cases ej : j = k
        · subst ej; rw [zup_ap]
          refine (if_pos ⟨rfl, by omega⟩).trans ?_
          first | rw [if_pos (by omega)] | rw [if_neg (by omega)]
        · rw [zup_ap, if_neg (fun e => ej (by have := e.2; omega))]
          exact hD j (by omega)
      · refine z_lconst (x := 1) dX9_ways_92 (by rfl) (by decide) ?_
        refine z_goto (t := 97) dX9_ways_93 (by rfl) ?_
        refine z_last dX9_ways_97 (zkB hΓ rfl) (by omega) (by omega) ?_
        refine z_ii5 dX9_ways_98 (by omega) (Nat.le_of_ble_eq_true rfl) rfl ?_
        refine z_goto (t := 73) dX9_ways_101 (by rfl) ?_
        refine ih (k + 1) _ (by omega) (by omega) (fun a ha => (zup_row ha).trans (hE a ha)) (fun j hj => ?_)
        by_cases ej : j = k
        · subst ej; rw [zup_ap]
          refine (if_pos ⟨rfl, by omega⟩).trans ?_
          first | rw [if_pos (by omega)] | rw [if_neg (by omega)]
        · rw [zup_ap, if_neg (fun e => ej (by have := e.2; omega))]
          exact hD j (by omega)
set_option maxRecDepth 4000 in
theorem X9_wy_p {l : Launch} {Γ : zC} {h1 : zM} {Q : Option zV → zC → zM → Prop} (hΓ : zBase Γ) {i r : Int} {s P : Nat} {b : Nat → Int} {hd k t : Nat} (hr7 : 0 ≤ r ∧ r ≤ 7) (hB1 : ∀ n, n ≤ 200 → h1 102 n = b n) (hh9 : h1 89 32 = (hd : Int)) (hd9 : hd ≤ 20) (hk : k ≤ 7) (ht : t ≤ 200) (hW : ∀ u, u < t → h1 104 u = zwy b r hd k u) (hK : ∀ h9 (p : Int), (∀ a, a ≠ 105 → h9 a = h1 a) → (∀ u, u ≠ t → h9 105 u = h1 105 u) → h9 105 t = zsm (fun p => if zto b r t && zpt b r p then zwy b r hd k (t - p) else 0) (min hd t) → zG (zFn l mX9_ways 1682 0 0 Γ Q) 0 0 Γ h9 196 [some (zR 89), some (zI i), some (zI (s : Int)), some (zI r), some (zI (P : Int)), some (zI (k : Int)), some (zI (t : Int)), some (zI p)] []) : ∀ (m : Nat) (p : Nat) (h : zM), hd + 1 - p < m → p ≤ min hd t → (∀ a, a ≠ 105 → h a = h1 a) → (∀ u, u ≠ t → h 105 u = h1 105 u) → h 105 t = zsm (fun p => if zto b r t && zpt b r p then zwy b r hd k (t - p) else 0) p → zG (zFn l mX9_ways 1682 0 0 Γ Q) 0 0 Γ h 134 [some (zR 89), some (zI i), some (zI (s : Int)), some (zI r), some (zI (P : Int)), some (zI (k : Int)), some (zI (t : Int)), some (zI ((p + 1 : Nat) : Int))] [] := by
  intro m
  induction m with
  | zero => intros; omega
  | succ m ih =>
    intro p h hm hp hE hO hD
    have hB : ∀ n, n ≤ 200 → h 102 n = b n := fun n hn => by rw [hE 102 (by decide)]; exact hB1 n hn
    have hb9 := zsm_w (b := b) (r := r) (t := t) hd9 hk (p := p) (by omega)
    refine z_il7 dX9_ways_134 ?_
    refine z_al0 dX9_ways_136 (by first | decide | omega | assumption) ?_
    refine z_getI zfX9_65 dX9_ways_137 (zkB hΓ rfl) rfl ?_
    rw [hE 89 (by decide), hh9]
    try simp only [zup_ap, zup_row, ne_eq, not_false_eq_true, zres, Int.toNat_natCast, reduceIte, Nat.reduceEqDiff, Nat.reduceAdd, and_self, and_true, true_and, and_false, false_and]
    refine z_icmp_gt (t := 196) dX9_ways_140 (by rfl) (fun ht140 => ?_) (fun hf140 => ?_)
    · have ep : p = min hd t := by omega
      subst ep
      exact hK h _ hE hO hD
    · refine z_il7 dX9_ways_143 ?_
      refine z_il6 dX9_ways_145 ?_
      refine z_icmp_gt (t := 196) dX9_ways_147 (by rfl) (fun ht147 => ?_) (fun hf147 => ?_)
      · have ep : p = min hd t := by omega
        subst ep
        exact hK h _ hE hO hD
      · refine z_al0 dX9_ways_150 (by first | decide | omega | assumption) ?_
        refine z_il7 dX9_ways_151 ?_
        refine z_il3 dX9_ways_153 ?_
        refine zcv2 dX9_ways_154 zkX9_324 ziX9_isPart zsX9_isPart (zkB hΓ rfl) (by decide) rfl (Nat.le_of_ble_eq_true rfl) (by decide) (by first | decide | omega) ⟨Nat.le_refl _, Nat.le_refl _⟩ (X9_isPart_ct hΓ hr7 hB (n := p + 1) (by omega) (fun hp9 _ => ?_) (fun hp9 _ => ?_))
        · try simp only [zup_ap, zup_row, ne_eq, not_false_eq_true, zres, Int.toNat_natCast, reduceIte, Nat.reduceEqDiff, Nat.reduceAdd, and_self, and_true, true_and, and_false, false_and]
          refine z_if_eq (t := 190) dX9_ways_157 (by rfl) (fun _ => ?_) (fun hx => absurd hx (by decide))
          refine z_ii7 dX9_ways_190 (by omega) (Nat.le_of_ble_eq_true rfl) rfl ?_
          refine z_goto (t := 134) dX9_ways_193 (by rfl) ?_
          first
          | (refine ih (p + 1) _ (by omega) (by omega) hE hO ?_
             rw [hD, zsm, if_neg (show ¬ (zto b r t && zpt b r (p + 1)) = true by first | (rw [hp9]; simp; done) | (rw [ht9]; simp; done)), Int.add_zero])
          | (refine ih (p + 1) (zup h 105 _ _) (by omega) (by omega) (fun a ha => (zup_row ha).trans (hE a ha)) (fun u hu => (if_neg (fun e => hu (by have := e.2; omega))).trans (hO u hu)) ?_
             rw [zup_ap]
             refine (if_pos ⟨rfl, by omega⟩).trans ?_
             rw [zsm, if_pos (show (zto b r t && zpt b r (p + 1)) = true by rw [ht9, hp9]; rfl)])
        · try simp only [zup_ap, zup_row, ne_eq, not_false_eq_true, zres, Int.toNat_natCast, reduceIte, Nat.reduceEqDiff, Nat.reduceAdd, and_self, and_true, true_and, and_false, false_and]
          refine z_if_eq (t := 190) dX9_ways_157 (by rfl) (fun hx => absurd hx (by decide)) (fun _ => ?_)
          refine z_al0 dX9_ways_160 (by first | decide | omega | assumption) ?_
          refine z_il6 dX9_ways_161 ?_
          refine z_il3 dX9_ways_163 ?_
          refine zcv2 dX9_ways_164 zkX9_327 ziX9_isTotal zsX9_isTotal (zkB hΓ rfl) (by decide) rfl (Nat.le_of_ble_eq_true rfl) (by decide) (by first | decide | omega) ⟨Nat.le_refl _, Nat.le_refl _⟩ (X9_isTotal_ct hΓ hr7 hB (n := t) (by omega) (fun ht9 _ => ?_) (fun ht9 _ => ?_))
          · try simp only [zup_ap, zup_row, ne_eq, not_false_eq_true, zres, Int.toNat_natCast, reduceIte, Nat.reduceEqDiff, Nat.reduceAdd, and_self, and_true, true_and, and_false, false_and]
            refine z_if_eq (t := 190) dX9_ways_167 (by rfl) (fun _ => ?_) (fun hx => absurd hx (by decide))
            refine z_ii7 dX9_ways_190 (by omega) (Nat.le_of_ble_eq_true rfl) rfl ?_
            refine z_goto (t := 134) dX9_ways_193 (by rfl) ?_
            first
            | (refine ih (p + 1) _ (by omega) (by omega) hE hO ?_
               rw [hD, zsm, if_neg (show ¬ (zto b r t && zpt b r (p + 1)) = true by first | (rw [hp9]; simp; done) | (rw [ht9]; simp; done)), Int.add_zero])
            | (refine ih (p + 1) (zup h 105 _ _) (by omega) (by omega) (fun a ha => (zup_row ha).trans (hE a ha)) (fun u hu => (if_neg (fun e => hu (by have := e.2; omega))).trans (hO u hu)) ?_
               rw [zup_ap]
               refine (if_pos ⟨rfl, by omega⟩).trans ?_
               rw [zsm, if_pos (show (zto b r t && zpt b r (p + 1)) = true by rw [ht9, hp9]; rfl)])
          · try simp only [zup_ap, zup_row, ne_eq, not_false_eq_true, zres, Int.toNat_natCast, reduceIte, Nat.reduceEqDiff, Nat.reduceAdd, and_self, and_true, true_and, and_false, false_and]
            refine z_if_eq (t := 190) dX9_ways_167 (by rfl) (fun hx => absurd hx (by decide)) (fun _ => ?_)
            refine z_al0 dX9_ways_170 (by first | decide | omega | assumption) ?_
            refine z_getR zfX9_79 dX9_ways_171 (zkB hΓ rfl) rfl (zsB hΓ rfl) (zvB hΓ (by decide)) ?_
            refine z_il6 dX9_ways_174 ?_
            refine z_dup2 dX9_ways_176 rfl rfl ?_
            refine z_lald dX9_ways_177 (zkB hΓ rfl) (by omega) (by omega) ?_
            rw [show (t : Int).toNat = t from Int.toNat_natCast t, hD]
            try simp only [zup_ap, zup_row, ne_eq, not_false_eq_true, zres, Int.toNat_natCast, reduceIte, Nat.reduceEqDiff, Nat.reduceAdd, and_self, and_true, true_and, and_false, false_and]
            refine z_al0 dX9_ways_178 (by first | decide | omega | assumption) ?_
            refine z_getR zfX9_75 dX9_ways_179 (zkB hΓ rfl) rfl (zsB hΓ rfl) (zvB hΓ (by decide)) ?_
            refine z_il6 dX9_ways_182 ?_
            refine z_il7 dX9_ways_184 ?_
            refine z_isub dX9_ways_186 (by omega) ?_
            refine z_lald dX9_ways_187 (zkB hΓ rfl) (by omega) (by omega) ?_
            rw [show ((t : Int) - ((p + 1 : Nat) : Int)).toNat = t - (p + 1) by omega, hE 104 (by decide), hW (t - (p + 1)) (by omega)]
            try simp only [zup_ap, zup_row, ne_eq, not_false_eq_true, zres, Int.toNat_natCast, reduceIte, Nat.reduceEqDiff, Nat.reduceAdd, and_self, and_true, true_and, and_false, false_and]
            refine z_ladd dX9_ways_188 (by show zo64 _; unfold zo64; have h7 := zwy_b b r hd hd9 k (t - (p + 1)); have h8 := zp20 (k := k) (by omega); omega) ?_
            refine z_last dX9_ways_189 (zkB hΓ rfl) (by omega) (by omega) ?_
            refine z_ii7 dX9_ways_190 (by omega) (Nat.le_of_ble_eq_true rfl) rfl ?_
            refine z_goto (t := 134) dX9_ways_193 (by rfl) ?_
            first
            | (refine ih (p + 1) _ (by omega) (by omega) hE hO ?_
               rw [hD, zsm, if_neg (show ¬ (zto b r t && zpt b r (p + 1)) = true by first | (rw [hp9]; simp; done) | (rw [ht9]; simp; done)), Int.add_zero])
            | (refine ih (p + 1) (zup h 105 _ _) (by omega) (by omega) (fun a ha => (zup_row ha).trans (hE a ha)) (fun u hu => (if_neg (fun e => hu (by have := e.2; omega))).trans (hO u hu)) ?_
               rw [zup_ap]
               refine (if_pos ⟨rfl, by omega⟩).trans ?_
               rw [zsm, if_pos (show (zto b r t && zpt b r (p + 1)) = true by rw [ht9, hp9]; rfl)])
set_option maxRecDepth 4000 in
theorem X9_wy_t {l : Launch} {Γ : zC} {h1 : zM} {Q : Option zV → zC → zM → Prop} (hΓ : zBase Γ) {i r : Int} {s P : Nat} {b : Nat → Int} {hd k : Nat} (hr7 : 0 ≤ r ∧ r ≤ 7) (hB1 : ∀ n, n ≤ 200 → h1 102 n = b n) (hh9 : h1 89 32 = (hd : Int)) (hd9 : hd ≤ 20) (hk : k ≤ 7) (hs : s ≤ 200) (hW : ∀ u, u ≤ s → h1 104 u = zwy b r hd k u) (hK : ∀ h9 {y : Option zV}, (∀ a, a ≠ 105 → h9 a = h1 a) → (∀ u, u ≤ s → h9 105 u = zwy b r hd (k + 1) u) → zG (zFn l mX9_ways 1682 0 0 Γ Q) 0 0 Γ h9 202 [some (zR 89), some (zI i), some (zI (s : Int)), some (zI r), some (zI (P : Int)), some (zI (k : Int)), some (zI ((s + 1 : Nat) : Int)), y] []) : ∀ (m : Nat) (t : Nat) (h : zM) (y : Option zV), s + 1 - t < m → t ≤ s + 1 → (∀ a, a ≠ 105 → h a = h1 a) → (∀ u, u < t → h 105 u = zwy b r hd (k + 1) u) → zG (zFn l mX9_ways 1682 0 0 Γ Q) 0 0 Γ h 117 [some (zR 89), some (zI i), some (zI (s : Int)), some (zI r), some (zI (P : Int)), some (zI (k : Int)), some (zI (t : Int)), y] [] := by
  intro m
  induction m with
  | zero => intros; omega
  | succ m ih =>
    intro t h y hm ht hE hD
    refine z_il6 dX9_ways_117 ?_
    refine z_il2 dX9_ways_119 ?_
    refine z_icmp_gt (t := 202) dX9_ways_120 (by rfl) (fun ht120 => ?_) (fun hf120 => ?_)
    · have et : t = s + 1 := by omega
      subst et
      exact hK h hE (fun u hu => hD u (by omega))
    · refine z_al0 dX9_ways_123 (by first | decide | omega | assumption) ?_
      refine z_getR zfX9_79 dX9_ways_124 (zkB hΓ rfl) rfl (zsB hΓ rfl) (zvB hΓ (by decide)) ?_
      refine z_il6 dX9_ways_127 ?_
      refine z_lconst (x := 0) dX9_ways_129 (by rfl) (by decide) ?_
      refine z_last dX9_ways_130 (zkB hΓ rfl) (by omega) (by omega) ?_
      refine z_iconst dX9_ways_131 (by decide) ?_
      refine z_is7 dX9_ways_132 (Nat.le_of_ble_eq_true rfl) rfl ?_
      refine X9_wy_p (b := b) (hd := hd) hΓ hr7 (fun n hn => by rw [zup_row (by decide), hE 102 (by decide)]; exact hB1 n hn) (by rw [zup_row (by decide), hE 89 (by decide)]; exact hh9) hd9 hk (by omega) (fun u hu => by rw [zup_row (by decide), hE 104 (by decide)]; exact hW u (by omega)) (fun h9 p hE9 hO9 hD9 => ?_) _ 0 _ (Nat.lt_succ_self _) (Nat.zero_le _) (fun _ _ => rfl) (fun _ _ => rfl) ?_
      · refine z_ii6 dX9_ways_196 (by omega) (Nat.le_of_ble_eq_true rfl) rfl ?_
        refine z_goto (t := 117) dX9_ways_199 (by rfl) ?_
        refine ih (t + 1) _ _ (by omega) (by omega) (fun a ha => (hE9 a ha).trans ((zup_row ha).trans (hE a ha))) (fun u hu => ?_)
        by_cases eu : u = t
        · subst eu; exact hD9
        · rw [hO9 u eu, zup_ap, if_neg (fun e => eu (by have := e.2; omega))]
          exact hD u (by omega)
      · rw [zup_ap]; exact if_pos ⟨rfl, by omega⟩
set_option maxRecDepth 4000 in
theorem X9_wy_c {l : Launch} {Γ : zC} {h1 : zM} {Q : Option zV → zC → zM → Prop} (hΓ : zBase Γ) {i r : Int} {s P : Nat} {k : Nat} {y : Option zV} (hs : s ≤ 200) (hK : ∀ h9 {z : Option zV}, (∀ a, a ≠ 104 → h9 a = h1 a) → (∀ u, u ≤ s → h9 104 u = h1 105 u) → zG (zFn l mX9_ways 1682 0 0 Γ Q) 0 0 Γ h9 231 [some (zR 89), some (zI i), some (zI (s : Int)), some (zI r), some (zI (P : Int)), some (zI (k : Int)), z, y] []) : ∀ (m : Nat) (t : Nat) (h : zM), s + 1 - t < m → t ≤ s + 1 → (∀ a, a ≠ 104 → h a = h1 a) → (∀ u, u < t → h 104 u = h1 105 u) → zG (zFn l mX9_ways 1682 0 0 Γ Q) 0 0 Γ h 205 [some (zR 89), some (zI i), some (zI (s : Int)), some (zI r), some (zI (P : Int)), some (zI (k : Int)), some (zI (t : Int)), y] [] := by
  intro m
  induction m with
  | zero => intros; omega
  | succ m ih =>
    intro t h hm ht hE hD
    refine z_il6 dX9_ways_205 ?_
    refine z_il2 dX9_ways_207 ?_
    refine z_icmp_gt (t := 231) dX9_ways_208 (by rfl) (fun ht208 => ?_) (fun hf208 => ?_)
    · exact hK h hE (fun j hj => hD j (by omega))
    · refine z_al0 dX9_ways_211 (by first | decide | omega | assumption) ?_
      refine z_getR zfX9_75 dX9_ways_212 (zkB hΓ rfl) rfl (zsB hΓ rfl) (zvB hΓ (by decide)) ?_
      refine z_il6 dX9_ways_215 ?_
      refine z_al0 dX9_ways_217 (by first | decide | omega | assumption) ?_
      refine z_getR zfX9_79 dX9_ways_218 (zkB hΓ rfl) rfl (zsB hΓ rfl) (zvB hΓ (by decide)) ?_
      refine z_il6 dX9_ways_221 ?_
      refine z_lald dX9_ways_223 (zkB hΓ rfl) (by omega) (by omega) ?_
      try simp only [zup_ap, zup_row, ne_eq, not_false_eq_true, zres, Int.toNat_natCast, reduceIte, Nat.reduceEqDiff, Nat.reduceAdd, and_self, and_true, true_and, and_false, false_and]
      refine z_last dX9_ways_224 (zkB hΓ rfl) (by omega) (by omega) ?_
      refine z_ii6 dX9_ways_225 (by omega) (Nat.le_of_ble_eq_true rfl) rfl ?_
      refine z_goto (t := 205) dX9_ways_228 (by rfl) ?_
      refine ih (t + 1) _ (by omega) (by omega) (fun a ha => (zup_row ha).trans (hE a ha)) (fun j hj => ?_)
      by_cases ej : j = t
      · subst ej; rw [zup_ap]
        refine (if_pos ⟨rfl, by omega⟩).trans ?_
        rw [hE 105 (by decide)]
      · rw [zup_ap, if_neg (fun e => ej (by have := e.2; omega))]
        exact hD j (by omega)
set_option maxRecDepth 4000 in
theorem X9_wy_k {l : Launch} {Γ : zC} {h1 : zM} {Q : Option zV → zC → zM → Prop} (hΓ : zBase Γ) {i r : Int} {s P : Nat} {b : Nat → Int} {hd : Nat} (hr7 : 0 ≤ r ∧ r ≤ 7) (hB1 : ∀ n, n ≤ 200 → h1 102 n = b n) (hh9 : h1 89 32 = (hd : Int)) (hd9 : hd ≤ 20) (hP8 : P ≤ 8) (hs : s ≤ 200) (hQ : ∀ h9, (∀ a, a ≠ 104 → a ≠ 105 → h9 a = h1 a) → Q (some (zL (zwy b r hd P s))) Γ h9) : ∀ (m : Nat) (k : Nat) (h : zM) (y z : Option zV), P - k < m → k ≤ P → (∀ a, a ≠ 104 → a ≠ 105 → h a = h1 a) → (∀ u, u ≤ s → h 104 u = zwy b r hd k u) → zG (zFn l mX9_ways 1682 0 0 Γ Q) 0 0 Γ h 107 [some (zR 89), some (zI i), some (zI (s : Int)), some (zI r), some (zI (P : Int)), some (zI (k : Int)), y, z] [] := by
  intro m
  induction m with
  | zero => intros; omega
  | succ m ih =>
    intro k h y z hm hk hE hW
    refine z_il5 dX9_ways_107 ?_
    refine z_il4 dX9_ways_109 ?_
    refine z_icmp_ge (t := 237) dX9_ways_111 (by rfl) (fun ht111 => ?_) (fun hf111 => ?_)
    · refine z_al0 dX9_ways_237 (by first | decide | omega | assumption) ?_
      refine z_getR zfX9_75 dX9_ways_238 (zkB hΓ rfl) rfl (zsB hΓ rfl) (zvB hΓ (by decide)) ?_
      refine z_il2 dX9_ways_241 ?_
      refine z_lald dX9_ways_242 (zkB hΓ rfl) (by omega) (by omega) ?_
      try simp only [Int.toNat_natCast]
      try simp only [zup_ap, zup_row, ne_eq, not_false_eq_true, zres, Int.toNat_natCast, reduceIte, Nat.reduceEqDiff, Nat.reduceAdd, and_self, and_true, true_and, and_false, false_and]
      refine z_lret dX9_ways_243 rfl (Nat.le_refl _) (Nat.le_refl _) (zext_rf _) (fun hrr => ?_)
      have ek : k = P := by omega
      subst ek
      rw [hW s (Nat.le_refl _)]
      exact hQ h hE
    · refine z_iconst dX9_ways_114 (by decide) ?_
      refine z_is6 dX9_ways_115 (Nat.le_of_ble_eq_true rfl) rfl ?_
      refine X9_wy_t (b := b) (hd := hd) hΓ hr7 (fun n hn => by rw [hE 102 (by decide) (by decide)]; exact hB1 n hn) (by rw [hE 89 (by decide) (by decide)]; exact hh9) hd9 (by omega) hs hW (fun h8 y8 hE8 hD8 => ?_) _ 0 _ _ (Nat.lt_succ_self _) (by omega) (fun _ _ => rfl) (fun u hu => absurd hu (by omega))
      refine z_iconst dX9_ways_202 (by decide) ?_
      refine z_is6 dX9_ways_203 (Nat.le_of_ble_eq_true rfl) rfl ?_
      refine X9_wy_c (k := k) hΓ hs (fun h9 z9 hE9 hD9 => ?_) _ 0 _ (Nat.lt_succ_self _) (by omega) (fun _ _ => rfl) (fun u hu => absurd hu (by omega))
      refine z_ii5 dX9_ways_231 (by omega) (Nat.le_of_ble_eq_true rfl) rfl ?_
      refine z_goto (t := 107) dX9_ways_234 (by rfl) ?_
      exact ih (k + 1) _ _ _ (by omega) (by omega) (fun a h1 h2 => (hE9 a h1).trans ((hE8 a h2).trans (hE a h1 h2))) (fun u hu => by rw [hD9 u hu]; exact hD8 u hu)
theorem zs104 (j : Nat) : zSS 104 j = true := rfl
theorem zs105 (j : Nat) : zSS 105 j = true := rfl
theorem zfr_2 {h0 h h' : zM} {q q2 : Nat} (H : zfr zSS h0 h) (hs : ∀ j, zSS q j = true) (hs2 : ∀ j, zSS q2 j = true) (H2 : ∀ r, r ≠ q → r ≠ q2 → h' r = h r) : zfr zSS h0 h' := fun r j p => by
  by_cases h3 : r = q
  · subst h3; rw [hs j] at p; cases p
  · by_cases h4 : r = q2
    · subst h4; rw [hs2 j] at p; cases p
    · rw [H2 r h3 h4]; exact H r j p
set_option maxRecDepth 4000 in
theorem X9_ways_ct {l : Launch} {Γ : zC} {h0 h : zM} {Q : Option zV → zC → zM → Prop} {i s r k : Int} (hI : zIv Γ h0) (hF : zfr zSS h0 h) (hQ : ∀ h9, zfr zSS h0 h9 → Q (some (zL (zvWays h0 i s r k))) Γ h9) : zCT l mX9_ways 1682 0 0 Γ [zR 89, zI i, zI s, zI r, zI k] h Q := by
  have hΓ := hI.base
  have hx2 := hI.isl
  have hx3 := hI.hnd
  obtain ⟨hd, hhd⟩ := Int.eq_ofNat_of_zero_le (show 0 ≤ h0 89 32 by omega)
  have hdn : (h0 89 32).toNat = hd := by omega
  have hnw := hI.now
  refine zCT_of (by decide) (Nat.le_of_ble_eq_true rfl) (ls := [some (zR 89), some (zI i), some (zI s), some (zI r), some (zI k), none, none, none]) rfl ?_
  refine z_al0 dX9_ways_0 (by first | decide | omega | assumption) ?_
  refine z_iconst dX9_ways_1 (by decide) ?_
  refine z_putI zfX9_128 dX9_ways_2 (zkB hΓ rfl) rfl rfl ?_
  replace hF : zfr zSS h0 (zup h 89 0 0) := zfr_up hF rfl
  generalize zup h 89 0 0 = h at hF ⊢
  refine z_al0 dX9_ways_5 (by first | decide | omega | assumption) ?_
  refine z_il1 dX9_ways_6 ?_
  refine zcv1 dX9_ways_7 zkX9_299 ziX9_isIsle zsX9_isIsle (zkB hΓ rfl) (by decide) rfl (Nat.le_of_ble_eq_true rfl) (by decide) (by first | decide | omega) ⟨Nat.le_refl _, Nat.le_refl _⟩ (X9_isIsle_ct hI hF (fun hg1 _ => ?_) (fun hg1 _ => ?_))
  · try simp only [zup_ap, zup_row, ne_eq, not_false_eq_true, zres, Int.toNat_natCast, reduceIte, Nat.reduceEqDiff, Nat.reduceAdd, and_self, and_true, true_and, and_false, false_and]
    refine z_if_eq (t := 45) dX9_ways_10 (by rfl) (fun _ => ?_) (fun hx => absurd hx (by decide))
    refine z_ldc2 (x := -1) dX9_ways_45 zqX9_351 (by decide) ?_
    refine z_lret dX9_ways_48 rfl (Nat.le_refl _) (Nat.le_refl _) (zext_rf _) (fun hrr => ?_)
    have hw9 := hQ _ hF
    unfold zvWays at hw9
    rw [if_neg (by omega)] at hw9
    exact hw9
  · try simp only [zup_ap, zup_row, ne_eq, not_false_eq_true, zres, Int.toNat_natCast, reduceIte, Nat.reduceEqDiff, Nat.reduceAdd, and_self, and_true, true_and, and_false, false_and]
    refine z_if_eq (t := 45) dX9_ways_10 (by rfl) (fun hx => absurd hx (by decide)) (fun _ => ?_)
    refine z_il2 dX9_ways_13 ?_
    refine z_i2l dX9_ways_14 ?_
    refine z_lconst (x := 1) dX9_ways_15 (by rfl) (by decide) ?_
    refine z_ldc2 (x := 200) dX9_ways_16 zqX9_332 (by decide) ?_
    refine zcs3 dX9_ways_19 zkX9_261 ztX9_isIn (Nat.le_of_ble_eq_true rfl) (by decide) (by first | decide | omega) ⟨Nat.le_refl _, Nat.le_refl _⟩ (X9_isIn_ct (fun hg2 _ => ?_) (fun hg2 _ => ?_))
    · try simp only [zup_ap, zup_row, ne_eq, not_false_eq_true, zres, Int.toNat_natCast, reduceIte, Nat.reduceEqDiff, Nat.reduceAdd, and_self, and_true, true_and, and_false, false_and]
      refine z_if_eq (t := 45) dX9_ways_22 (by rfl) (fun _ => ?_) (fun hx => absurd hx (by decide))
      refine z_ldc2 (x := -1) dX9_ways_45 zqX9_351 (by decide) ?_
      refine z_lret dX9_ways_48 rfl (Nat.le_refl _) (Nat.le_refl _) (zext_rf _) (fun hrr => ?_)
      have hw9 := hQ _ hF
      unfold zvWays at hw9
      rw [if_neg (by omega)] at hw9
      exact hw9
    · try simp only [zup_ap, zup_row, ne_eq, not_false_eq_true, zres, Int.toNat_natCast, reduceIte, Nat.reduceEqDiff, Nat.reduceAdd, and_self, and_true, true_and, and_false, false_and]
      refine z_if_eq (t := 45) dX9_ways_22 (by rfl) (fun hx => absurd hx (by decide)) (fun _ => ?_)
      refine z_il3 dX9_ways_25 ?_
      refine zcs1 dX9_ways_26 zkX9_334 ztX9_areRules (Nat.le_of_ble_eq_true rfl) (by decide) (by first | decide | omega) ⟨Nat.le_refl _, Nat.le_refl _⟩ (X9_areRules_ct (fun hg3 _ => ?_) (fun hg3 _ => ?_))
      · try simp only [zup_ap, zup_row, ne_eq, not_false_eq_true, zres, Int.toNat_natCast, reduceIte, Nat.reduceEqDiff, Nat.reduceAdd, and_self, and_true, true_and, and_false, false_and]
        refine z_if_eq (t := 45) dX9_ways_29 (by rfl) (fun _ => ?_) (fun hx => absurd hx (by decide))
        refine z_ldc2 (x := -1) dX9_ways_45 zqX9_351 (by decide) ?_
        refine z_lret dX9_ways_48 rfl (Nat.le_refl _) (Nat.le_refl _) (zext_rf _) (fun hrr => ?_)
        have hw9 := hQ _ hF
        unfold zvWays at hw9
        rw [if_neg (by omega)] at hw9
        exact hw9
      · try simp only [zup_ap, zup_row, ne_eq, not_false_eq_true, zres, Int.toNat_natCast, reduceIte, Nat.reduceEqDiff, Nat.reduceAdd, and_self, and_true, true_and, and_false, false_and]
        refine z_if_eq (t := 45) dX9_ways_29 (by rfl) (fun hx => absurd hx (by decide)) (fun _ => ?_)
        refine z_il4 dX9_ways_32 ?_
        refine z_i2l dX9_ways_34 ?_
        refine z_lconst (x := 1) dX9_ways_35 (by rfl) (by decide) ?_
        refine z_ldc2 (x := 8) dX9_ways_36 zqX9_349 (by decide) ?_
        refine zcs3 dX9_ways_39 zkX9_261 ztX9_isIn (Nat.le_of_ble_eq_true rfl) (by decide) (by first | decide | omega) ⟨Nat.le_refl _, Nat.le_refl _⟩ (X9_isIn_ct (fun hg4 _ => ?_) (fun hg4 _ => ?_))
        · try simp only [zup_ap, zup_row, ne_eq, not_false_eq_true, zres, Int.toNat_natCast, reduceIte, Nat.reduceEqDiff, Nat.reduceAdd, and_self, and_true, true_and, and_false, false_and]
          refine z_if_ne (t := 49) dX9_ways_42 (by rfl) (fun hx => absurd hx (by decide)) (fun _ => ?_)
          refine z_ldc2 (x := -1) dX9_ways_45 zqX9_351 (by decide) ?_
          refine z_lret dX9_ways_48 rfl (Nat.le_refl _) (Nat.le_refl _) (zext_rf _) (fun hrr => ?_)
          have hw9 := hQ _ hF
          unfold zvWays at hw9
          rw [if_neg (by omega)] at hw9
          exact hw9
        · try simp only [zup_ap, zup_row, ne_eq, not_false_eq_true, zres, Int.toNat_natCast, reduceIte, Nat.reduceEqDiff, Nat.reduceAdd, and_self, and_true, true_and, and_false, false_and]
          refine z_if_ne (t := 49) dX9_ways_42 (by rfl) (fun _ => ?_) (fun hx => absurd hx (by decide))
          refine z_al0 dX9_ways_49 (by first | decide | omega | assumption) ?_
          refine z_il1 dX9_ways_50 ?_
          refine z_al0 dX9_ways_51 (by first | decide | omega | assumption) ?_
          refine z_getI zfX9_288 dX9_ways_52 (zkB hΓ rfl) rfl ?_
          rw [hF 89 29 rfl]
          try simp only [zup_ap, zup_row, ne_eq, not_false_eq_true, zres, Int.toNat_natCast, reduceIte, Nat.reduceEqDiff, Nat.reduceAdd, and_self, and_true, true_and, and_false, false_and]
          refine zcv2 dX9_ways_55 zkX9_337 ziX9_layBad zsX9_layBad (zkB hΓ rfl) (by decide) rfl (Nat.le_of_ble_eq_true rfl) (by decide) (by first | decide | omega) ⟨Nat.le_refl _, Nat.le_refl _⟩ (X9_layBad_ct hI hF hg1 (fun h2 hA2 hB2 _ => ?_))
          try simp only [zup_ap, zup_row, ne_eq, not_false_eq_true, zres, Int.toNat_natCast, reduceIte, Nat.reduceEqDiff, Nat.reduceAdd, and_self, and_true, true_and, and_false, false_and]
          replace hF := zfr_B hF zs102 hA2
          obtain ⟨s, rfl⟩ := Int.eq_ofNat_of_zero_le (show 0 ≤ s by omega)
          obtain ⟨P, rfl⟩ := Int.eq_ofNat_of_zero_le (show 0 ≤ k by omega)
          refine z_al0 dX9_ways_58 (by first | decide | omega | assumption) ?_
          refine z_il4 dX9_ways_59 ?_
          refine z_il3 dX9_ways_61 ?_
          refine zcv2 dX9_ways_62 zkX9_344 ziX9_isCount zsX9_isCount (zkB hΓ rfl) (by decide) rfl (Nat.le_of_ble_eq_true rfl) (by decide) (by first | decide | omega) ⟨Nat.le_refl _, Nat.le_refl _⟩ (X9_isCount_ct hΓ hg3 hB2 (n := P) (by omega) (fun hp9 _ => ?_) (fun hp9 _ => ?_))
          · try simp only [zup_ap, zup_row, ne_eq, not_false_eq_true, zres, Int.toNat_natCast, reduceIte, Nat.reduceEqDiff, Nat.reduceAdd, and_self, and_true, true_and, and_false, false_and]
            refine z_if_ne (t := 70) dX9_ways_65 (by rfl) (fun hx => absurd hx (by decide)) (fun _ => ?_)
            refine z_lconst (x := 0) dX9_ways_68 (by rfl) (by decide) ?_
            refine z_lret dX9_ways_69 rfl (Nat.le_refl _) (Nat.le_refl _) (zext_rf _) (fun hrr => ?_)
            have hw9 := hQ _ hF
            unfold zvWays at hw9
            rw [if_pos (by omega)] at hw9
            rw [Int.toNat_natCast, if_neg (by rw [hp9]; decide)] at hw9
            exact hw9
          · try simp only [zup_ap, zup_row, ne_eq, not_false_eq_true, zres, Int.toNat_natCast, reduceIte, Nat.reduceEqDiff, Nat.reduceAdd, and_self, and_true, true_and, and_false, false_and]
            refine z_if_ne (t := 70) dX9_ways_65 (by rfl) (fun _ => ?_) (fun hx => absurd hx (by decide))
            refine z_iconst dX9_ways_70 (by decide) ?_
            refine z_is5 dX9_ways_71 (Nat.le_of_ble_eq_true rfl) rfl ?_
            refine X9_wy_0 hΓ (fun h3 y3 hE3 hD3 => ?_) _ 0 _ (Nat.lt_succ_self _) (by omega) (fun _ _ => rfl) (fun j hj => absurd hj (by omega))
            refine z_iconst dX9_ways_104 (by decide) ?_
            refine z_is5 dX9_ways_105 (Nat.le_of_ble_eq_true rfl) rfl ?_
            refine X9_wy_k (b := zbF h0 i (h0 89 29)) (hd := hd) hΓ hg3 (fun n hn => by rw [hE3 102 (by decide)]; exact hB2 n hn) (by rw [hE3 89 (by decide), hF 89 32 rfl]; exact hhd) (by omega) (by omega) (by omega) (fun h9 hE9 => ?_) _ 0 _ _ _ (Nat.lt_succ_self _) (by omega) (fun _ _ _ => rfl) (fun u hu => hD3 u (by omega))
            have hw9 := hQ _ (zfr_2 (zfr_1 hF zs104 hE3) zs104 zs105 hE9)
            unfold zvWays at hw9
            rw [if_pos (by omega)] at hw9
            rw [Int.toNat_natCast, if_pos hp9, hdn, Int.toNat_natCast] at hw9
            exact hw9
