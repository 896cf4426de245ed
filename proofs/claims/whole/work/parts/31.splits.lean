/-! in how many ways a family splits -/
theorem zsm_add (f g : Nat → Int) : ∀ m, zsm (fun p => f p + g p) m = zsm f m + zsm g m
  | 0 => rfl
  | m + 1 => by rw [zsm, zsm, zsm, zsm_add f g m]; omega
theorem zsm_0 {f : Nat → Int} : ∀ {m}, (∀ p, 1 ≤ p → p ≤ m → f p = 0) → zsm f m = 0
  | 0, _ => rfl
  | m + 1, h => by rw [zsm, zsm_0 (fun p a b => h p a (by omega)), h (m + 1) (by omega) (Nat.le_refl _)]; rfl
theorem zsm_sw (f : Nat → Nat → Int) (J : Nat) : ∀ M, zsm (fun p => zsm (fun j => f p j) J) M = zsm (fun j => zsm (fun p => f p j) M) J
  | 0 => (zsm_0 (fun _ _ _ => rfl)).symm
  | M + 1 => by rw [zsm, zsm_sw f J M, ← zsm_add]; rfl
theorem zsm_sh (f : Nat → Int) : ∀ m, zsm f (m + 1) = f 1 + zsm (fun j => f (j + 1)) m
  | 0 => by show 0 + f 1 = f 1 + 0; omega
  | m + 1 => by rw [zsm, zsm_sh f m, zsm]; omega
theorem zsm_if {c : Prop} [Decidable c] (f : Nat → Int) (m : Nat) : (if c then zsm f m else 0) = zsm (fun p => if c then f p else 0) m := by
  split
  · rfl
  · rw [zsm_0 (fun _ _ _ => rfl)]
def zpcS (s : Nat) (c : Bool) (f : Nat → Nat → Int) : Nat → Nat → Int
  | 0, n => f 0 n
  | j + 1, n => f (j + 1) n + (if c = true ∧ s ≤ n then zpcS s c f j (n - s) else 0)
/-- in how many ways n splits into so many groups, none greater than m -/
def zpc (b : Nat → Int) : Nat → Nat → Nat → Int
  | 0 => fun j n => if j = 0 ∧ n = 0 then 1 else 0
  | m + 1 => zpcS (m + 1) (decide (b (m + 1) = 0)) (zpc b m)
theorem zpc_s (b : Nat → Int) (m j n : Nat) : zpc b (m + 1) (j + 1) n = zpc b m (j + 1) n + (if b (m + 1) = 0 ∧ m + 1 ≤ n then zpc b (m + 1) j (n - (m + 1)) else 0) := by
  show zpcS _ _ _ (j + 1) n = _
  rw [zpcS]
  simp only [decide_eq_true_eq]
  rfl
theorem zpc_0 (b : Nat → Int) : ∀ m n, zpc b m 0 n = if n = 0 then 1 else 0
  | 0, n => by show (if 0 = 0 ∧ n = 0 then (1 : Int) else 0) = _; simp
  | m + 1, n => zpc_0 b m n
theorem zpc_u (b : Nat → Int) (j n : Nat) : ∀ m, zpc b m (j + 1) n = zsm (fun p => if b p = 0 then zpc b p j (n - p) else 0) (min m n)
  | 0 => by
    rw [Nat.zero_min]
    show (if j + 1 = 0 ∧ n = 0 then (1 : Int) else 0) = 0
    rw [if_neg (by omega)]
  | m + 1 => by
    rw [zpc_s, zpc_u b j n m]
    by_cases h : m + 1 ≤ n
    · rw [show min (m + 1) n = m + 1 by omega, show min m n = m by omega, zsm]
      congr 1
      by_cases h2 : b (m + 1) = 0
      · rw [if_pos ⟨h2, h⟩, if_pos h2]
      · rw [if_neg (fun e => h2 e.1), if_neg h2]
    · rw [show min (m + 1) n = min m n by omega, if_neg (fun e => h e.2), Int.add_zero]
theorem zpc_z (b : Nat → Int) : ∀ j m n, n < j → zpc b m j n = 0
  | 0, m, n, h => by omega
  | j + 1, m, n, h => by
    rw [zpc_u]
    refine zsm_0 (fun p h1 h2 => ?_)
    split
    · exact zpc_z b j p (n - p) (by omega)
    · rfl
theorem zsm_2 {f : Nat → Int} {n : Nat} (h : ∀ p, 1 ≤ p → p ≤ n → 0 ≤ f p ∧ f p ≤ (2 : Int) ^ (n - p)) : ∀ m, m ≤ n → 0 ≤ zsm f m ∧ zsm f m ≤ (2 : Int) ^ n - (2 : Int) ^ (n - m)
  | 0, _ => ⟨Int.le_refl _, by show (0 : Int) ≤ _; rw [Nat.sub_zero]; omega⟩
  | m + 1, hm => by
    have h1 := zsm_2 h m (by omega)
    have h2 := h (m + 1) (by omega) hm
    rw [show n - m = (n - (m + 1)) + 1 by omega, Int.pow_succ] at h1
    rw [zsm]
    omega
theorem zp2_0 (n : Nat) : (1 : Int) ≤ (2 : Int) ^ n := by
  induction n with
  | zero => decide
  | succ n ih => rw [Int.pow_succ]; omega
theorem zp2_30 {n : Nat} (h : n ≤ 30) : (2 : Int) ^ n ≤ 1073741824 := by
  have key : ∀ k : Fin 31, (2 : Int) ^ k.val ≤ 1073741824 := by decide +kernel
  exact key ⟨n, by omega⟩
theorem zpc_b (b : Nat → Int) : ∀ j m n, 0 ≤ zpc b m j n ∧ zpc b m j n ≤ (2 : Int) ^ n
  | 0, m, n => by
    rw [zpc_0]
    have := zp2_0 n
    split <;> omega
  | j + 1, m, n => by
    rw [zpc_u]
    have h1 := zsm_2 (f := fun p => if b p = 0 then zpc b p j (n - p) else 0) (n := n) (fun p _ _ => zite_b (zpc_b b j p (n - p)) (by have := zp2_0 (n - p); omega)) (min m n) (by omega)
    have h2 := zp2_0 (n - min m n)
    exact ⟨h1.1, by omega⟩
/-- the reference's count: n left, so many groups already, none greater than m -/
def zsp (b : Nat → Int) : Nat → Nat → Nat → Nat → Int
  | 0, n, g, _ => if n = 0 then (if b g = 0 then 1 else 0) else 0
  | f + 1, n, g, m => if n = 0 then (if b g = 0 then 1 else 0) else zsm (fun p => if b p = 0 then zsp b f (n - p) (g + 1) p else 0) (min m n)
theorem zsp_b (b : Nat → Int) : ∀ f n g m, 0 ≤ zsp b f n g m ∧ zsp b f n g m ≤ (2 : Int) ^ n
  | 0, n, g, m => by
    have := zp2_0 n
    unfold zsp
    split
    · split <;> omega
    · omega
  | f + 1, n, g, m => by
    have := zp2_0 n
    unfold zsp
    split
    · split <;> omega
    · have h1 := zsm_2 (f := fun p => if b p = 0 then zsp b f (n - p) (g + 1) p else 0) (n := n) (fun p _ _ => zite_b (zsp_b b f (n - p) (g + 1) p) (by have := zp2_0 (n - p); omega)) (min m n) (by omega)
      have h2 := zp2_0 (n - min m n)
      exact ⟨h1.1, by omega⟩
theorem zsp_e (b : Nat → Int) : ∀ f n g m J, n ≤ f → n + 1 ≤ J → zsp b f n g m = zsm (fun j => if b (g + (j - 1)) = 0 then zpc b m (j - 1) n else 0) J
  | f, 0, g, m, J, _, hJ => by
    rw [show J = (J - 1) + 1 by omega, zsm_sh, zsm_0 (fun p h1 h2 => by
      show (if b (g + (p + 1 - 1)) = 0 then zpc b m (p + 1 - 1) 0 else 0) = 0
      rw [show p + 1 - 1 = p by omega, zpc_z b p m 0 (by omega)]
      split <;> rfl), Int.add_zero]
    show _ = if b (g + 0) = 0 then zpc b m 0 0 else 0
    rw [zpc_0, if_pos rfl, Nat.add_zero]
    cases f with
    | zero => unfold zsp; rw [if_pos rfl]
    | succ f => unfold zsp; rw [if_pos rfl]
  | 0, n + 1, g, m, J, h, _ => by omega
  | f + 1, n + 1, g, m, J, h, hJ => by
    rw [zsp, if_neg (by omega)]
    rw [show J = (J - 1) + 1 by omega, zsm_sh]
    show _ = (if b (g + 0) = 0 then zpc b m 0 (n + 1) else 0) + _
    rw [zpc_0, if_neg (show ¬ n + 1 = 0 by omega)]
    rw [show (if b (g + 0) = 0 then (0 : Int) else 0) = 0 by split <;> rfl, Int.zero_add]
    rw [zsm_cg (f := fun j => if b (g + (j + 1 - 1)) = 0 then zpc b m (j + 1 - 1) (n + 1) else 0) (g := fun j => zsm (fun p => if b (g + j) = 0 then (if b p = 0 then zpc b p (j - 1) (n + 1 - p) else 0) else 0) (min m (n + 1))) (J - 1) (fun j h1 h2 => by
      show (if b (g + (j + 1 - 1)) = 0 then zpc b m (j + 1 - 1) (n + 1) else 0) = _
      rw [show j + 1 - 1 = (j - 1) + 1 by omega, zpc_u, zsm_if, show g + (j - 1 + 1) = g + j by omega])]
    rw [← zsm_sw (fun p j => if b (g + j) = 0 then (if b p = 0 then zpc b p (j - 1) (n + 1 - p) else 0) else 0)]
    refine zsm_cg _ (fun p h1 h2 => ?_)
    by_cases hp : b p = 0
    · rw [if_pos hp, zsp_e b f (n + 1 - p) (g + 1) p (J - 1) (by omega) (by omega)]
      refine zsm_cg _ (fun j h3 h4 => ?_)
      rw [if_pos hp, show g + 1 + (j - 1) = g + j by omega]
    · rw [if_neg hp, zsm_0 (fun j h3 h4 => by
        show (if b (g + j) = 0 then (if b p = 0 then _ else (0 : Int)) else 0) = 0
        rw [if_neg hp]; split <;> rfl)]
theorem zsp_c (b : Nat → Int) {n : Nat} (h : 1 ≤ n) : zsp b n n 0 n = zsm (fun j => if b j = 0 then zpc b n j n else 0) n := by
  rw [zsp_e b n n 0 n (n + 1) (Nat.le_refl _) (Nat.le_refl _), zsm_sh]
  show (if b (0 + 0) = 0 then zpc b n 0 n else 0) + _ = _
  rw [zpc_0, if_neg (show ¬ n = 0 by omega), show (if b (0 + 0) = 0 then (0 : Int) else 0) = 0 by split <;> rfl, Int.zero_add]
  refine zsm_cg _ (fun j h3 h4 => ?_)
  show (if b (0 + (j + 1 - 1)) = 0 then zpc b n (j + 1 - 1) n else 0) = _
  rw [show j + 1 - 1 = j by omega, Nat.zero_add]
theorem zks46 {Γ : zC} (hΓ : zBase Γ) {j : Nat} (h : j < 31) : zkd Γ (46 + j) = some (.inr (0, 31)) := by
  have key : ∀ k : Fin 31, zkb0 (46 + k.val) = some (.inr (0, 31)) := by decide +kernel
  exact zkB hΓ (key ⟨j, h⟩)
theorem zsr45 {Γ : zC} (hΓ : zBase Γ) {j : Nat} (h : j < 31) : zsr Γ 45 j = some (46 + j) := by
  rw [hΓ.1]; unfold zsrG
  rw [if_neg (by decide), if_neg (by decide), if_pos rfl, if_pos h]
def zfP (h h' : zM) : Prop := ∀ q, ¬ (46 ≤ q ∧ q ≤ 76) → h' q = h q
theorem zfr_P {h0 h h' : zM} (H : zfr zSS h0 h) (H2 : zfP h h') : zfr zSS h0 h' := fun r j q => by
  by_cases hr : 46 ≤ r ∧ r ≤ 76
  · have key : ∀ k : Fin 31, ∀ j, zSS (46 + k.val) j = true := by
      intro k j
      rcases k with ⟨k, hk⟩
      unfold zSS zsRw
      have e1 : Nat.ble (46 + k) 121 = true := Nat.ble_eq_true_of_le (by omega)
      have e2 : Nat.beq (46 + k) 89 = false := by
        cases h : Nat.beq (46 + k) 89 with
        | false => rfl
        | true => exact absurd (Nat.eq_of_beq_eq_true h) (by omega)
      have e3 : Nat.ble 46 (46 + k) = true := Nat.ble_eq_true_of_le (by omega)
      have e4 : Nat.ble (46 + k) 76 = true := Nat.ble_eq_true_of_le (by omega)
      simp only [e1, e2, e3, e4, cond_true, cond_false, Bool.and_true, Bool.or_true, Bool.true_or]
    have e := key ⟨r - 46, by omega⟩ j
    rw [show 46 + (r - 46) = r by omega] at e
    rw [e] at q; cases q
  · rw [H2 r hr]; exact H r j q
set_option maxRecDepth 4000 in
theorem X4_aS_p {l : Launch} {Γ : zC} {h1 : zM} {Q : Option zV → zC → zM → Prop} (hΓ : zBase Γ) {b : Nat → Int} {m s : Nat} {n : Nat} (hs : s ≤ 30) (hb : b (m + 1) = 0) (hn : m + 1 ≤ n ∧ n ≤ s) (hK : ∀ h9 (p : Int), zfP h1 h9 → (∀ j, j ≤ s → ∀ k, k ≤ s → h9 (46 + j) k = if k < n + 1 then zpc b (m + 1) j k else zpc b m j k) → zG (zFn l mX4_addSize 0 0 0 Γ Q) 0 0 Γ h9 47 [some (zR 41), some (zI ((m + 1 : Nat) : Int)), some (zI (s : Int)), some (zI (n : Int)), some (zI p)] []) : ∀ (m9 : Nat) (p : Nat) (h : zM), s + 2 - p < m9 → 1 ≤ p → p ≤ n + 1 → zfP h1 h → (∀ j, j ≤ s → ∀ k, k ≤ s → h (46 + j) k = if k < n ∨ k = n ∧ j < p then zpc b (m + 1) j k else zpc b m j k) → zG (zFn l mX4_addSize 0 0 0 Γ Q) 0 0 Γ h 10 [some (zR 41), some (zI ((m + 1 : Nat) : Int)), some (zI (s : Int)), some (zI (n : Int)), some (zI (p : Int))] [] := by
  intro m9
  induction m9 with
  | zero => intros; omega
  | succ m9 ih =>
    intro p h hm hp1 hp2 hE hD
    refine z_il4 dX4_addSize_10 ?_
    refine z_il3 dX4_addSize_12 ?_
    refine z_icmp_gt (t := 47) dX4_addSize_13 (by rfl) (fun ht13 => ?_) (fun hf13 => ?_)
    · refine hK h p hE (fun j hj k hk => ?_)
      rw [hD j hj k hk]
      by_cases e2 : k < n + 1
      · rw [if_pos e2]
        by_cases e3 : k < n ∨ k = n ∧ j < p
        · rw [if_pos e3]
        · rw [if_neg e3, show k = n by omega, zpc_z b j m n (by omega), zpc_z b j (m + 1) n (by omega)]
      · rw [if_neg e2, if_neg (by omega)]
    · refine z_al0 dX4_addSize_16 (by first | decide | omega | assumption) ?_
      refine z_getR zfX4_24 dX4_addSize_17 (zkB hΓ rfl) rfl (zsB hΓ rfl) (zvB hΓ (by decide)) ?_
      refine z_il4 dX4_addSize_20 ?_
      refine z_aald dX4_addSize_22 (zkB hΓ rfl) (Or.inl rfl) (by omega) (by omega) (q := 46 + p) (by rw [show ((p : Int) : Int).toNat = p by omega, zsr45 hΓ (by omega)]; rfl) (fun _ => zvB hΓ (Or.inl (by omega))) ?_
      refine z_il3 dX4_addSize_23 ?_
      refine z_dup2 dX4_addSize_24 rfl rfl ?_
      refine z_iald dX4_addSize_25 (zks46 hΓ (by omega)) (by omega) (by omega) ?_
      try simp only [zup_ap, zup_row, ne_eq, not_false_eq_true, zres, Int.toNat_natCast, reduceIte, Nat.reduceEqDiff, Nat.reduceAdd, and_self, and_true, true_and, and_false, false_and]
      refine z_al0 dX4_addSize_26 (by first | decide | omega | assumption) ?_
      refine z_getR zfX4_24 dX4_addSize_27 (zkB hΓ rfl) rfl (zsB hΓ rfl) (zvB hΓ (by decide)) ?_
      refine z_il4 dX4_addSize_30 ?_
      refine z_iconst dX4_addSize_32 (by decide) ?_
      refine z_isub dX4_addSize_33 (by omega) ?_
      refine z_aald dX4_addSize_34 (zkB hΓ rfl) (Or.inl rfl) (by omega) (by omega) (q := 46 + (p - 1)) (by rw [show ((p : Int) - 1 : Int).toNat = (p - 1) by omega, zsr45 hΓ (by omega)]; rfl) (fun _ => zvB hΓ (Or.inl (by omega))) ?_
      refine z_il3 dX4_addSize_35 ?_
      refine z_il1 dX4_addSize_36 ?_
      refine z_isub dX4_addSize_37 (by omega) ?_
      refine z_iald dX4_addSize_38 (zks46 hΓ (by omega)) (by omega) (by omega) ?_
      try simp only [zup_ap, zup_row, ne_eq, not_false_eq_true, zres, Int.toNat_natCast, reduceIte, Nat.reduceEqDiff, Nat.reduceAdd, and_self, and_true, true_and, and_false, false_and]
      rw [show ((n : Int) - ((m + 1 : Nat) : Int)).toNat = n - (m + 1) by omega]
      try simp only [Int.toNat_natCast]
      rw [hD p (by omega) n (by omega), hD (p - 1) (by omega) (n - (m + 1)) (by omega), if_neg (show ¬ (n < n ∨ n = n ∧ p < p) by omega), if_pos (show n - (m + 1) < n ∨ n - (m + 1) = n ∧ p - 1 < p by omega)]
      have h1 := zpc_b b p m n
      have h2 := zpc_b b (p - 1) (m + 1) (n - (m + 1))
      have h3 := zp2_30 (n := n) (by omega)
      have h4 := zp2_30 (n := n - (m + 1)) (by omega)
      have h5 := zpc_b b p (m + 1) n
      have h6 := zpc_s b m (p - 1) n
      rw [show p - 1 + 1 = p by omega, if_pos ⟨hb, by omega⟩] at h6
      refine z_iadd dX4_addSize_39 (by show zo32 _; unfold zo32; omega) ?_
      refine z_iast dX4_addSize_40 (zks46 hΓ (by omega)) (by omega) (by omega) ?_
      refine z_ii4 dX4_addSize_41 (by omega) (Nat.le_of_ble_eq_true rfl) rfl ?_
      refine z_goto (t := 10) dX4_addSize_44 (by rfl) ?_
      refine ih (p + 1) _ (by omega) (by omega) (by omega) (fun q hq => (zup_row (by omega)).trans (hE q hq)) (fun j hj k hk => ?_)
      by_cases e : j = p ∧ k = n
      · obtain ⟨rfl, rfl⟩ := e
        rw [zup_ap]
        refine (if_pos ⟨rfl, by omega⟩).trans ?_
        rw [if_pos (by omega)]
        exact h6.symm
      · rw [zup_ap, if_neg (fun x => e ⟨by have := x.1; omega, by have := x.2; omega⟩), hD j hj k hk]
        by_cases e2 : k < n ∨ k = n ∧ j < p
        · rw [if_pos e2, if_pos (by omega)]
        · rw [if_neg e2, if_neg (by omega)]
set_option maxRecDepth 4000 in
theorem X4_aS_n {l : Launch} {Γ : zC} {h1 : zM} {Q : Option zV → zC → zM → Prop} (hΓ : zBase Γ) {b : Nat → Int} {m s : Nat} (hs : s ≤ 30) (hb : b (m + 1) = 0) (hQ : ∀ h9, zfP h1 h9 → (∀ j, j ≤ s → ∀ k, k ≤ s → h9 (46 + j) k = zpc b (m + 1) j k) → Q none Γ h9) : ∀ (m9 : Nat) (n : Nat) (h : zM) (y : Option zV), s + 1 - n < m9 → m + 1 ≤ n → n ≤ s + 1 → zfP h1 h → (∀ j, j ≤ s → ∀ k, k ≤ s → h (46 + j) k = if k < n then zpc b (m + 1) j k else zpc b m j k) → zG (zFn l mX4_addSize 0 0 0 Γ Q) 0 0 Γ h 2 [some (zR 41), some (zI ((m + 1 : Nat) : Int)), some (zI (s : Int)), some (zI (n : Int)), y] [] := by
  intro m9
  induction m9 with
  | zero => intros; omega
  | succ m9 ih =>
    intro n h y hm hn1 hn2 hE hD
    refine z_il3 dX4_addSize_2 ?_
    refine z_il2 dX4_addSize_3 ?_
    refine z_icmp_gt (t := 53) dX4_addSize_4 (by rfl) (fun ht4 => ?_) (fun hf4 => ?_)
    · refine z_ret dX4_addSize_53 rfl (Nat.le_refl _) (Nat.le_refl _) (zext_rf _) ?_
      refine hQ h hE (fun j hj k hk => ?_)
      rw [hD j hj k hk, if_pos (by omega)]
    · refine z_iconst dX4_addSize_7 (by decide) ?_
      refine z_is4 dX4_addSize_8 (Nat.le_of_ble_eq_true rfl) rfl ?_
      refine X4_aS_p hΓ (b := b) (m := m) (s := s) (n := n) hs hb (by omega) (fun h9 p hE9 hD9 => ?_) _ 1 _ (Nat.lt_succ_self _) (by omega) (by omega) (fun _ _ => rfl) (fun j hj k hk => ?_)
      · refine z_ii3 dX4_addSize_47 (by omega) (Nat.le_of_ble_eq_true rfl) rfl ?_
        refine z_goto (t := 2) dX4_addSize_50 (by rfl) ?_
        exact ih (n + 1) _ _ (by omega) (by omega) (by omega) (fun q hq => (hE9 q hq).trans (hE q hq)) hD9
      · rw [hD j hj k hk]
        by_cases e : k < n
        · rw [if_pos e, if_pos (Or.inl e)]
        · rw [if_neg e]
          by_cases e2 : k = n ∧ j < 1
          · rw [if_pos (Or.inr e2), show j = 0 by omega, zpc_0, zpc_0]
          · rw [if_neg (by omega)]
set_option maxRecDepth 4000 in
theorem X4_addSize_ct {l : Launch} {Γ : zC} {h1 : zM} {Q : Option zV → zC → zM → Prop} (hΓ : zBase Γ) {b : Nat → Int} {m s : Nat} (hs : s ≤ 30) (hms : m + 1 ≤ s) (hb : b (m + 1) = 0) (hD : ∀ j, j ≤ s → ∀ k, k ≤ s → h1 (46 + j) k = zpc b m j k) (hQ : ∀ h9, zfP h1 h9 → (∀ j, j ≤ s → ∀ k, k ≤ s → h9 (46 + j) k = zpc b (m + 1) j k) → Q none Γ h9) : zCT l mX4_addSize 0 0 0 Γ [zR 41, zI ((m + 1 : Nat) : Int), zI (s : Int)] h1 Q := by
  refine zCT_of (by decide) (Nat.le_of_ble_eq_true rfl) (ls := [some (zR 41), some (zI ((m + 1 : Nat) : Int)), some (zI (s : Int)), none, none]) rfl ?_
  refine z_il1 dX4_addSize_0 ?_
  refine z_is3 dX4_addSize_1 (Nat.le_of_ble_eq_true rfl) rfl ?_
  refine X4_aS_n hΓ hs hb hQ _ (m + 1) _ _ (Nat.lt_succ_self _) (Nat.le_refl _) (by omega) (fun _ _ => rfl) (fun j hj k hk => ?_)
  rw [hD j hj k hk]
  by_cases e : k < m + 1
  · rw [if_pos e]
    cases j with
    | zero => rw [zpc_0, zpc_0]
    | succ j => rw [zpc_s, if_neg (by omega), Int.add_zero]
  · rw [if_neg e]
theorem zpc_n {b : Nat → Int} {m : Nat} (h : b (m + 1) ≠ 0) : ∀ j n, zpc b (m + 1) j n = zpc b m j n
  | 0, n => by rw [zpc_0, zpc_0]
  | j + 1, n => by rw [zpc_s, if_neg (fun e => h e.1), Int.add_zero]
theorem zsm_mono {f : Nat → Int} (h : ∀ p, 0 ≤ f p) : ∀ {m k}, k ≤ m → zsm f k ≤ zsm f m
  | 0, k, hk => by rw [show k = 0 by omega]; exact Int.le_refl _
  | m + 1, k, hk => by
    by_cases e : k = m + 1
    · subst e; exact Int.le_refl _
    · have h1 := zsm_mono h (m := m) (k := k) (by omega)
      have h2 := h (m + 1)
      rw [zsm]; omega
/-- all ways in which a family splits -/
def zal (b : Nat → Int) (n : Nat) : Int := zsm (fun j => if b j = 0 then zpc b n j n else 0) n
theorem zal_b {b : Nat → Int} {n k : Nat} (h1 : 1 ≤ n) (hn : n ≤ 30) (hk : k ≤ n) : 0 ≤ zsm (fun j => if b j = 0 then zpc b n j n else 0) k ∧ zsm (fun j => if b j = 0 then zpc b n j n else 0) k ≤ 1073741824 := by
  have h0 : ∀ p, 0 ≤ (fun j => if b j = 0 then zpc b n j n else 0) p := fun p => (zite_b (zpc_b b p n n) (by have := zp2_0 n; omega)).1
  have h2 := zsm_mono h0 (m := n) (k := k) hk
  have h3 := zsm_mono h0 (m := k) (k := 0) (by omega)
  rw [← zsp_c b h1] at h2
  have h4 := zsp_b b n n 0 n
  have h5 := zp2_30 hn
  exact ⟨h3, by omega⟩
theorem zsp_z (b : Nat → Int) (f g m : Nat) : zsp b f 0 g m = if b g = 0 then 1 else 0 := by
  cases f with
  | zero => unfold zsp; rw [if_pos rfl]
  | succ f => unfold zsp; rw [if_pos rfl]
set_option maxRecDepth 4000 in
theorem X4_pt_a {l : Launch} {Γ : zC} {h1 : zM} {Q : Option zV → zC → zM → Prop} (hΓ : zBase Γ) {s : Nat} (hs : s ≤ 30) (hK : ∀ h9 {k : Int}, zfP h1 h9 → (∀ j, j ≤ s → ∀ c, c < 31 → h9 (46 + j) c = 0) → zG (zFn l mX4_partitions 2 0 0 Γ Q) 0 0 Γ h9 36 [some (zR 41), some (zI (s : Int)), some (zI k), none] []) : ∀ (m : Nat) (k : Nat) (h : zM), s + 1 - k < m → k ≤ s + 1 → zfP h1 h → (∀ j, j < k → ∀ c, c < 31 → h (46 + j) c = 0) → zG (zFn l mX4_partitions 2 0 0 Γ Q) 0 0 Γ h 15 [some (zR 41), some (zI (s : Int)), some (zI (k : Int)), none] [] := by
  intro m
  induction m with
  | zero => intros; omega
  | succ m ih =>
    intro k h hm hk hE hD
    refine z_il2 dX4_partitions_15 ?_
    refine z_il1 dX4_partitions_16 ?_
    refine z_icmp_gt (t := 36) dX4_partitions_17 (by rfl) (fun ht17 => ?_) (fun hf17 => ?_)
    · exact hK h hE (fun j hj c hc => hD j (by omega) c hc)
    · refine z_al0 dX4_partitions_20 (by first | decide | omega | assumption) ?_
      refine z_getR zfX4_24 dX4_partitions_21 (zkB hΓ rfl) rfl (zsB hΓ rfl) (zvB hΓ (by decide)) ?_
      refine z_il2 dX4_partitions_24 ?_
      refine z_aald dX4_partitions_25 (zkB hΓ rfl) (Or.inl rfl) (by omega) (by omega) (q := 46 + k) (by rw [show ((k : Int) : Int).toNat = k by omega, zsr45 hΓ (by omega)]; rfl) (fun _ => zvB hΓ (Or.inl (by omega))) ?_
      refine z_iconst dX4_partitions_26 (by decide) ?_
      refine zcs2 dX4_partitions_27 zkX4_71 ztJ7_fill_53178 (Nat.le_of_ble_eq_true rfl) (by decide) (by first | decide | omega) ⟨Nat.le_refl _, Nat.le_refl _⟩ (J7_fill_53178_ct (by omega) (zks46 hΓ (by omega)) (by decide) (fun h2 hE2 hD2 _ => ?_))
      try simp only [zup_ap, zup_row, ne_eq, not_false_eq_true, zres, Int.toNat_natCast, reduceIte, Nat.reduceEqDiff, Nat.reduceAdd, and_self, and_true, true_and, and_false, false_and]
      refine z_ii2 dX4_partitions_30 (by omega) (Nat.le_of_ble_eq_true rfl) rfl ?_
      refine z_goto (t := 15) dX4_partitions_33 (by rfl) ?_
      refine ih (k + 1) _ (by omega) (by omega) (fun q hq => (hE2 q (by omega)).trans (hE q hq)) (fun j hj c hc => ?_)
      by_cases e : j = k
      · subst e; exact hD2 c hc
      · rw [hE2 (46 + j) (by omega)]; exact hD j (by omega) c hc
set_option maxRecDepth 4000 in
theorem X4_pt_b {l : Launch} {Γ : zC} {h1 : zM} {Q : Option zV → zC → zM → Prop} (hΓ : zBase Γ) {b : Nat → Int} {hd s : Nat} (hP1 : zPu h1 b 5 hd) (hs : s ≤ 30) (hK : ∀ h9 {k : Int}, zfP h1 h9 → (∀ j, j ≤ s → ∀ c, c ≤ s → h9 (46 + j) c = zpc b s j c) → zG (zFn l mX4_partitions 2 0 0 Γ Q) 0 0 Γ h9 72 [some (zR 41), some (zI (s : Int)), some (zI k), none] []) : ∀ (m : Nat) (n : Nat) (h : zM), s - n < m → n ≤ s → zfP h1 h → (∀ j, j ≤ s → ∀ c, c ≤ s → h (46 + j) c = zpc b n j c) → zG (zFn l mX4_partitions 2 0 0 Γ Q) 0 0 Γ h 47 [some (zR 41), some (zI (s : Int)), some (zI ((n + 1 : Nat) : Int)), none] [] := by
  intro m
  induction m with
  | zero => intros; omega
  | succ m ih =>
    intro n h hm hk hE hD
    have hP := zPu_cg hP1 (fun q _ _ h3 => hE q h3)
    refine z_il2 dX4_partitions_47 ?_
    refine z_il1 dX4_partitions_48 ?_
    refine z_icmp_gt (t := 72) dX4_partitions_49 (by rfl) (fun ht49 => ?_) (fun hf49 => ?_)
    · have en : n = s := by omega
      subst en
      exact hK h hE hD
    · refine z_al0 dX4_partitions_52 (by first | decide | omega | assumption) ?_
      refine z_il2 dX4_partitions_53 ?_
      refine zcv1 dX4_partitions_54 zkX4_34 ziX4_isPart zsX4_isPart (zkB hΓ rfl) (by decide) rfl (Nat.le_of_ble_eq_true rfl) (by decide) (by first | decide | omega) ⟨Nat.le_refl _, Nat.le_refl _⟩ (X4_isPart_ct hΓ hP (n := n + 1) (by omega) (fun hp9 _ => ?_) (fun hp9 _ => ?_))
      · try simp only [zup_ap, zup_row, ne_eq, not_false_eq_true, zres, Int.toNat_natCast, reduceIte, Nat.reduceEqDiff, Nat.reduceAdd, and_self, and_true, true_and, and_false, false_and]
        refine z_if_eq (t := 66) dX4_partitions_57 (by rfl) (fun _ => ?_) (fun hx => absurd hx (by decide))
        refine z_ii2 dX4_partitions_66 (by omega) (Nat.le_of_ble_eq_true rfl) rfl ?_
        refine z_goto (t := 47) dX4_partitions_69 (by rfl) ?_
        first
        | exact ih (n + 1) _ (by omega) (by omega) (fun q hq => (hE9 q hq).trans (hE q hq)) hD9
        | (refine ih (n + 1) _ (by omega) (by omega) hE (fun j hj k hk => ?_)
           rw [zpc_n (by rw [zpt5] at hp9; exact of_decide_eq_false hp9)]
           exact hD j hj k hk)
      · try simp only [zup_ap, zup_row, ne_eq, not_false_eq_true, zres, Int.toNat_natCast, reduceIte, Nat.reduceEqDiff, Nat.reduceAdd, and_self, and_true, true_and, and_false, false_and]
        refine z_if_eq (t := 66) dX4_partitions_57 (by rfl) (fun hx => absurd hx (by decide)) (fun _ => ?_)
        refine z_al0 dX4_partitions_60 (by first | decide | omega | assumption) ?_
        refine z_il2 dX4_partitions_61 ?_
        refine z_il1 dX4_partitions_62 ?_
        refine zcv2 dX4_partitions_63 zkX4_74 ziX4_addSize zsX4_addSize (zkB hΓ rfl) (by decide) rfl (Nat.le_of_ble_eq_true rfl) (by decide) (by first | decide | omega) ⟨Nat.le_refl _, Nat.le_refl _⟩ (X4_addSize_ct hΓ (b := b) (m := n) (s := s) hs (by omega) (by rw [zpt5] at hp9; exact of_decide_eq_true hp9) hD (fun h9 hE9 hD9 _ => ?_))
        try simp only [zup_ap, zup_row, ne_eq, not_false_eq_true, zres, Int.toNat_natCast, reduceIte, Nat.reduceEqDiff, Nat.reduceAdd, and_self, and_true, true_and, and_false, false_and]
        refine z_ii2 dX4_partitions_66 (by omega) (Nat.le_of_ble_eq_true rfl) rfl ?_
        refine z_goto (t := 47) dX4_partitions_69 (by rfl) ?_
        first
        | exact ih (n + 1) _ (by omega) (by omega) (fun q hq => (hE9 q hq).trans (hE q hq)) hD9
        | (refine ih (n + 1) _ (by omega) (by omega) hE (fun j hj k hk => ?_)
           rw [zpc_n (by rw [zpt5] at hp9; exact of_decide_eq_false hp9)]
           exact hD j hj k hk)
set_option maxRecDepth 4000 in
theorem X4_pt_c {l : Launch} {Γ : zC} {h : zM} {Q : Option zV → zC → zM → Prop} (hΓ : zBase Γ) {b : Nat → Int} {hd s : Nat} (hP : zPu h b 5 hd) (hs : s ≤ 30) (hD : ∀ j, j ≤ s → ∀ c, c ≤ s → h (46 + j) c = zpc b s j c) (hQ : Q (some (zI (zal b s))) Γ h) : ∀ (m : Nat) (k : Nat), s - k < m → k ≤ s → zG (zFn l mX4_partitions 2 0 0 Γ Q) 0 0 Γ h 76 [some (zR 41), some (zI (s : Int)), some (zI (zsm (fun j => if b j = 0 then zpc b s j s else 0) k)), some (zI ((k + 1 : Nat) : Int))] [] := by
  intro m
  induction m with
  | zero => intros; omega
  | succ m ih =>
    intro k hm hk
    have hb1 : 0 ≤ zsm (fun j => if b j = 0 then zpc b s j s else 0) k := by
      by_cases e : 1 ≤ s
      · exact (zal_b e hs hk).1
      · rw [show k = 0 by omega]; exact Int.le_refl _
    refine z_il3 dX4_partitions_76 ?_
    refine z_il1 dX4_partitions_77 ?_
    refine z_icmp_gt (t := 106) dX4_partitions_78 (by rfl) (fun ht78 => ?_) (fun hf78 => ?_)
    · refine z_il2 dX4_partitions_106 ?_
      refine z_iret dX4_partitions_107 rfl (Nat.le_refl _) (Nat.le_refl _) (zext_rf _) (fun hrr => ?_)
      have ek : k = s := by omega
      subst ek
      exact hQ
    · refine z_al0 dX4_partitions_81 (by first | decide | omega | assumption) ?_
      refine z_il3 dX4_partitions_82 ?_
      refine zcv1 dX4_partitions_83 zkX4_58 ziX4_isCount zsX4_isCount (zkB hΓ rfl) (by decide) rfl (Nat.le_of_ble_eq_true rfl) (by decide) (by first | decide | omega) ⟨Nat.le_refl _, Nat.le_refl _⟩ (X4_isCount_ct hΓ hP (n := k + 1) (by omega) (fun hp9 _ => ?_) (fun hp9 _ => ?_))
      · try simp only [zup_ap, zup_row, ne_eq, not_false_eq_true, zres, Int.toNat_natCast, reduceIte, Nat.reduceEqDiff, Nat.reduceAdd, and_self, and_true, true_and, and_false, false_and]
        refine z_if_eq (t := 100) dX4_partitions_86 (by rfl) (fun _ => ?_) (fun hx => absurd hx (by decide))
        refine z_ii3 dX4_partitions_100 (by omega) (Nat.le_of_ble_eq_true rfl) rfl ?_
        refine z_goto (t := 76) dX4_partitions_103 (by rfl) ?_
        have e9 := ih (k + 1) (by omega) (by omega)
        first
        | (rw [zsm, if_pos hz9] at e9; exact e9)
        | (rw [zsm, if_neg (by rw [zco5] at hp9; exact of_decide_eq_false hp9), Int.add_zero] at e9; exact e9)
      · try simp only [zup_ap, zup_row, ne_eq, not_false_eq_true, zres, Int.toNat_natCast, reduceIte, Nat.reduceEqDiff, Nat.reduceAdd, and_self, and_true, true_and, and_false, false_and]
        refine z_if_eq (t := 100) dX4_partitions_86 (by rfl) (fun hx => absurd hx (by decide)) (fun _ => ?_)
        refine z_il2 dX4_partitions_89 ?_
        refine z_al0 dX4_partitions_90 (by first | decide | omega | assumption) ?_
        refine z_getR zfX4_24 dX4_partitions_91 (zkB hΓ rfl) rfl (zsB hΓ rfl) (zvB hΓ (by decide)) ?_
        refine z_il3 dX4_partitions_94 ?_
        refine z_aald dX4_partitions_95 (zkB hΓ rfl) (Or.inl rfl) (by omega) (by omega) (q := 46 + (k + 1)) (by rw [show (((k + 1 : Nat) : Int) : Int).toNat = (k + 1) by omega, zsr45 hΓ (by omega)]; rfl) (fun _ => zvB hΓ (Or.inl (by omega))) ?_
        refine z_il1 dX4_partitions_96 ?_
        refine z_iald dX4_partitions_97 (zks46 hΓ (by omega)) (by omega) (by omega) ?_
        try simp only [zup_ap, zup_row, ne_eq, not_false_eq_true, zres, Int.toNat_natCast, reduceIte, Nat.reduceEqDiff, Nat.reduceAdd, and_self, and_true, true_and, and_false, false_and]
        try simp only [Int.toNat_natCast]
        rw [hD (k + 1) (by omega) s (Nat.le_refl _)]
        have hz9 : b (k + 1) = 0 := by rw [zco5] at hp9; exact of_decide_eq_true hp9
        have hb2 := zal_b (b := b) (n := s) (k := k + 1) (by omega) (by omega) (by omega)
        rw [zsm, if_pos hz9] at hb2
        refine z_iadd dX4_partitions_98 (by show zo32 _; unfold zo32; omega) ?_
        refine z_is2 dX4_partitions_99 (Nat.le_of_ble_eq_true rfl) rfl ?_
        refine z_ii3 dX4_partitions_100 (by omega) (Nat.le_of_ble_eq_true rfl) rfl ?_
        refine z_goto (t := 76) dX4_partitions_103 (by rfl) ?_
        have e9 := ih (k + 1) (by omega) (by omega)
        first
        | (rw [zsm, if_pos hz9] at e9; exact e9)
        | (rw [zsm, if_neg (by rw [zco5] at hp9; exact of_decide_eq_false hp9), Int.add_zero] at e9; exact e9)
set_option maxRecDepth 4000 in
theorem X4_partitions_ct {l : Launch} {Γ : zC} {h : zM} {Q : Option zV → zC → zM → Prop} (hΓ : zBase Γ) {b : Nat → Int} {hd s : Nat} (hP : zPu h b 5 hd) (hs1 : 1 ≤ s) (hs9 : s ≤ 30) (hQ : ∀ h9, zfP h h9 → Q (some (zI (zal b s))) Γ h9) : zCT l mX4_partitions 2 0 0 Γ [zR 41, zI (s : Int)] h Q := by
  refine zCT_of (by decide) (Nat.le_of_ble_eq_true rfl) (ls := [some (zR 41), some (zI (s : Int)), none, none]) rfl ?_
  refine z_il1 dX4_partitions_0 ?_
  refine z_iconst dX4_partitions_1 (by decide) ?_
  refine z_icmp_lt (t := 11) dX4_partitions_2 (by rfl) (fun ht2 => ?_) (fun hf2 => ?_)
  · refine z_iconst dX4_partitions_11 (by decide) ?_
    refine z_iret dX4_partitions_12 rfl (Nat.le_refl _) (Nat.le_refl _) (zext_rf _) (fun hrr => ?_)
    exfalso; omega
  · refine z_il1 dX4_partitions_5 ?_
    refine z_bipush (x := 30) dX4_partitions_6 (by rfl) (by decide) ?_
    refine z_icmp_le (t := 13) dX4_partitions_8 (by rfl) (fun ht8 => ?_) (fun hf8 => ?_)
    · refine z_iconst dX4_partitions_13 (by decide) ?_
      refine z_is2 dX4_partitions_14 (Nat.le_of_ble_eq_true rfl) rfl ?_
      refine X4_pt_a hΓ hs9 (fun h2 k2 hE2 hD2 => ?_) _ 0 _ (Nat.lt_succ_self _) (by omega) (fun _ _ => rfl) (fun j hj => absurd hj (by omega))
      refine z_al0 dX4_partitions_36 (by first | decide | omega | assumption) ?_
      refine z_getR zfX4_24 dX4_partitions_37 (zkB hΓ rfl) rfl (zsB hΓ rfl) (zvB hΓ (by decide)) ?_
      refine z_iconst dX4_partitions_40 (by decide) ?_
      refine z_aald dX4_partitions_41 (zkB hΓ rfl) (Or.inl rfl) (by omega) (by omega) (q := 46 + 0) (by rw [show ((0 : Int) : Int).toNat = 0 by omega, zsr45 hΓ (by omega)]; rfl) (fun _ => zvB hΓ (Or.inl (by omega))) ?_
      refine z_iconst dX4_partitions_42 (by decide) ?_
      refine z_iconst dX4_partitions_43 (by decide) ?_
      refine z_iast dX4_partitions_44 (zkB hΓ rfl) (by omega) (by omega) ?_
      refine z_iconst dX4_partitions_45 (by decide) ?_
      refine z_is2 dX4_partitions_46 (Nat.le_of_ble_eq_true rfl) rfl ?_
      refine X4_pt_b (b := b) (hd := hd) (s := s) hΓ (zPu_cg hP (fun q _ _ h3 => (zup_row (by omega)).trans (hE2 q h3))) hs9 (fun h3 k3 hE3 hD3 => ?_) _ 0 _ (Nat.lt_succ_self _) (by omega) (fun _ _ => rfl) (fun j hj c hc => ?_)
      · refine z_iconst dX4_partitions_72 (by decide) ?_
        refine z_is2 dX4_partitions_73 (Nat.le_of_ble_eq_true rfl) rfl ?_
        refine z_iconst dX4_partitions_74 (by decide) ?_
        refine z_is3 dX4_partitions_75 (Nat.le_of_ble_eq_true rfl) rfl ?_
        have hE9 : zfP h h3 := fun q hq => (hE3 q hq).trans ((zup_row (by omega)).trans (hE2 q hq))
        exact X4_pt_c hΓ (zPu_cg hP (fun q _ _ h3 => hE9 q h3)) hs9 hD3 (hQ h3 hE9) _ 0 (Nat.lt_succ_self _) (by omega)
      · show _ = if j = 0 ∧ c = 0 then (1 : Int) else 0
        by_cases e : j = 0 ∧ c = 0
        · obtain ⟨rfl, rfl⟩ := e
          rw [zup_ap]; exact (if_pos ⟨rfl, rfl⟩).trans (if_pos ⟨rfl, rfl⟩).symm
        · rw [zup_ap, if_neg (fun x => e ⟨by have := x.1; omega, x.2⟩), if_neg e]
          exact hD2 j hj c (by omega)
    · refine z_iconst dX4_partitions_11 (by decide) ?_
      refine z_iret dX4_partitions_12 rfl (Nat.le_refl _) (Nat.le_refl _) (zext_rf _) (fun hrr => ?_)
      exfalso; omega
def zvSplits (h : zM) (i s : Int) : Int := if (0 ≤ i ∧ i < h 89 22) ∧ (1 ≤ s ∧ s ≤ 30) then zal (zbF h i (h 89 29)) s.toNat else -1
set_option maxRecDepth 4000 in
theorem X8_splits_ct {l : Launch} {Γ : zC} {h0 h : zM} {Q : Option zV → zC → zM → Prop} {i s : Int} (hI : zIv Γ h0) (hF : zfr zSS h0 h) (hO : h0 89 30 = -1) (hQ : ∀ h9, zfr zSS h0 h9 → Q (some (zI (zvSplits h0 i s))) Γ h9) : zCT l mX8_splits 6 0 0 Γ [zR 1, zI i, zI s] h Q := by
  have hΓ := hI.base
  have hx2 := hI.isl
  have hx3 := hI.hnd
  obtain ⟨hd, hhd⟩ := Int.eq_ofNat_of_zero_le (show 0 ≤ h0 89 32 by omega)
  have hdn : (h0 89 32).toNat = hd := by omega
  have hnw := hI.now
  refine zCT_of (by decide) (Nat.le_of_ble_eq_true rfl) (ls := [some (zR 1), some (zI i), some (zI s)]) rfl ?_
  refine z_al0 dX8_splits_0 (by first | decide | omega | assumption) ?_
  refine z_il1 dX8_splits_1 ?_
  refine z_il2 dX8_splits_2 ?_
  refine zcv2 dX8_splits_3 zkX8_177 ziX8_isFamily zsX8_isFamily (zkB hΓ rfl) (by decide) rfl (Nat.le_of_ble_eq_true rfl) (by decide) (by first | decide | omega) ⟨Nat.le_refl _, Nat.le_refl _⟩ (X8_isFamily_ct hI hF (fun hg1 _ => ?_) (fun hg1 _ => ?_))
  · try simp only [zup_ap, zup_row, ne_eq, not_false_eq_true, zres, Int.toNat_natCast, reduceIte, Nat.reduceEqDiff, Nat.reduceAdd, and_self, and_true, true_and, and_false, false_and]
    refine z_if_ne (t := 11) dX8_splits_6 (by rfl) (fun hx => absurd hx (by decide)) (fun _ => ?_)
    refine z_iconst dX8_splits_9 (by decide) ?_
    refine z_iret dX8_splits_10 rfl (Nat.le_refl _) (Nat.le_refl _) (zext_rf _) (fun hrr => ?_)
    have hw9 := hQ _ hF
    unfold zvSplits at hw9
    rw [if_neg (by omega)] at hw9
    exact hw9
  · try simp only [zup_ap, zup_row, ne_eq, not_false_eq_true, zres, Int.toNat_natCast, reduceIte, Nat.reduceEqDiff, Nat.reduceAdd, and_self, and_true, true_and, and_false, false_and]
    refine z_if_ne (t := 11) dX8_splits_6 (by rfl) (fun _ => ?_) (fun hx => absurd hx (by decide))
    refine z_al0 dX8_splits_11 (by first | decide | omega | assumption) ?_
    refine z_il1 dX8_splits_12 ?_
    refine zcv1 dX8_splits_13 zkX8_181 ziX8_openFamily zsX8_openFamily (zkB hΓ rfl) (by decide) rfl (Nat.le_of_ble_eq_true rfl) (by decide) (by first | decide | omega) ⟨Nat.le_refl _, Nat.le_refl _⟩ (X8_openFamily_ct hI hF hO hg1.1 (fun h2 hF2 hP _ => ?_))
    try simp only [zup_ap, zup_row, ne_eq, not_false_eq_true, zres, Int.toNat_natCast, reduceIte, Nat.reduceEqDiff, Nat.reduceAdd, and_self, and_true, true_and, and_false, false_and]
    refine z_al0 dX8_splits_16 (by first | decide | omega | assumption) ?_
    refine z_getR zfX8_49 dX8_splits_17 (zkB hΓ rfl) rfl (zsB hΓ rfl) (zvB hΓ (by decide)) ?_
    refine z_il2 dX8_splits_20 ?_
    obtain ⟨s9, rfl⟩ := Int.eq_ofNat_of_zero_le (show 0 ≤ s by omega)
    refine zcv1 dX8_splits_21 zkX8_184 ziX4_partitions zsX4_partitions (zkB hΓ rfl) (by decide) rfl (Nat.le_of_ble_eq_true rfl) (by decide) (by first | decide | omega) ⟨Nat.le_refl _, Nat.le_refl _⟩ (X4_partitions_ct hΓ hP (by omega) (by omega) (fun h3 hE3 _ => ?_))
    try simp only [zup_ap, zup_row, ne_eq, not_false_eq_true, zres, Int.toNat_natCast, reduceIte, Nat.reduceEqDiff, Nat.reduceAdd, and_self, and_true, true_and, and_false, false_and]
    refine z_iret dX8_splits_24 rfl (Nat.le_refl _) (Nat.le_refl _) (zext_rf _) (fun hrr => ?_)
    have hw9 := hQ _ (zfr_P hF2 hE3)
    unfold zvSplits at hw9
    rw [if_pos (by omega)] at hw9
    rw [Int.toNat_natCast] at hw9
    exact hw9
set_option maxRecDepth 4000 in
theorem X9_so_l {l : Launch} {Γ : zC} {h : zM} {Q : Option zV → zC → zM → Prop} {b : Nat → Int} {n g mx f : Nat} {T : Int} (hΓ : zBase Γ) (hB : ∀ n, n ≤ 200 → h 102 n = b n) (hn : n ≤ f + 1) (hg : g + n ≤ 30) (hT : T ≤ 1073741824) (hR : ∀ {n g m : Nat} {Q : Option zV → zC → zM → Prop}, n ≤ f → g + n ≤ 30 → m ≤ 30 → Q (some (zI (zsp b f n g m))) Γ h → zCT l mX9_splitsOf f 0 0 Γ [zR 89, zI (n : Int), zI (g : Int), zI (m : Int)] h Q) (hQ : Q (some (zI T)) Γ h) : ∀ (m : Nat) (c9 v : Int), c9 < m → 0 ≤ c9 → c9 ≤ n → 0 ≤ v → v + zsm (fun p => if b p = 0 then zsp b f (n - p) (g + 1) p else 0) c9.toNat = T → zG (zFn l mX9_splitsOf (f + 1) 0 0 Γ Q) 0 0 Γ h 29 [some (zR 89), some (zI (n : Int)), some (zI (g : Int)), some (zI (mx : Int)), some (zI v), some (zI c9)] [] := by
  intro m
  induction m with
  | zero => intros; omega
  | succ m ih =>
    intro c9 v hm h1 h2 h3 hv
    refine z_il5 dX9_splitsOf_29 ?_
    refine z_if_le (t := 68) dX9_splitsOf_31 (by rfl) (fun ht31 => ?_) (fun hf31 => ?_)
    · refine z_il4 dX9_splitsOf_68 ?_
      refine z_iret dX9_splitsOf_70 rfl (Nat.le_refl _) (Nat.le_refl _) (zext_rf _) (fun hrr => ?_)
      rw [show c9.toNat = 0 by omega] at hv
      have ev : v = T := by
        have e : zsm (fun p => if b p = 0 then zsp b f (n - p) (g + 1) p else 0) 0 = 0 := rfl
        rw [e] at hv; omega
      subst ev
      exact hQ
    · obtain ⟨c, rfl⟩ := Int.eq_ofNat_of_zero_le (show 0 ≤ c9 by omega)
      have ec : c = (c - 1) + 1 := by omega
      rw [Int.toNat_natCast, ec, zsm, ← ec] at hv
      have hb4 : 0 ≤ zsm (fun p => if b p = 0 then zsp b f (n - p) (g + 1) p else 0) (c - 1) := zsm_mono (m := c - 1) (k := 0) (fun p => (zite_b (zsp_b b f (n - p) (g + 1) p) (by have := zp2_0 (n - p); omega)).1) (by omega)
      have hb3 := zsp_b b f (n - c) (g + 1) c
      refine z_al0 dX9_splitsOf_34 (by first | decide | omega | assumption) ?_
      refine z_getR zfX9_68 dX9_splitsOf_35 (zkB hΓ rfl) rfl (zsB hΓ rfl) (zvB hΓ (by decide)) ?_
      refine z_il5 dX9_splitsOf_38 ?_
      refine z_zald dX9_splitsOf_40 (zkB hΓ rfl) (by omega) (by omega) ?_
      try simp only [Int.toNat_natCast]
      rw [hB _ (by omega)]
      try simp only [zup_ap, zup_row, ne_eq, not_false_eq_true, zres, Int.toNat_natCast, reduceIte, Nat.reduceEqDiff, Nat.reduceAdd, and_self, and_true, true_and, and_false, false_and]
      refine z_if_ne (t := 62) dX9_splitsOf_41 (by rfl) (fun ht41 => ?_) (fun hf41 => ?_)
      · refine z_ii5 dX9_splitsOf_62 (by omega) (Nat.le_of_ble_eq_true rfl) rfl ?_
        refine z_goto (t := 29) dX9_splitsOf_65 (by rfl) ?_
        have e1 : ((c : Int) + -1).toNat = c - 1 := by omega
        first
        | exact ih ((c : Int) + -1) _ (by omega) (by omega) (by omega) (by omega) (by rw [e1]; omega)
        | (rw [if_neg (by omega)] at hv
           exact ih ((c : Int) + -1) _ (by omega) (by omega) (by omega) (by omega) (by rw [e1]; omega))
      · refine z_il4 dX9_splitsOf_44 ?_
        refine z_al0 dX9_splitsOf_46 (by first | decide | omega | assumption) ?_
        refine z_il1 dX9_splitsOf_47 ?_
        refine z_il5 dX9_splitsOf_48 ?_
        refine z_isub dX9_splitsOf_50 (by omega) ?_
        refine z_il2 dX9_splitsOf_51 ?_
        refine z_iconst dX9_splitsOf_52 (by decide) ?_
        refine z_iadd dX9_splitsOf_53 (by omega) ?_
        refine z_il5 dX9_splitsOf_54 ?_
        rw [show (n : Int) - (c : Int) = ((n - c : Nat) : Int) by omega, show (g : Int) + 1 = ((g + 1 : Nat) : Int) by omega]
        rw [if_pos (by omega)] at hv
        refine zcv3 dX9_splitsOf_56 zkX9_364 ziX9_splitsOf zsX9_splitsOf (zkB hΓ rfl) (by decide) rfl (Nat.le_of_ble_eq_true rfl) (by decide) (by first | decide | omega) ⟨Nat.le_refl _, Nat.le_refl _⟩ (hR (n := n - c) (g := g + 1) (m := c) (by omega) (by omega) (by omega) (fun _ => ?_))
        try simp only [zup_ap, zup_row, ne_eq, not_false_eq_true, zres, Int.toNat_natCast, reduceIte, Nat.reduceEqDiff, Nat.reduceAdd, and_self, and_true, true_and, and_false, false_and]
        refine z_iadd dX9_splitsOf_59 (by show zo32 _; unfold zo32; omega) ?_
        refine z_is4 dX9_splitsOf_60 (Nat.le_of_ble_eq_true rfl) rfl ?_
        refine z_ii5 dX9_splitsOf_62 (by omega) (Nat.le_of_ble_eq_true rfl) rfl ?_
        refine z_goto (t := 29) dX9_splitsOf_65 (by rfl) ?_
        have e1 : ((c : Int) + -1).toNat = c - 1 := by omega
        first
        | exact ih ((c : Int) + -1) _ (by omega) (by omega) (by omega) (by omega) (by rw [e1]; omega)
        | (rw [if_neg (by omega)] at hv
           exact ih ((c : Int) + -1) _ (by omega) (by omega) (by omega) (by omega) (by rw [e1]; omega))
set_option maxRecDepth 4000 in
theorem X9_splitsOf_ct {l : Launch} {Γ : zC} {h : zM} {b : Nat → Int} (hΓ : zBase Γ) (hB : ∀ n, n ≤ 200 → h 102 n = b n) : ∀ (f : Nat), f ≤ 30 → ∀ {n g m : Nat} {Q : Option zV → zC → zM → Prop}, n ≤ f → g + n ≤ 30 → m ≤ 30 → Q (some (zI (zsp b f n g m))) Γ h → zCT l mX9_splitsOf f 0 0 Γ [zR 89, zI (n : Int), zI (g : Int), zI (m : Int)] h Q
  | 0, hf, n, g, m, Q, hn, hgn, hm, hQ => by
    refine zCT_of (by decide) (Nat.le_of_ble_eq_true rfl) (ls := [some (zR 89), some (zI (n : Int)), some (zI (g : Int)), some (zI (m : Int)), none, none]) rfl ?_
    refine z_il1 dX9_splitsOf_0 ?_
    refine z_if_ne (t := 19) dX9_splitsOf_1 (by rfl) (fun ht1 => ?_) (fun hf1 => ?_)
    · exfalso; omega
    · refine z_al0 dX9_splitsOf_4 (by first | decide | omega | assumption) ?_
      refine z_getR zfX9_68 dX9_splitsOf_5 (zkB hΓ rfl) rfl (zsB hΓ rfl) (zvB hΓ (by decide)) ?_
      refine z_il2 dX9_splitsOf_8 ?_
      refine z_zald dX9_splitsOf_9 (zkB hΓ rfl) (by omega) (by omega) ?_
      try simp only [Int.toNat_natCast]
      rw [hB _ (by omega)]
      try simp only [zup_ap, zup_row, ne_eq, not_false_eq_true, zres, Int.toNat_natCast, reduceIte, Nat.reduceEqDiff, Nat.reduceAdd, and_self, and_true, true_and, and_false, false_and]
      refine z_if_eq (t := 17) dX9_splitsOf_10 (by rfl) (fun ht10 => ?_) (fun hf10 => ?_)
      · refine z_iconst dX9_splitsOf_17 (by decide) ?_
        refine z_iret dX9_splitsOf_18 rfl (Nat.le_refl _) (Nat.le_refl _) (zext_rf _) (fun hrr => ?_)
        have e0 : n = 0 := by omega
        subst e0
        rw [zsp_z] at hQ
        first
        | (rw [if_pos (by omega)] at hQ; exact hQ)
        | (rw [if_neg (by omega)] at hQ; exact hQ)
      · refine z_iconst dX9_splitsOf_13 (by decide) ?_
        refine z_goto (t := 18) dX9_splitsOf_14 (by rfl) ?_
        refine z_iret dX9_splitsOf_18 rfl (Nat.le_refl _) (Nat.le_refl _) (zext_rf _) (fun hrr => ?_)
        have e0 : n = 0 := by omega
        subst e0
        rw [zsp_z] at hQ
        first
        | (rw [if_pos (by omega)] at hQ; exact hQ)
        | (rw [if_neg (by omega)] at hQ; exact hQ)
  | f + 1, hf, n, g, m, Q, hn, hgn, hm, hQ => by
    refine zCT_of (by decide) (Nat.le_of_ble_eq_true rfl) (ls := [some (zR 89), some (zI (n : Int)), some (zI (g : Int)), some (zI (m : Int)), none, none]) rfl ?_
    refine z_il1 dX9_splitsOf_0 ?_
    refine z_if_ne (t := 19) dX9_splitsOf_1 (by rfl) (fun ht1 => ?_) (fun hf1 => ?_)
    · refine z_iconst dX9_splitsOf_19 (by decide) ?_
      refine z_is4 dX9_splitsOf_20 (Nat.le_of_ble_eq_true rfl) rfl ?_
      refine z_il3 dX9_splitsOf_22 ?_
      refine z_il1 dX9_splitsOf_23 ?_
      refine z_mmin dX9_splitsOf_24 zkX9_347 ztJ9_min_7cf53 (Nat.le_of_ble_eq_true rfl) (by first | decide | omega) ⟨Nat.le_refl _, Nat.le_refl _⟩ ?_
      refine z_is5 dX9_splitsOf_27 (Nat.le_of_ble_eq_true rfl) rfl ?_
      rw [show (if (n : Int) < (m : Int) then (n : Int) else (m : Int)) = ((min m n : Nat) : Int) by split <;> omega]
      have hT9 := (zsp_b b (f + 1) n g m).2
      rw [zsp, if_neg (show ¬ n = 0 by omega)] at hT9 hQ
      have hp9 := zp2_30 (n := n) (by omega)
      exact X9_so_l hΓ hB hn hgn (by omega) (fun a1 a2 a3 q => X9_splitsOf_ct hΓ hB f (by omega) a1 a2 a3 q) hQ (min m n + 1) ((min m n : Nat) : Int) 0 (by omega) (by omega) (by omega) (by omega) (by rw [Int.toNat_natCast, Int.zero_add])
    · refine z_al0 dX9_splitsOf_4 (by first | decide | omega | assumption) ?_
      refine z_getR zfX9_68 dX9_splitsOf_5 (zkB hΓ rfl) rfl (zsB hΓ rfl) (zvB hΓ (by decide)) ?_
      refine z_il2 dX9_splitsOf_8 ?_
      refine z_zald dX9_splitsOf_9 (zkB hΓ rfl) (by omega) (by omega) ?_
      try simp only [Int.toNat_natCast]
      rw [hB _ (by omega)]
      try simp only [zup_ap, zup_row, ne_eq, not_false_eq_true, zres, Int.toNat_natCast, reduceIte, Nat.reduceEqDiff, Nat.reduceAdd, and_self, and_true, true_and, and_false, false_and]
      refine z_if_eq (t := 17) dX9_splitsOf_10 (by rfl) (fun ht10 => ?_) (fun hf10 => ?_)
      · refine z_iconst dX9_splitsOf_17 (by decide) ?_
        refine z_iret dX9_splitsOf_18 rfl (Nat.le_refl _) (Nat.le_refl _) (zext_rf _) (fun hrr => ?_)
        have e0 : n = 0 := by omega
        subst e0
        rw [zsp_z] at hQ
        first
        | (rw [if_pos (by omega)] at hQ; exact hQ)
        | (rw [if_neg (by omega)] at hQ; exact hQ)
      · refine z_iconst dX9_splitsOf_13 (by decide) ?_
        refine z_goto (t := 18) dX9_splitsOf_14 (by rfl) ?_
        refine z_iret dX9_splitsOf_18 rfl (Nat.le_refl _) (Nat.le_refl _) (zext_rf _) (fun hrr => ?_)
        have e0 : n = 0 := by omega
        subst e0
        rw [zsp_z] at hQ
        first
        | (rw [if_pos (by omega)] at hQ; exact hQ)
        | (rw [if_neg (by omega)] at hQ; exact hQ)
set_option maxRecDepth 4000 in
theorem X9_splits_ct {l : Launch} {Γ : zC} {h0 h : zM} {Q : Option zV → zC → zM → Prop} {i s : Int} (hI : zIv Γ h0) (hF : zfr zSS h0 h) (hQ : ∀ h9, zfr zSS h0 h9 → Q (some (zI (zvSplits h0 i s))) Γ h9) : zCT l mX9_splits 1682 0 0 Γ [zR 89, zI i, zI s] h Q := by
  have hΓ := hI.base
  have hx2 := hI.isl
  have hx3 := hI.hnd
  obtain ⟨hd, hhd⟩ := Int.eq_ofNat_of_zero_le (show 0 ≤ h0 89 32 by omega)
  have hdn : (h0 89 32).toNat = hd := by omega
  have hnw := hI.now
  refine zCT_of (by decide) (Nat.le_of_ble_eq_true rfl) (ls := [some (zR 89), some (zI i), some (zI s)]) rfl ?_
  refine z_al0 dX9_splits_0 (by first | decide | omega | assumption) ?_
  refine z_iconst dX9_splits_1 (by decide) ?_
  refine z_putI zfX9_128 dX9_splits_2 (zkB hΓ rfl) rfl rfl ?_
  replace hF : zfr zSS h0 (zup h 89 0 0) := zfr_up hF rfl
  generalize zup h 89 0 0 = h at hF ⊢
  refine z_al0 dX9_splits_5 (by first | decide | omega | assumption) ?_
  refine z_il1 dX9_splits_6 ?_
  refine zcv1 dX9_splits_7 zkX9_299 ziX9_isIsle zsX9_isIsle (zkB hΓ rfl) (by decide) rfl (Nat.le_of_ble_eq_true rfl) (by decide) (by first | decide | omega) ⟨Nat.le_refl _, Nat.le_refl _⟩ (X9_isIsle_ct hI hF (fun hg1 _ => ?_) (fun hg1 _ => ?_))
  · try simp only [zup_ap, zup_row, ne_eq, not_false_eq_true, zres, Int.toNat_natCast, reduceIte, Nat.reduceEqDiff, Nat.reduceAdd, and_self, and_true, true_and, and_false, false_and]
    refine z_if_eq (t := 25) dX9_splits_10 (by rfl) (fun _ => ?_) (fun hx => absurd hx (by decide))
    refine z_iconst dX9_splits_25 (by decide) ?_
    refine z_iret dX9_splits_26 rfl (Nat.le_refl _) (Nat.le_refl _) (zext_rf _) (fun hrr => ?_)
    have hw9 := hQ _ hF
    unfold zvSplits at hw9
    rw [if_neg (by omega)] at hw9
    exact hw9
  · try simp only [zup_ap, zup_row, ne_eq, not_false_eq_true, zres, Int.toNat_natCast, reduceIte, Nat.reduceEqDiff, Nat.reduceAdd, and_self, and_true, true_and, and_false, false_and]
    refine z_if_eq (t := 25) dX9_splits_10 (by rfl) (fun hx => absurd hx (by decide)) (fun _ => ?_)
    refine z_il2 dX9_splits_13 ?_
    refine z_i2l dX9_splits_14 ?_
    refine z_lconst (x := 1) dX9_splits_15 (by rfl) (by decide) ?_
    refine z_ldc2 (x := 30) dX9_splits_16 zqX9_362 (by decide) ?_
    refine zcs3 dX9_splits_19 zkX9_261 ztX9_isIn (Nat.le_of_ble_eq_true rfl) (by decide) (by first | decide | omega) ⟨Nat.le_refl _, Nat.le_refl _⟩ (X9_isIn_ct (fun hg2 _ => ?_) (fun hg2 _ => ?_))
    · try simp only [zup_ap, zup_row, ne_eq, not_false_eq_true, zres, Int.toNat_natCast, reduceIte, Nat.reduceEqDiff, Nat.reduceAdd, and_self, and_true, true_and, and_false, false_and]
      refine z_if_ne (t := 27) dX9_splits_22 (by rfl) (fun hx => absurd hx (by decide)) (fun _ => ?_)
      refine z_iconst dX9_splits_25 (by decide) ?_
      refine z_iret dX9_splits_26 rfl (Nat.le_refl _) (Nat.le_refl _) (zext_rf _) (fun hrr => ?_)
      have hw9 := hQ _ hF
      unfold zvSplits at hw9
      rw [if_neg (by omega)] at hw9
      exact hw9
    · try simp only [zup_ap, zup_row, ne_eq, not_false_eq_true, zres, Int.toNat_natCast, reduceIte, Nat.reduceEqDiff, Nat.reduceAdd, and_self, and_true, true_and, and_false, false_and]
      refine z_if_ne (t := 27) dX9_splits_22 (by rfl) (fun _ => ?_) (fun hx => absurd hx (by decide))
      refine z_al0 dX9_splits_27 (by first | decide | omega | assumption) ?_
      refine z_il1 dX9_splits_28 ?_
      refine z_al0 dX9_splits_29 (by first | decide | omega | assumption) ?_
      refine z_getI zfX9_288 dX9_splits_30 (zkB hΓ rfl) rfl ?_
      rw [hF 89 29 rfl]
      try simp only [zup_ap, zup_row, ne_eq, not_false_eq_true, zres, Int.toNat_natCast, reduceIte, Nat.reduceEqDiff, Nat.reduceAdd, and_self, and_true, true_and, and_false, false_and]
      refine zcv2 dX9_splits_33 zkX9_337 ziX9_layBad zsX9_layBad (zkB hΓ rfl) (by decide) rfl (Nat.le_of_ble_eq_true rfl) (by decide) (by first | decide | omega) ⟨Nat.le_refl _, Nat.le_refl _⟩ (X9_layBad_ct hI hF hg1 (fun h2 hA2 hB2 _ => ?_))
      try simp only [zup_ap, zup_row, ne_eq, not_false_eq_true, zres, Int.toNat_natCast, reduceIte, Nat.reduceEqDiff, Nat.reduceAdd, and_self, and_true, true_and, and_false, false_and]
      replace hF := zfr_B hF zs102 hA2
      obtain ⟨s, rfl⟩ := Int.eq_ofNat_of_zero_le (show 0 ≤ s by omega)
      have hw9 := hQ _ hF
      unfold zvSplits at hw9
      rw [if_pos (by omega)] at hw9
      unfold zal at hw9
      rw [Int.toNat_natCast, ← zsp_c _ (by omega)] at hw9
      refine z_al0 dX9_splits_36 (by first | decide | omega | assumption) ?_
      refine z_il2 dX9_splits_37 ?_
      refine z_iconst dX9_splits_38 (by decide) ?_
      refine z_il2 dX9_splits_39 ?_
      refine zcv3 dX9_splits_40 zkX9_364 ziX9_splitsOf zsX9_splitsOf (zkB hΓ rfl) (by decide) rfl (Nat.le_of_ble_eq_true rfl) (by decide) (by first | decide | omega) ⟨Nat.le_refl _, Nat.le_refl _⟩ (X9_splitsOf_ct hΓ hB2 s (by omega) (n := s) (g := 0) (m := s) (Nat.le_refl _) (by omega) (by omega) (fun _ => ?_))
      try simp only [zup_ap, zup_row, ne_eq, not_false_eq_true, zres, Int.toNat_natCast, reduceIte, Nat.reduceEqDiff, Nat.reduceAdd, and_self, and_true, true_and, and_false, false_and]
      refine z_iret dX9_splits_43 rfl (Nat.le_refl _) (Nat.le_refl _) (zext_rf _) (fun hrr => ?_)
      exact hw9
