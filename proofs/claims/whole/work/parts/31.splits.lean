/-! in how many ways a family splits -/
theorem zsm_add (f g : Nat → Int) : ∀ m, zsm (fun p => f p + g p) m = zsm f m + zsm g m
  | 0 => rfl
  | m + 1 => by rw [zsm, zsm, zsm, zsm_add f g m]; omega
theorem zsm_0 {f : Nat → Int} : ∀ {m}, (∀ p, 1 ≤ p → p ≤ m → f p = 0) → zsm f m = 0
  | 0, _ => rfl
  | m + 1, h => by rw [zsm, zsm_0 (fun p a b => h p a (by omega)), h (m + 1) (by omega) (Nat.le_refl _)]; rfl
theorem zsm_sw (f : Nat → Nat → Int) (J : Nat) : ∀ M, zsm (fun p => zsm (fun j => f p j) J) M = zsm (fun j => zsm (fun p => f p j) M) J
  | 0 => by rw [zsm, zsm_0 (fun _ _ _ => rfl)]
  | M + 1 => by rw [zsm, zsm_sw f J M, ← zsm_add]; rfl
theorem zsm_sh (f : Nat → Int) : ∀ m, zsm f (m + 1) = f 1 + zsm (fun j => f (j + 1)) m
  | 0 => by show 0 + f 1 = f 1 + 0; omega
  | m + 1 => by rw [zsm, zsm_sh f m, zsm]; omega
theorem zsm_if {c : Prop} [Decidable c] (f : Nat → Int) (m : Nat) : (if c then zsm f m else 0) = zsm (fun p => if c then f p else 0) m := by
  split
  · rfl
  · rw [zsm_0 (fun _ _ _ => rfl)]
def zpcS (s : Nat) (c : Bool) (f : Nat → Nat → Int) : Nat → Nat → Int
  | 0, n => f 0 n
  | j + 1, n => f (j + 1) n + (if c = true ∧ s ≤ n then zpcS s c f j (n - s) else 0)
/-- in how many ways n splits into so many groups, none greater than m -/
def zpc (b : Nat → Int) : Nat → Nat → Nat → Int
  | 0 => fun j n => if j = 0 ∧ n = 0 then 1 else 0
  | m + 1 => zpcS (m + 1) (decide (b (m + 1) = 0)) (zpc b m)
theorem zpc_s (b : Nat → Int) (m j n : Nat) : zpc b (m + 1) (j + 1) n = zpc b m (j + 1) n + (if b (m + 1) = 0 ∧ m + 1 ≤ n then zpc b (m + 1) j (n - (m + 1)) else 0) := by
  show zpcS _ _ _ (j + 1) n = _
  rw [zpcS]
  simp only [decide_eq_true_eq]
  rfl
theorem zpc_0 (b : Nat → Int) : ∀ m n, zpc b m 0 n = if n = 0 then 1 else 0
  | 0, n => by show (if 0 = 0 ∧ n = 0 then (1 : Int) else 0) = _; simp
  | m + 1, n => zpc_0 b m n
theorem zpc_u (b : Nat → Int) (j n : Nat) : ∀ m, zpc b m (j + 1) n = zsm (fun p => if b p = 0 then zpc b p j (n - p) else 0) (min m n)
  | 0 => by
    rw [Nat.zero_min]
    show (if j + 1 = 0 ∧ n = 0 then (1 : Int) else 0) = 0
    rw [if_neg (by omega)]
  | m + 1 => by
    rw [zpc_s, zpc_u b j n m]
    by_cases h : m + 1 ≤ n
    · rw [show min (m + 1) n = m + 1 by omega, show min m n = m by omega, zsm]
      congr 1
      by_cases h2 : b (m + 1) = 0
      · rw [if_pos ⟨h2, h⟩, if_pos h2]
      · rw [if_neg (fun e => h2 e.1), if_neg h2]
    · rw [show min (m + 1) n = min m n by omega, if_neg (fun e => h e.2), Int.add_zero]
theorem zpc_z (b : Nat → Int) : ∀ j m n, n < j → zpc b m j n = 0
  | 0, m, n, h => by omega
  | j + 1, m, n, h => by
    rw [zpc_u]
    refine zsm_0 (fun p h1 h2 => ?_)
    split
    · exact zpc_z b j p (n - p) (by omega)
    · rfl
theorem zsm_2 {f : Nat → Int} {n : Nat} (h : ∀ p, 1 ≤ p → p ≤ n → 0 ≤ f p ∧ f p ≤ (2 : Int) ^ (n - p)) : ∀ m, m ≤ n → 0 ≤ zsm f m ∧ zsm f m ≤ (2 : Int) ^ n - (2 : Int) ^ (n - m)
  | 0, _ => ⟨Int.le_refl _, by show (0 : Int) ≤ _; rw [Nat.sub_zero]; omega⟩
  | m + 1, hm => by
    have h1 := zsm_2 h m (by omega)
    have h2 := h (m + 1) (by omega) hm
    rw [show n - m = (n - (m + 1)) + 1 by omega, Int.pow_succ] at h1
    rw [zsm]
    omega
theorem zp2_0 (n : Nat) : (1 : Int) ≤ (2 : Int) ^ n := by
  induction n with
  | zero => decide
  | succ n ih => rw [Int.pow_succ]; omega
theorem zp2_30 {n : Nat} (h : n ≤ 30) : (2 : Int) ^ n ≤ 1073741824 := by
  have key : ∀ k : Fin 31, (2 : Int) ^ k.val ≤ 1073741824 := by decide +kernel
  exact key ⟨n, by omega⟩
theorem zpc_b (b : Nat → Int) : ∀ j m n, 0 ≤ zpc b m j n ∧ zpc b m j n ≤ (2 : Int) ^ n
  | 0, m, n => by
    rw [zpc_0]
    have := zp2_0 n
    split <;> omega
  | j + 1, m, n => by
    rw [zpc_u]
    have h1 := zsm_2 (f := fun p => if b p = 0 then zpc b p j (n - p) else 0) (n := n) (fun p _ _ => zite_b (zpc_b b j p (n - p)) (by have := zp2_0 (n - p); omega)) (min m n) (by omega)
    have h2 := zp2_0 (n - min m n)
    exact ⟨h1.1, by omega⟩
/-- the reference's count: n left, so many groups already, none greater than m -/
def zsp (b : Nat → Int) : Nat → Nat → Nat → Nat → Int
  | 0, n, g, _ => if n = 0 then (if b g = 0 then 1 else 0) else 0
  | f + 1, n, g, m => if n = 0 then (if b g = 0 then 1 else 0) else zsm (fun p => if b p = 0 then zsp b f (n - p) (g + 1) p else 0) (min m n)
theorem zsp_b (b : Nat → Int) : ∀ f n g m, 0 ≤ zsp b f n g m ∧ zsp b f n g m ≤ (2 : Int) ^ n
  | 0, n, g, m => by
    have := zp2_0 n
    unfold zsp
    split
    · split <;> omega
    · omega
  | f + 1, n, g, m => by
    have := zp2_0 n
    unfold zsp
    split
    · split <;> omega
    · have h1 := zsm_2 (f := fun p => if b p = 0 then zsp b f (n - p) (g + 1) p else 0) (n := n) (fun p _ _ => zite_b (zsp_b b f (n - p) (g + 1) p) (by have := zp2_0 (n - p); omega)) (min m n) (by omega)
      have h2 := zp2_0 (n - min m n)
      exact ⟨h1.1, by omega⟩
theorem zsp_e (b : Nat → Int) : ∀ f n g m J, n ≤ f → n + 1 ≤ J → zsp b f n g m = zsm (fun j => if b (g + (j - 1)) = 0 then zpc b m (j - 1) n else 0) J
  | f, 0, g, m, J, _, hJ => by
    rw [show J = (J - 1) + 1 by omega, zsm_sh, zsm_0 (fun p h1 h2 => by
      show (if b (g + (p + 1 - 1)) = 0 then zpc b m (p + 1 - 1) 0 else 0) = 0
      rw [show p + 1 - 1 = p by omega, zpc_z b p m 0 (by omega)]
      split <;> rfl), Int.add_zero]
    show _ = if b (g + 0) = 0 then zpc b m 0 0 else 0
    rw [zpc_0, if_pos rfl, Nat.add_zero]
    cases f with
    | zero => unfold zsp; rw [if_pos rfl]
    | succ f => unfold zsp; rw [if_pos rfl]
  | 0, n + 1, g, m, J, h, _ => by omega
  | f + 1, n + 1, g, m, J, h, hJ => by
    rw [zsp, if_neg (by omega)]
    rw [show J = (J - 1) + 1 by omega, zsm_sh]
    show _ = (if b (g + 0) = 0 then zpc b m 0 (n + 1) else 0) + _
    rw [zpc_0, if_neg (show ¬ n + 1 = 0 by omega)]
    rw [show (if b (g + 0) = 0 then (0 : Int) else 0) = 0 by split <;> rfl, Int.zero_add]
    rw [zsm_cg (f := fun j => if b (g + (j + 1 - 1)) = 0 then zpc b m (j + 1 - 1) (n + 1) else 0) (g := fun j => zsm (fun p => if b (g + j) = 0 then (if b p = 0 then zpc b p (j - 1) (n + 1 - p) else 0) else 0) (min m (n + 1))) (J - 1) (fun j h1 h2 => by
      show (if b (g + (j + 1 - 1)) = 0 then zpc b m (j + 1 - 1) (n + 1) else 0) = _
      rw [show j + 1 - 1 = (j - 1) + 1 by omega, zpc_u, zsm_if, show g + (j - 1 + 1) = g + j by omega])]
    rw [← zsm_sw (fun p j => if b (g + j) = 0 then (if b p = 0 then zpc b p (j - 1) (n + 1 - p) else 0) else 0)]
    refine zsm_cg _ (fun p h1 h2 => ?_)
    by_cases hp : b p = 0
    · rw [if_pos hp, zsp_e b f (n + 1 - p) (g + 1) p (J - 1) (by omega) (by omega)]
      refine zsm_cg _ (fun j h3 h4 => ?_)
      rw [if_pos hp, show g + 1 + (j - 1) = g + j by omega]
    · rw [if_neg hp, zsm_0 (fun j h3 h4 => by
        show (if b (g + j) = 0 then (if b p = 0 then _ else (0 : Int)) else 0) = 0
        rw [if_neg hp]; split <;> rfl)]
theorem zsp_c (b : Nat → Int) {n : Nat} (h : 1 ≤ n) : zsp b n n 0 n = zsm (fun j => if b j = 0 then zpc b n j n else 0) n := by
  rw [zsp_e b n n 0 n (n + 1) (Nat.le_refl _) (Nat.le_refl _), zsm_sh]
  show (if b (0 + 0) = 0 then zpc b n 0 n else 0) + _ = _
  rw [zpc_0, if_neg (show ¬ n = 0 by omega), show (if b (0 + 0) = 0 then (0 : Int) else 0) = 0 by split <;> rfl, Int.zero_add]
  refine zsm_cg _ (fun j h3 h4 => ?_)
  show (if b (0 + (j + 1 - 1)) = 0 then zpc b n (j + 1 - 1) n else 0) = _
  rw [show j + 1 - 1 = j by omega, Nat.zero_add]
theorem zks46 {Γ : zC} (hΓ : zBase Γ) {j : Nat} (h : j < 31) : zkd Γ (46 + j) = some (.inr (0, 31)) := by
  have key : ∀ k : Fin 31, zkb0 (46 + k.val) = some (.inr (0, 31)) := by decide +kernel
  exact zkB hΓ (key ⟨j, h⟩)
theorem zsr45 {Γ : zC} (hΓ : zBase Γ) {j : Nat} (h : j < 31) : zsr Γ 45 j = some (46 + j) := by
  rw [hΓ.1]; unfold zsrG
  rw [if_neg (by decide), if_neg (by decide), if_pos rfl, if_pos h]
def zfP (h h' : zM) : Prop := ∀ q, ¬ (46 ≤ q ∧ q ≤ 76) → h' q = h q
theorem zfr_P {h0 h h' : zM} (H : zfr zSS h0 h) (H2 : zfP h h') : zfr zSS h0 h' := fun r j q => by
  by_cases hr : 46 ≤ r ∧ r ≤ 76
  · have key : ∀ k : Fin 31, ∀ j, zSS (46 + k.val) j = true := by
      intro k j
      rcases k with ⟨k, hk⟩
      unfold zSS zsRw
      have e1 : Nat.ble (46 + k) 121 = true := Nat.ble_eq_true_of_le (by omega)
      have e2 : Nat.beq (46 + k) 89 = false := by
        cases h : Nat.beq (46 + k) 89 with
        | false => rfl
        | true => exact absurd (Nat.eq_of_beq_eq_true h) (by omega)
      have e3 : Nat.ble 46 (46 + k) = true := Nat.ble_eq_true_of_le (by omega)
      have e4 : Nat.ble (46 + k) 76 = true := Nat.ble_eq_true_of_le (by omega)
      simp only [e1, e2, e3, e4, cond_true, cond_false, Bool.and_true, Bool.or_true, Bool.true_or]
    have e := key ⟨r - 46, by omega⟩ j
    rw [show 46 + (r - 46) = r by omega] at e
    rw [e] at q; cases q
  · rw [H2 r hr]; exact H r j q
set_option maxRecDepth 4000 in
theorem X4_aS_p {l : Launch} {Γ : zC} {h1 : zM} {Q : Option zV → zC → zM → Prop} (hΓ : zBase Γ) {b : Nat → Int} {m s : Nat} {n : Nat} (hs : s ≤ 30) (hb : b (m + 1) = 0) (hn : m + 1 ≤ n ∧ n ≤ s) (hK : ∀ h9 (p : Int), zfP h1 h9 → (∀ j, j ≤ s → ∀ k, k ≤ s → h9 (46 + j) k = if k < n + 1 then zpc b (m + 1) j k else zpc b m j k) → zG (zFn l mX4_addSize 0 0 0 Γ Q) 0 0 Γ h9 47 [some (zR 41), some (zI ((m + 1 : Nat) : Int)), some (zI (s : Int)), some (zI (n : Int)), some (zI p)] []) : ∀ (m9 : Nat) (p : Nat) (h : zM), s + 2 - p < m9 → 1 ≤ p → p ≤ n + 1 → zfP h1 h → (∀ j, j ≤ s → ∀ k, k ≤ s → h (46 + j) k = if k < n ∨ k = n ∧ j < p then zpc b (m + 1) j k else zpc b m j k) → zG (zFn l mX4_addSize 0 0 0 Γ Q) 0 0 Γ h 10 [some (zR 41), some (zI ((m + 1 : Nat) : Int)), some (zI (s : Int)), some (zI (n : Int)), some (zI (p : Int))] [] := by
  intro m9
  induction m9 with
  | zero => intros; omega
  | succ m9 ih =>
    intro p h hm hp1 hp2 hE hD
    refine z_il4 dX4_addSize_10 ?_
    refine z_il3 dX4_addSize_12 ?_
    refine z_icmp_gt (t := 47) dX4_addSize_13 (by rfl) (fun ht13 => ?_) (fun hf13 => ?_)
    · refine hK h p hE (fun j hj k hk => ?_)
      rw [hD j hj k hk]
      by_cases e2 : k < n + 1
      · rw [if_pos e2]
        by_cases e3 : k < n ∨ k = n ∧ j < p
        · rw [if_pos e3]
        · rw [if_neg e3, show k = n by omega, zpc_z b j m n (by omega), zpc_z b j (m + 1) n (by omega)]
      · rw [if_neg e2, if_neg (by omega)]
    · refine z_al0 dX4_addSize_16 (by first | decide | omega | assumption) ?_
      refine z_getR zfX4_24 dX4_addSize_17 (zkB hΓ rfl) rfl (zsB hΓ rfl) (zvB hΓ (by decide)) ?_
      refine z_il4 dX4_addSize_20 ?_
      refine z_aald dX4_addSize_22 (zkB hΓ rfl) (Or.inl rfl) (by omega) (by omega) (q := 46 + p) (by rw [show ((p : Int) : Int).toNat = p by omega, zsr45 hΓ (by omega)]; rfl) (fun _ => zvB hΓ (Or.inl (by omega))) ?_
      refine z_il3 dX4_addSize_23 ?_
      refine z_dup2 dX4_addSize_24 rfl rfl ?_
      refine z_iald dX4_addSize_25 (zks46 hΓ (by omega)) (by omega) (by omega) ?_
      try simp only [zup_ap, zup_row, ne_eq, not_false_eq_true, zres, Int.toNat_natCast, reduceIte, Nat.reduceEqDiff, Nat.reduceAdd, and_self, and_true, true_and, and_false, false_and]
      refine z_al0 dX4_addSize_26 (by first | decide | omega | assumption) ?_
      refine z_getR zfX4_24 dX4_addSize_27 (zkB hΓ rfl) rfl (zsB hΓ rfl) (zvB hΓ (by decide)) ?_
      refine z_il4 dX4_addSize_30 ?_
      refine z_iconst dX4_addSize_32 (by decide) ?_
      refine z_isub dX4_addSize_33 (by omega) ?_
      refine z_aald dX4_addSize_34 (zkB hΓ rfl) (Or.inl rfl) (by omega) (by omega) (q := 46 + (p - 1)) (by rw [show ((p : Int) - 1 : Int).toNat = (p - 1) by omega, zsr45 hΓ (by omega)]; rfl) (fun _ => zvB hΓ (Or.inl (by omega))) ?_
      refine z_il3 dX4_addSize_35 ?_
      refine z_il1 dX4_addSize_36 ?_
      refine z_isub dX4_addSize_37 (by omega) ?_
      refine z_iald dX4_addSize_38 (zks46 hΓ (by omega)) (by omega) (by omega) ?_
      try simp only [zup_ap, zup_row, ne_eq, not_false_eq_true, zres, Int.toNat_natCast, reduceIte, Nat.reduceEqDiff, Nat.reduceAdd, and_self, and_true, true_and, and_false, false_and]
      refine z_iadd dX4_addSize_39 (by rw [show ((n : Int) - ((m + 1 : Nat) : Int)).toNat = n - (m + 1) by omega, Int.toNat_natCast, hD p (by omega) n (by omega), hD (p - 1) (by omega) (n - (m + 1)) (by omega)]
          rw [if_neg (by omega), if_pos (by omega)]
          have h1 := zpc_b b p m n
          have h2 := zpc_b b (p - 1) (m + 1) (n - (m + 1))
          have h3 := zp2_30 (n := n) (by omega)
          have h4 := zp2_30 (n := n - (m + 1)) (by omega)
          have h5 := zpc_b b p (m + 1) n
          have h6 := zpc_s b m (p - 1) n
          rw [show p - 1 + 1 = p by omega, if_pos ⟨hb, by omega⟩] at h6
          unfold zo32
          omega) ?_
      refine z_iast dX4_addSize_40 (zks46 hΓ (by omega)) (by omega) (by omega) ?_
      refine z_ii4 dX4_addSize_41 (by omega) (Nat.le_of_ble_eq_true rfl) rfl ?_
      refine z_goto (t := 10) dX4_addSize_44 (by rfl) ?_
      refine ih (p + 1) _ (by omega) (by omega) (by omega) (fun q hq => (zup_row (by omega)).trans (hE q hq)) (fun j hj k hk => ?_)
      by_cases e : j = p ∧ k = n
      · obtain ⟨rfl, rfl⟩ := e
        rw [zup_ap]
        refine (if_pos ⟨rfl, by omega⟩).trans ?_
        rw [show ((k : Int) - ((m + 1 : Nat) : Int)).toNat = k - (m + 1) by omega, Int.toNat_natCast, hD j (by omega) k (by omega), hD (j - 1) (by omega) (k - (m + 1)) (by omega)]
        rw [if_neg (by omega), if_pos (by omega), if_pos (by omega)]
        have h6 := zpc_s b m (j - 1) k
        rw [show j - 1 + 1 = j by omega, if_pos ⟨hb, by omega⟩] at h6
        exact h6.symm
      · rw [zup_ap, if_neg (fun x => e ⟨by have := x.1; omega, by have := x.2; omega⟩), hD j hj k hk]
        by_cases e2 : k < n ∨ k = n ∧ j < p
        · rw [if_pos e2, if_pos (by omega)]
        · rw [if_neg e2, if_neg (by omega)]
set_option maxRecDepth 4000 in
theorem X4_aS_n {l : Launch} {Γ : zC} {h1 : zM} {Q : Option zV → zC → zM → Prop} (hΓ : zBase Γ) {b : Nat → Int} {m s : Nat} (hs : s ≤ 30) (hb : b (m + 1) = 0) (hQ : ∀ h9, zfP h1 h9 → (∀ j, j ≤ s → ∀ k, k ≤ s → h9 (46 + j) k = zpc b (m + 1) j k) → Q none Γ h9) : ∀ (m9 : Nat) (n : Nat) (h : zM) (y : Option zV), s + 1 - n < m9 → m + 1 ≤ n → n ≤ s + 1 → zfP h1 h → (∀ j, j ≤ s → ∀ k, k ≤ s → h (46 + j) k = if k < n then zpc b (m + 1) j k else zpc b m j k) → zG (zFn l mX4_addSize 0 0 0 Γ Q) 0 0 Γ h 2 [some (zR 41), some (zI ((m + 1 : Nat) : Int)), some (zI (s : Int)), some (zI (n : Int)), y] [] := by
  intro m9
  induction m9 with
  | zero => intros; omega
  | succ m9 ih =>
    intro n h y hm hn1 hn2 hE hD
    refine z_il3 dX4_addSize_2 ?_
    refine z_il2 dX4_addSize_3 ?_
    refine z_icmp_gt (t := 53) dX4_addSize_4 (by rfl) (fun ht4 => ?_) (fun hf4 => ?_)
    · refine z_ret dX4_addSize_53 rfl (Nat.le_refl _) (Nat.le_refl _) (zext_rf _) ?_
      refine hQ h hE (fun j hj k hk => ?_)
      rw [hD j hj k hk, if_pos (by omega)]
    · refine z_iconst dX4_addSize_7 (by decide) ?_
      refine z_is4 dX4_addSize_8 (Nat.le_of_ble_eq_true rfl) rfl ?_
      refine X4_aS_p hΓ (b := b) (m := m) (s := s) (n := n) hs hb (by omega) (fun h9 p hE9 hD9 => ?_) _ 1 _ (Nat.lt_succ_self _) (by omega) (by omega) (fun _ _ => rfl) (fun j hj k hk => ?_)
      · refine z_ii3 dX4_addSize_47 (by omega) (Nat.le_of_ble_eq_true rfl) rfl ?_
        refine z_goto (t := 2) dX4_addSize_50 (by rfl) ?_
        exact ih (n + 1) _ _ (by omega) (by omega) (by omega) (fun q hq => (hE9 q hq).trans (hE q hq)) hD9
      · rw [hD j hj k hk]
        by_cases e : k < n
        · rw [if_pos e, if_pos (Or.inl e)]
        · rw [if_neg e]
          by_cases e2 : k = n ∧ j < 1
          · rw [if_pos (Or.inr e2), show j = 0 by omega, zpc_0, zpc_0]
          · rw [if_neg (by omega)]
set_option maxRecDepth 4000 in
theorem X4_addSize_ct {l : Launch} {Γ : zC} {h1 : zM} {Q : Option zV → zC → zM → Prop} (hΓ : zBase Γ) {b : Nat → Int} {m s : Nat} (hs : s ≤ 30) (hms : m + 1 ≤ s) (hb : b (m + 1) = 0) (hD : ∀ j, j ≤ s → ∀ k, k ≤ s → h1 (46 + j) k = zpc b m j k) (hQ : ∀ h9, zfP h1 h9 → (∀ j, j ≤ s → ∀ k, k ≤ s → h9 (46 + j) k = zpc b (m + 1) j k) → Q none Γ h9) : zCT l mX4_addSize 0 0 0 Γ [zR 41, zI ((m + 1 : Nat) : Int), zI (s : Int)] h1 Q := by
  refine zCT_of (by decide) (Nat.le_of_ble_eq_true rfl) (ls := [some (zR 41), some (zI ((m + 1 : Nat) : Int)), some (zI (s : Int)), none, none]) rfl ?_
  refine z_il1 dX4_addSize_0 ?_
  refine z_is3 dX4_addSize_1 (Nat.le_of_ble_eq_true rfl) rfl ?_
  refine X4_aS_n hΓ hs hb hQ _ (m + 1) _ _ (Nat.lt_succ_self _) (Nat.le_refl _) (by omega) (fun _ _ => rfl) (fun j hj k hk => ?_)
  rw [hD j hj k hk]
  by_cases e : k < m + 1
  · rw [if_pos e]
    cases j with
    | zero => rw [zpc_0, zpc_0]
    | succ j => rw [zpc_s, if_neg (by omega), Int.add_zero]
  · rw [if_neg e]
