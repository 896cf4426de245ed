/-! the tape -/
theorem zup_self (h : zM) (r j : Nat) : zup h r j (h r j) = h := by
  funext a b
  simp only [zup_ap]
  by_cases e : a = r ∧ b = j
  · rw [if_pos e, e.1, e.2]
  · rw [if_neg e]
theorem zup_up (h : zM) (r j : Nat) (x y : Int) : zup (zup h r j x) r j y = zup h r j y := by
  funext a b
  simp only [zup_ap]
  by_cases e : a = r ∧ b = j
  · rw [if_pos e, if_pos e]
  · rw [if_neg e, if_neg e, if_neg e]
theorem zup_eq {h : zM} {r j : Nat} {x : Int} (e : h r j = x) : zup h r j x = h := by rw [← e]; exact zup_self h r j
theorem zQi {Q : Option zV → zC → zM → Prop} {v v' : Int} {Γ : zC} {h h' : zM} (hQ : Q (some (zI v')) Γ h') (e : v = v') (eh : h = h') : Q (some (zI v)) Γ h := by rw [e, eh]; exact hQ
theorem zQn {Q : Option zV → zC → zM → Prop} {Γ : zC} {h h' : zM} (hQ : Q none Γ h') (eh : h = h') : Q none Γ h := by rw [eh]; exact hQ
def zsg (t : Nat → Int) (n p : Nat) : Int := if p < n then t p else -1
def zskipF (t : Nat → Int) (n : Nat) : Nat → Nat → Nat
  | 0, k => k
  | m + 1, k => if k < n ∧ t k = 32 then zskipF t n m (k + 1) else k
def zskip (t : Nat → Int) (n k : Nat) : Nat := zskipF t n (n - k) k
theorem zskip_eq (t : Nat → Int) (n k : Nat) : zskip t n k = if k < n ∧ t k = 32 then zskip t n (k + 1) else k := by
  unfold zskip
  by_cases h : k < n
  · rw [show n - k = (n - (k + 1)) + 1 by omega]; rfl
  · rw [show n - k = 0 by omega]; simp [zskipF, h]
set_option maxRecDepth 4000 in
theorem X5_sign_ct {l : Launch} {Γ : zC} {h : zM} {Q : Option zV → zC → zM → Prop} {n p : Nat} (hΓ : zBase Γ) (hn : h 2 1 = (n : Int)) (hn2 : n ≤ 160) (hp : h 2 2 = (p : Int)) (hQ : Q (some (zI (zsg (h 3) n p))) Γ h) : zCT l mX5_sign 0 0 0 Γ [zR 2] h Q := by
  refine zCT_of (by decide) (Nat.le_of_ble_eq_true rfl) (ls := [some (zR 2)]) rfl ?_
  refine z_al0 dX5_sign_0 (by first | decide | omega) ?_
  refine z_getI zfX5_19 dX5_sign_1 (zkB hΓ rfl) rfl ?_
  try simp only [zup_ap, zup_row, ne_eq, not_false_eq_true, zres, Int.toNat_natCast, reduceIte, Nat.reduceEqDiff, Nat.reduceAdd, and_self, and_true, true_and, and_false, false_and]
  refine z_if_lt (t := 42) dX5_sign_4 (by rfl) (fun ht4 => ?_) (fun hf4 => ?_)
  · refine z_iconst dX5_sign_42 (by decide) ?_
    refine z_iret dX5_sign_43 rfl (Nat.le_refl _) (Nat.le_refl _) (zext_rf _) (fun hrr => ?_)
    refine zQi hQ ?_ rfl
    unfold zsg
    first | (rw [if_pos (by omega)]; rw [hp]; rfl) | rw [if_neg (by omega)]
  · refine z_al0 dX5_sign_7 (by first | decide | omega) ?_
    refine z_getI zfX5_19 dX5_sign_8 (zkB hΓ rfl) rfl ?_
    try simp only [zup_ap, zup_row, ne_eq, not_false_eq_true, zres, Int.toNat_natCast, reduceIte, Nat.reduceEqDiff, Nat.reduceAdd, and_self, and_true, true_and, and_false, false_and]
    refine z_al0 dX5_sign_11 (by first | decide | omega) ?_
    refine z_getI zfX5_15 dX5_sign_12 (zkB hΓ rfl) rfl ?_
    try simp only [zup_ap, zup_row, ne_eq, not_false_eq_true, zres, Int.toNat_natCast, reduceIte, Nat.reduceEqDiff, Nat.reduceAdd, and_self, and_true, true_and, and_false, false_and]
    refine z_icmp_ge (t := 42) dX5_sign_15 (by rfl) (fun ht15 => ?_) (fun hf15 => ?_)
    · refine z_iconst dX5_sign_42 (by decide) ?_
      refine z_iret dX5_sign_43 rfl (Nat.le_refl _) (Nat.le_refl _) (zext_rf _) (fun hrr => ?_)
      refine zQi hQ ?_ rfl
      unfold zsg
      first | (rw [if_pos (by omega)]; rw [hp]; rfl) | rw [if_neg (by omega)]
    · refine z_al0 dX5_sign_18 (by first | decide | omega) ?_
      refine z_getI zfX5_19 dX5_sign_19 (zkB hΓ rfl) rfl ?_
      try simp only [zup_ap, zup_row, ne_eq, not_false_eq_true, zres, Int.toNat_natCast, reduceIte, Nat.reduceEqDiff, Nat.reduceAdd, and_self, and_true, true_and, and_false, false_and]
      refine z_al0 dX5_sign_22 (by first | decide | omega) ?_
      refine z_getR zfX5_9 dX5_sign_23 (zkB hΓ rfl) rfl (zsB hΓ rfl) (zvB hΓ (by decide)) ?_
      refine z_alen dX5_sign_26 (zkB hΓ rfl) (by decide) ?_
      refine z_icmp_ge (t := 42) dX5_sign_27 (by rfl) (fun ht27 => ?_) (fun hf27 => ?_)
      · refine z_iconst dX5_sign_42 (by decide) ?_
        refine z_iret dX5_sign_43 rfl (Nat.le_refl _) (Nat.le_refl _) (zext_rf _) (fun hrr => ?_)
        refine zQi hQ ?_ rfl
        unfold zsg
        first | (rw [if_pos (by omega)]; rw [hp]; rfl) | rw [if_neg (by omega)]
      · refine z_al0 dX5_sign_30 (by first | decide | omega) ?_
        refine z_getR zfX5_9 dX5_sign_31 (zkB hΓ rfl) rfl (zsB hΓ rfl) (zvB hΓ (by decide)) ?_
        refine z_al0 dX5_sign_34 (by first | decide | omega) ?_
        refine z_getI zfX5_19 dX5_sign_35 (zkB hΓ rfl) rfl ?_
        try simp only [zup_ap, zup_row, ne_eq, not_false_eq_true, zres, Int.toNat_natCast, reduceIte, Nat.reduceEqDiff, Nat.reduceAdd, and_self, and_true, true_and, and_false, false_and]
        refine z_iald dX5_sign_38 (zkB hΓ rfl) (by omega) (by omega) ?_
        try simp only [zup_ap, zup_row, ne_eq, not_false_eq_true, zres, Int.toNat_natCast, reduceIte, Nat.reduceEqDiff, Nat.reduceAdd, and_self, and_true, true_and, and_false, false_and]
        refine z_goto (t := 43) dX5_sign_39 (by rfl) ?_
        refine z_iret dX5_sign_43 rfl (Nat.le_refl _) (Nat.le_refl _) (zext_rf _) (fun hrr => ?_)
        refine zQi hQ ?_ rfl
        unfold zsg
        first | (rw [if_pos (by omega)]; rw [hp]; rfl) | rw [if_neg (by omega)]
set_option maxRecDepth 4000 in
theorem X5_skip_loop {l : Launch} {Γ : zC} {h : zM} {Q : Option zV → zC → zM → Prop} {n : Nat} (hΓ : zBase Γ) (hn : h 2 1 = (n : Int)) (hn2 : n ≤ 160) : ∀ (m : Nat) (k : Nat), k ≤ 161 → n - k < m → Q none Γ (zup h 2 2 (zskip (h 3) n k : Nat)) → zG (zFn l mX5_skipBlanks 0 0 0 Γ Q) 0 0 Γ (zup h 2 2 (k : Nat)) 5 [some (zR 2), some (zI (k : Nat))] [] := by
  intro m
  induction m with
  | zero => intros; omega
  | succ m ih =>
    intro k hk hm hQ
    refine z_il1 dX5_skipBlanks_5 ?_
    refine z_if_lt (t := 50) dX5_skipBlanks_6 (by rfl) (fun ht6 => ?_) (fun hf6 => ?_)
    · refine z_ret dX5_skipBlanks_50 rfl (Nat.le_refl _) (Nat.le_refl _) (zext_rf _) ?_
      refine zQn hQ ?_
      rw [zskip_eq, if_neg (by omega)]
    · refine z_il1 dX5_skipBlanks_9 ?_
      refine z_al0 dX5_skipBlanks_10 (by first | decide | omega) ?_
      refine z_getI zfX5_15 dX5_skipBlanks_11 (zkB hΓ rfl) rfl ?_
      try simp only [zup_ap, zup_row, ne_eq, not_false_eq_true, zres, Int.toNat_natCast, reduceIte, Nat.reduceEqDiff, Nat.reduceAdd, and_self, and_true, true_and, and_false, false_and]
      refine z_icmp_ge (t := 50) dX5_skipBlanks_14 (by rfl) (fun ht14 => ?_) (fun hf14 => ?_)
      · refine z_ret dX5_skipBlanks_50 rfl (Nat.le_refl _) (Nat.le_refl _) (zext_rf _) ?_
        refine zQn hQ ?_
        rw [zskip_eq, if_neg (by omega)]
      · refine z_il1 dX5_skipBlanks_17 ?_
        refine z_al0 dX5_skipBlanks_18 (by first | decide | omega) ?_
        refine z_getR zfX5_9 dX5_skipBlanks_19 (zkB hΓ rfl) rfl (zsB hΓ rfl) (zvB hΓ (by decide)) ?_
        refine z_alen dX5_skipBlanks_22 (zkB hΓ rfl) (by decide) ?_
        refine z_icmp_ge (t := 50) dX5_skipBlanks_23 (by rfl) (fun ht23 => ?_) (fun hf23 => ?_)
        · refine z_ret dX5_skipBlanks_50 rfl (Nat.le_refl _) (Nat.le_refl _) (zext_rf _) ?_
          refine zQn hQ ?_
          rw [zskip_eq, if_neg (by omega)]
        · refine z_al0 dX5_skipBlanks_26 (by first | decide | omega) ?_
          refine z_getR zfX5_9 dX5_skipBlanks_27 (zkB hΓ rfl) rfl (zsB hΓ rfl) (zvB hΓ (by decide)) ?_
          refine z_il1 dX5_skipBlanks_30 ?_
          refine z_iald dX5_skipBlanks_31 (zkB hΓ rfl) (by omega) (by omega) ?_
          try simp only [zup_ap, zup_row, ne_eq, not_false_eq_true, zres, Int.toNat_natCast, reduceIte, Nat.reduceEqDiff, Nat.reduceAdd, and_self, and_true, true_and, and_false, false_and]
          refine z_bipush (x := 32) dX5_skipBlanks_32 (by rfl) (by decide) ?_
          refine z_icmp_ne (t := 50) dX5_skipBlanks_34 (by rfl) (fun ht34 => ?_) (fun hf34 => ?_)
          · refine z_ret dX5_skipBlanks_50 rfl (Nat.le_refl _) (Nat.le_refl _) (zext_rf _) ?_
            refine zQn hQ ?_
            rw [zskip_eq, if_neg (by omega)]
          · refine z_al0 dX5_skipBlanks_37 (by first | decide | omega) ?_
            refine z_il1 dX5_skipBlanks_38 ?_
            refine z_iconst dX5_skipBlanks_39 (by decide) ?_
            refine z_iadd dX5_skipBlanks_40 (by omega) ?_
            refine z_putI zfX5_19 dX5_skipBlanks_41 (zkB hΓ rfl) rfl rfl ?_
            refine z_ii1 dX5_skipBlanks_44 (by omega) (Nat.le_of_ble_eq_true rfl) rfl ?_
            refine z_goto (t := 5) dX5_skipBlanks_47 (by rfl) ?_
            rw [zup_up]
            exact ih (k + 1) (by omega) (by omega) (by rw [zskip_eq, if_pos ⟨by omega, by assumption⟩] at hQ; exact hQ)
set_option maxRecDepth 4000 in
theorem X5_skipBlanks_ct {l : Launch} {Γ : zC} {h : zM} {Q : Option zV → zC → zM → Prop} {n p : Nat} (hΓ : zBase Γ) (hn : h 2 1 = (n : Int)) (hn2 : n ≤ 160) (hp : h 2 2 = (p : Int)) (hp2 : p ≤ 161) (hQ : Q none Γ (zup h 2 2 (zskip (h 3) n p : Nat))) : zCT l mX5_skipBlanks 0 0 0 Γ [zR 2] h Q := by
  refine zCT_of (by decide) (Nat.le_of_ble_eq_true rfl) (ls := [some (zR 2), none]) rfl ?_
  refine z_al0 dX5_skipBlanks_0 (by first | decide | omega) ?_
  refine z_getI zfX5_19 dX5_skipBlanks_1 (zkB hΓ rfl) rfl ?_
  try simp only [zup_ap, zup_row, ne_eq, not_false_eq_true, zres, Int.toNat_natCast, reduceIte, Nat.reduceEqDiff, Nat.reduceAdd, and_self, and_true, true_and, and_false, false_and]
  refine z_is1 dX5_skipBlanks_4 (Nat.le_of_ble_eq_true rfl) rfl ?_
  have h9 := X5_skip_loop (l := l) (h := h) hΓ hn hn2 (n - p + 1) p hp2 (by omega) hQ
  rw [zup_eq hp] at h9
  rw [hp]
  exact h9
set_option maxRecDepth 4000 in
theorem X5_begin_ct {l : Launch} {Γ : zC} {h : zM} {Q : Option zV → zC → zM → Prop} {n : Nat} (hΓ : zBase Γ) (hn : h 2 1 = (n : Int)) (hn2 : n ≤ 160) (hQ : Q none Γ (zup h 2 2 (zskip (h 3) n 0 : Nat))) : zCT l mX5_begin 1 0 0 Γ [zR 2] h Q := by
  refine zCT_of (by decide) (Nat.le_of_ble_eq_true rfl) (ls := [some (zR 2)]) rfl ?_
  refine z_al0 dX5_begin_0 (by first | decide | omega) ?_
  refine z_iconst dX5_begin_1 (by decide) ?_
  refine z_putI zfX5_19 dX5_begin_2 (zkB hΓ rfl) rfl rfl ?_
  refine z_al0 dX5_begin_5 (by first | decide | omega) ?_
  refine zcv0 dX5_begin_6 zkX5_22 ziX5_skipBlanks zsX5_skipBlanks (zkB hΓ rfl) (by decide) rfl (Nat.le_of_ble_eq_true rfl) (by decide) (by decide) ⟨Nat.le_refl _, Nat.le_refl _⟩ (X5_skipBlanks_ct (n := n) (p := 0) hΓ (by simpa [zup_ap] using hn) hn2 (by simp [zup_ap]) (by omega) (fun _ => ?_))
  try simp only [zup_ap, zup_row, ne_eq, not_false_eq_true, zres, Int.toNat_natCast, reduceIte, Nat.reduceEqDiff, Nat.reduceAdd, and_self, and_true, true_and, and_false, false_and]
  refine z_ret dX5_begin_9 rfl (Nat.le_refl _) (Nat.le_refl _) (zext_rf _) ?_
  simp only [zup_row, ne_eq, not_false_eq_true, Nat.reduceEqDiff, zup_up]; exact hQ
set_option maxRecDepth 4000 in
theorem X5_isSpent_ct {l : Launch} {Γ : zC} {h : zM} {Q : Option zV → zC → zM → Prop} {n p : Nat} (hΓ : zBase Γ) (hn : h 2 1 = (n : Int)) (hn2 : n ≤ 160) (hp : h 2 2 = (p : Int)) (hQ : Q (some (zI (if n ≤ p then 1 else 0))) Γ h) : zCT l mX5_isSpent 0 0 0 Γ [zR 2] h Q := by
  refine zCT_of (by decide) (Nat.le_of_ble_eq_true rfl) (ls := [some (zR 2)]) rfl ?_
  refine z_al0 dX5_isSpent_0 (by first | decide | omega) ?_
  refine z_getI zfX5_19 dX5_isSpent_1 (zkB hΓ rfl) rfl ?_
  try simp only [zup_ap, zup_row, ne_eq, not_false_eq_true, zres, Int.toNat_natCast, reduceIte, Nat.reduceEqDiff, Nat.reduceAdd, and_self, and_true, true_and, and_false, false_and]
  refine z_al0 dX5_isSpent_4 (by first | decide | omega) ?_
  refine z_getI zfX5_15 dX5_isSpent_5 (zkB hΓ rfl) rfl ?_
  try simp only [zup_ap, zup_row, ne_eq, not_false_eq_true, zres, Int.toNat_natCast, reduceIte, Nat.reduceEqDiff, Nat.reduceAdd, and_self, and_true, true_and, and_false, false_and]
  refine z_icmp_lt (t := 15) dX5_isSpent_8 (by rfl) (fun ht8 => ?_) (fun hf8 => ?_)
  · refine z_iconst dX5_isSpent_15 (by decide) ?_
    refine z_zret dX5_isSpent_16 rfl (Nat.le_refl _) (Nat.le_refl _) (zext_rf _) (by first | exact Or.inl rfl | exact Or.inr rfl | omega) ?_
    refine zQi hQ ?_ rfl
    first | rw [if_pos (by omega)] | rw [if_neg (by omega)]
  · refine z_iconst dX5_isSpent_11 (by decide) ?_
    refine z_goto (t := 16) dX5_isSpent_12 (by rfl) ?_
    refine z_zret dX5_isSpent_16 rfl (Nat.le_refl _) (Nat.le_refl _) (zext_rf _) (by first | exact Or.inl rfl | exact Or.inr rfl | omega) ?_
    refine zQi hQ ?_ rfl
    first | rw [if_pos (by omega)] | rw [if_neg (by omega)]
abbrev zdg (x : Int) : Prop := 48 ≤ x ∧ x ≤ 57
set_option maxRecDepth 4000 in
theorem X5_isDigit_ct {l : Launch} {Γ : zC} {h : zM} {Q : Option zV → zC → zM → Prop} {x : Int} (hQ : Q (some (zI (if zdg x then 1 else 0))) Γ h) : zCT l mX5_isDigit 0 0 0 Γ [zI x] h Q := by
  refine zCT_of (by decide) (Nat.le_of_ble_eq_true rfl) (ls := [some (zI x)]) rfl ?_
  refine z_il0 dX5_isDigit_0 ?_
  refine z_bipush (x := 48) dX5_isDigit_1 (by rfl) (by decide) ?_
  refine z_icmp_lt (t := 16) dX5_isDigit_3 (by rfl) (fun ht3 => ?_) (fun hf3 => ?_)
  · refine z_iconst dX5_isDigit_16 (by decide) ?_
    refine z_zret dX5_isDigit_17 rfl (Nat.le_refl _) (Nat.le_refl _) (zext_rf _) (by first | exact Or.inl rfl | exact Or.inr rfl | omega) ?_
    refine zQi hQ ?_ rfl
    first | rw [if_pos (by omega)] | rw [if_neg (by omega)]
  · refine z_il0 dX5_isDigit_6 ?_
    refine z_bipush (x := 57) dX5_isDigit_7 (by rfl) (by decide) ?_
    refine z_icmp_gt (t := 16) dX5_isDigit_9 (by rfl) (fun ht9 => ?_) (fun hf9 => ?_)
    · refine z_iconst dX5_isDigit_16 (by decide) ?_
      refine z_zret dX5_isDigit_17 rfl (Nat.le_refl _) (Nat.le_refl _) (zext_rf _) (by first | exact Or.inl rfl | exact Or.inr rfl | omega) ?_
      refine zQi hQ ?_ rfl
      first | rw [if_pos (by omega)] | rw [if_neg (by omega)]
    · refine z_iconst dX5_isDigit_12 (by decide) ?_
      refine z_goto (t := 17) dX5_isDigit_13 (by rfl) ?_
      refine z_zret dX5_isDigit_17 rfl (Nat.le_refl _) (Nat.le_refl _) (zext_rf _) (by first | exact Or.inl rfl | exact Or.inr rfl | omega) ?_
      refine zQi hQ ?_ rfl
      first | rw [if_pos (by omega)] | rw [if_neg (by omega)]
set_option maxRecDepth 4000 in
theorem X5_accept_ct {l : Launch} {Γ : zC} {h : zM} {Q : Option zV → zC → zM → Prop} {n p : Nat} {x : Int} (hΓ : zBase Γ) (hn : h 2 1 = (n : Int)) (hn2 : n ≤ 160) (hp : h 2 2 = (p : Int)) (hp2 : p ≤ 161) (hQ0 : zsg (h 3) n p ≠ x → Q (some (zI 0)) Γ h) (hQ1 : zsg (h 3) n p = x → Q (some (zI 1)) Γ (zup h 2 2 (zskip (h 3) n (p + 1) : Nat))) (hp3 : p ≤ 160) : zCT l mX5_accept 1 0 0 Γ [zR 2, zI x] h Q := by
  refine zCT_of (by decide) (Nat.le_of_ble_eq_true rfl) (ls := [some (zR 2), some (zI x)]) rfl ?_
  refine z_al0 dX5_accept_0 (by first | decide | omega) ?_
  refine zcv0 dX5_accept_1 zkX5_25 ziX5_sign zsX5_sign (zkB hΓ rfl) (by decide) rfl (Nat.le_of_ble_eq_true rfl) (by decide) (by decide) ⟨Nat.le_refl _, Nat.le_refl _⟩ (X5_sign_ct (n := n) (p := p) hΓ hn hn2 hp (fun _ => ?_))
  try simp only [zup_ap, zup_row, ne_eq, not_false_eq_true, zres, Int.toNat_natCast, reduceIte, Nat.reduceEqDiff, Nat.reduceAdd, and_self, and_true, true_and, and_false, false_and]
  refine z_il1 dX5_accept_4 ?_
  refine z_icmp_eq (t := 10) dX5_accept_5 (by rfl) (fun ht5 => ?_) (fun hf5 => ?_)
  · refine z_al0 dX5_accept_10 (by first | decide | omega) ?_
    refine z_dup dX5_accept_11 rfl ?_
    refine z_getI zfX5_19 dX5_accept_12 (zkB hΓ rfl) rfl ?_
    try simp only [zup_ap, zup_row, ne_eq, not_false_eq_true, zres, Int.toNat_natCast, reduceIte, Nat.reduceEqDiff, Nat.reduceAdd, and_self, and_true, true_and, and_false, false_and]
    refine z_iconst dX5_accept_15 (by decide) ?_
    refine z_iadd dX5_accept_16 (by omega) ?_
    refine z_putI zfX5_19 dX5_accept_17 (zkB hΓ rfl) rfl rfl ?_
    refine z_al0 dX5_accept_20 (by first | decide | omega) ?_
    refine zcv0 dX5_accept_21 zkX5_22 ziX5_skipBlanks zsX5_skipBlanks (zkB hΓ rfl) (by decide) rfl (Nat.le_of_ble_eq_true rfl) (by decide) (by decide) ⟨Nat.le_refl _, Nat.le_refl _⟩ (X5_skipBlanks_ct (n := n) (p := p + 1) hΓ (by simpa [zup_ap] using hn) hn2 (by simp [zup_ap, hp]) (by omega) (fun _ => ?_))
    try simp only [zup_ap, zup_row, ne_eq, not_false_eq_true, zres, Int.toNat_natCast, reduceIte, Nat.reduceEqDiff, Nat.reduceAdd, and_self, and_true, true_and, and_false, false_and]
    refine z_iconst dX5_accept_24 (by decide) ?_
    refine z_zret dX5_accept_25 rfl (Nat.le_refl _) (Nat.le_refl _) (zext_rf _) (by first | exact Or.inl rfl | exact Or.inr rfl | omega) ?_
    simp only [zup_row, ne_eq, not_false_eq_true, Nat.reduceEqDiff, zup_up]; exact hQ1 (by assumption)
  · refine z_iconst dX5_accept_8 (by decide) ?_
    refine z_zret dX5_accept_9 rfl (Nat.le_refl _) (Nat.le_refl _) (zext_rf _) (by first | exact Or.inl rfl | exact Or.inr rfl | omega) ?_
    exact hQ0 (by assumption)
def znum (t : Nat → Int) (n : Nat) : Nat → Nat → Int → Int × Nat
  | 0, p, v => (v, p)
  | d + 1, p, v => if zdg (zsg t n p) then znum t n d (p + 1) (10 * v + zsg t n p - 48) else (v, p)
theorem znum_p (t : Nat → Int) (n : Nat) : ∀ (d p : Nat) (v : Int), p ≤ (znum t n d p v).2 ∧ (p ≤ 160 → n ≤ 160 → (znum t n d p v).2 ≤ 160) := by
  intro d
  induction d with
  | zero => intro p v; exact ⟨Nat.le_refl _, fun h _ => h⟩
  | succ d ih =>
    intro p v
    unfold znum
    by_cases h : zdg (zsg t n p)
    · rw [if_pos h]
      have h9 : p < n := by unfold zsg at h; split at h <;> omega
      have := ih (p + 1) (10 * v + zsg t n p - 48)
      exact ⟨by omega, fun h1 h2 => this.2 (by omega) h2⟩
    · rw [if_neg h]; exact ⟨Nat.le_refl _, fun h _ => h⟩
theorem zif0 {c : Prop} {_ : Decidable c} : (if c then (1 : Int) else 0) = 0 ↔ ¬ c := by split <;> simp_all
theorem zif1 {c : Prop} {_ : Decidable c} : ¬ (if c then (1 : Int) else 0) = 0 ↔ c := by split <;> simp_all
theorem zif01 {c : Prop} {_ : Decidable c} : (if c then (1 : Int) else 0) = 0 ∨ (if c then (1 : Int) else 0) = 1 := by split <;> simp
theorem znum_0 {t : Nat → Int} {n e p : Nat} {v : Int} (h : e = 0 ∨ ¬ zdg (zsg t n p)) : znum t n e p v = (v, p) := by
  cases e with
  | zero => rfl
  | succ e => unfold znum; rw [if_neg (by rcases h with h | h; omega; exact h)]
theorem znum_1 {t : Nat → Int} {n e p : Nat} {v : Int} (h : zdg (zsg t n p)) : znum t n (e + 1) p v = znum t n e (p + 1) (10 * v + zsg t n p - 48) := by
  rw [znum, if_pos h]
theorem zdg_lt {t : Nat → Int} {n p : Nat} (h : zdg (zsg t n p)) : p < n := by unfold zsg at h; split at h <;> omega
set_option maxRecDepth 4000 in
theorem X5_num_loop {l : Launch} {Γ : zC} {h : zM} {Q : Option zV → zC → zM → Prop} {n dd : Nat} (hΓ : zBase Γ) (hn : h 2 1 = (n : Int)) (hn2 : n ≤ 160) (hdd : dd ≤ 4) : ∀ (m : Nat) (k e p : Nat) (v : Int), k + e = dd → p ≤ 160 → ((k = 0 ∧ v = -1) ∨ (k = 1 ∧ 0 ≤ v ∧ v ≤ 9) ∨ (k = 2 ∧ 0 ≤ v ∧ v ≤ 99) ∨ (k = 3 ∧ 0 ≤ v ∧ v ≤ 999) ∨ (k = 4 ∧ 0 ≤ v ∧ v ≤ 9999)) → e < m → Q (some (zI (if k = 0 ∧ (znum (h 3) n e p (if k = 0 then 0 else v)).2 = p then -1 else (znum (h 3) n e p (if k = 0 then 0 else v)).1))) Γ (zup h 2 2 (zskip (h 3) n (znum (h 3) n e p (if k = 0 then 0 else v)).2 : Nat)) → zG (zFn l mX5_number 1 0 0 Γ Q) 0 0 Γ (zup h 2 2 (p : Nat)) 4 [some (zR 2), some (zI (dd : Nat)), some (zI v), some (zI (k : Nat))] [] := by
  intro m
  induction m with
  | zero => intros; omega
  | succ m ih =>
    intro k e p v hke hp3 hv hm hQ
    refine z_il3 dX5_number_4 ?_
    refine z_il1 dX5_number_5 ?_
    refine z_icmp_ge (t := 56) dX5_number_6 (by rfl) (fun ht6 => ?_) (fun hf6 => ?_)
    · refine z_al0 dX5_number_56 (by first | decide | omega) ?_
      refine zcv0 dX5_number_57 zkX5_22 ziX5_skipBlanks zsX5_skipBlanks (zkB hΓ rfl) (by decide) rfl (Nat.le_of_ble_eq_true rfl) (by decide) (by decide) ⟨Nat.le_refl _, Nat.le_refl _⟩ (X5_skipBlanks_ct (n := n) (p := p) hΓ (by simpa [zup_ap] using hn) hn2 (by simp [zup_ap]) (by omega) (fun _ => ?_))
      try simp only [zup_ap, zup_row, ne_eq, not_false_eq_true, zres, Int.toNat_natCast, reduceIte, Nat.reduceEqDiff, Nat.reduceAdd, and_self, and_true, true_and, and_false, false_and]
      refine z_il2 dX5_number_60 ?_
      refine z_iret dX5_number_61 rfl (Nat.le_refl _) (Nat.le_refl _) (zext_rf _) (fun hrr => ?_)
      have h9 : e = 0 ∨ ¬ zdg (zsg (h 3) n p) := by first | exact Or.inl (by omega) | exact Or.inr (zif0.mp ht16)
      rw [znum_0 h9] at hQ
      simp only [zup_row, ne_eq, not_false_eq_true, Nat.reduceEqDiff, zup_up]
      refine zQi hQ ?_ rfl
      by_cases h0 : k = 0
      · rw [if_pos ⟨h0, rfl⟩]; omega
      · rw [if_neg (fun q => h0 q.1)]; simp [h0]
    · refine z_al0 dX5_number_9 (by first | decide | omega) ?_
      refine zcv0 dX5_number_10 zkX5_25 ziX5_sign zsX5_sign (zkB hΓ rfl) (by decide) rfl (Nat.le_of_ble_eq_true rfl) (by decide) (by decide) ⟨Nat.le_refl _, Nat.le_refl _⟩ (X5_sign_ct (n := n) (p := p) hΓ (by simpa [zup_ap] using hn) hn2 (by simp [zup_ap]) (fun _ => ?_))
      try simp only [zup_ap, zup_row, ne_eq, not_false_eq_true, zres, Int.toNat_natCast, reduceIte, Nat.reduceEqDiff, Nat.reduceAdd, and_self, and_true, true_and, and_false, false_and]
      refine zcs1 dX5_number_13 zkX5_29 ztX5_isDigit (Nat.le_of_ble_eq_true rfl) (by decide) (by decide) ⟨Nat.le_refl _, Nat.le_refl _⟩ (X5_isDigit_ct (fun _ => ?_))
      try simp only [zup_ap, zup_row, ne_eq, not_false_eq_true, zres, Int.toNat_natCast, reduceIte, Nat.reduceEqDiff, Nat.reduceAdd, and_self, and_true, true_and, and_false, false_and]
      refine z_if_eq (t := 56) dX5_number_16 (by rfl) (fun ht16 => ?_) (fun hf16 => ?_)
      · refine z_al0 dX5_number_56 (by first | decide | omega) ?_
        refine zcv0 dX5_number_57 zkX5_22 ziX5_skipBlanks zsX5_skipBlanks (zkB hΓ rfl) (by decide) rfl (Nat.le_of_ble_eq_true rfl) (by decide) (by decide) ⟨Nat.le_refl _, Nat.le_refl _⟩ (X5_skipBlanks_ct (n := n) (p := p) hΓ (by simpa [zup_ap] using hn) hn2 (by simp [zup_ap]) (by omega) (fun _ => ?_))
        try simp only [zup_ap, zup_row, ne_eq, not_false_eq_true, zres, Int.toNat_natCast, reduceIte, Nat.reduceEqDiff, Nat.reduceAdd, and_self, and_true, true_and, and_false, false_and]
        refine z_il2 dX5_number_60 ?_
        refine z_iret dX5_number_61 rfl (Nat.le_refl _) (Nat.le_refl _) (zext_rf _) (fun hrr => ?_)
        have h9 : e = 0 ∨ ¬ zdg (zsg (h 3) n p) := by first | exact Or.inl (by omega) | exact Or.inr (zif0.mp ht16)
        rw [znum_0 h9] at hQ
        simp only [zup_row, ne_eq, not_false_eq_true, Nat.reduceEqDiff, zup_up]
        refine zQi hQ ?_ rfl
        by_cases h0 : k = 0
        · rw [if_pos ⟨h0, rfl⟩]; omega
        · rw [if_neg (fun q => h0 q.1)]; simp [h0]
      · have hd9 : zdg (zsg (h 3) n p) := zif1.mp hf16
        have hlt := zdg_lt hd9
        obtain ⟨hd8, hd7⟩ := hd9
        refine z_il3 dX5_number_19 ?_
        refine z_if_ne (t := 27) dX5_number_20 (by rfl) (fun ht20 => ?_) (fun hf20 => ?_)
        · refine z_il2 dX5_number_27 ?_
          refine z_bipush (x := 10) dX5_number_28 (by rfl) (by decide) ?_
          refine z_imul dX5_number_30 (by omega) ?_
          refine z_al0 dX5_number_31 (by first | decide | omega) ?_
          refine zcv0 dX5_number_32 zkX5_25 ziX5_sign zsX5_sign (zkB hΓ rfl) (by decide) rfl (Nat.le_of_ble_eq_true rfl) (by decide) (by decide) ⟨Nat.le_refl _, Nat.le_refl _⟩ (X5_sign_ct (n := n) (p := p) hΓ (by simpa [zup_ap] using hn) hn2 (by simp [zup_ap]) (fun _ => ?_))
          try simp only [zup_ap, zup_row, ne_eq, not_false_eq_true, zres, Int.toNat_natCast, reduceIte, Nat.reduceEqDiff, Nat.reduceAdd, and_self, and_true, true_and, and_false, false_and]
          refine z_iadd dX5_number_35 (by omega) ?_
          refine z_bipush (x := 48) dX5_number_36 (by rfl) (by decide) ?_
          refine z_isub dX5_number_38 (by omega) ?_
          refine z_is2 dX5_number_39 (Nat.le_of_ble_eq_true rfl) rfl ?_
          refine z_al0 dX5_number_40 (by first | decide | omega) ?_
          refine z_dup dX5_number_41 rfl ?_
          refine z_getI zfX5_19 dX5_number_42 (zkB hΓ rfl) rfl ?_
          try simp only [zup_ap, zup_row, ne_eq, not_false_eq_true, zres, Int.toNat_natCast, reduceIte, Nat.reduceEqDiff, Nat.reduceAdd, and_self, and_true, true_and, and_false, false_and]
          refine z_iconst dX5_number_45 (by decide) ?_
          refine z_iadd dX5_number_46 (by omega) ?_
          refine z_putI zfX5_19 dX5_number_47 (zkB hΓ rfl) rfl rfl ?_
          refine z_ii3 dX5_number_50 (by omega) (Nat.le_of_ble_eq_true rfl) rfl ?_
          refine z_goto (t := 4) dX5_number_53 (by rfl) ?_
          have hd9 : zdg (zsg (h 3) n p) := zif1.mp hf16
          have hlt := zdg_lt hd9
          rw [zup_up]
          cases e with
          | zero => exfalso; omega
          | succ e =>
            rw [znum_1 ⟨hd8, hd7⟩, show ((k : Nat) : Int) + 1 = ((k + 1 : Nat) : Int) from rfl, show ((p : Nat) : Int) + 1 = ((p + 1 : Nat) : Int) from rfl] at *
            have h8 := znum_p (h 3) n e (p + 1) (10 * (if k = 0 then 0 else v) + zsg (h 3) n p - 48)
            refine ih (k + 1) e (p + 1) (v * 10 + zsg (h 3) n p - 48) (by omega) (by omega) (by omega) (by omega) ?_
            rw [if_neg (fun q => by omega)] at hQ
            rw [if_neg (fun q => by omega), if_neg (by omega)]
            have e9 : (v * 10 + zsg (h 3) n p - 48) = 10 * (if k = 0 then 0 else v) + zsg (h 3) n p - 48 := by split <;> omega
            rw [e9]; exact hQ
        · refine z_iconst dX5_number_23 (by decide) ?_
          refine z_goto (t := 31) dX5_number_24 (by rfl) ?_
          refine z_al0 dX5_number_31 (by first | decide | omega) ?_
          refine zcv0 dX5_number_32 zkX5_25 ziX5_sign zsX5_sign (zkB hΓ rfl) (by decide) rfl (Nat.le_of_ble_eq_true rfl) (by decide) (by decide) ⟨Nat.le_refl _, Nat.le_refl _⟩ (X5_sign_ct (n := n) (p := p) hΓ (by simpa [zup_ap] using hn) hn2 (by simp [zup_ap]) (fun _ => ?_))
          try simp only [zup_ap, zup_row, ne_eq, not_false_eq_true, zres, Int.toNat_natCast, reduceIte, Nat.reduceEqDiff, Nat.reduceAdd, and_self, and_true, true_and, and_false, false_and]
          refine z_iadd dX5_number_35 (by omega) ?_
          refine z_bipush (x := 48) dX5_number_36 (by rfl) (by decide) ?_
          refine z_isub dX5_number_38 (by omega) ?_
          refine z_is2 dX5_number_39 (Nat.le_of_ble_eq_true rfl) rfl ?_
          refine z_al0 dX5_number_40 (by first | decide | omega) ?_
          refine z_dup dX5_number_41 rfl ?_
          refine z_getI zfX5_19 dX5_number_42 (zkB hΓ rfl) rfl ?_
          try simp only [zup_ap, zup_row, ne_eq, not_false_eq_true, zres, Int.toNat_natCast, reduceIte, Nat.reduceEqDiff, Nat.reduceAdd, and_self, and_true, true_and, and_false, false_and]
          refine z_iconst dX5_number_45 (by decide) ?_
          refine z_iadd dX5_number_46 (by omega) ?_
          refine z_putI zfX5_19 dX5_number_47 (zkB hΓ rfl) rfl rfl ?_
          refine z_ii3 dX5_number_50 (by omega) (Nat.le_of_ble_eq_true rfl) rfl ?_
          refine z_goto (t := 4) dX5_number_53 (by rfl) ?_
          have hd9 : zdg (zsg (h 3) n p) := zif1.mp hf16
          have hlt := zdg_lt hd9
          rw [zup_up]
          cases e with
          | zero => exfalso; omega
          | succ e =>
            rw [znum_1 ⟨hd8, hd7⟩, show ((k : Nat) : Int) + 1 = ((k + 1 : Nat) : Int) from rfl, show ((p : Nat) : Int) + 1 = ((p + 1 : Nat) : Int) from rfl] at *
            have h8 := znum_p (h 3) n e (p + 1) (10 * (if k = 0 then 0 else v) + zsg (h 3) n p - 48)
            refine ih (k + 1) e (p + 1) (0 + zsg (h 3) n p - 48) (by omega) (by omega) (by omega) (by omega) ?_
            rw [if_neg (fun q => by omega)] at hQ
            rw [if_neg (fun q => by omega), if_neg (by omega)]
            have e9 : (0 + zsg (h 3) n p - 48) = 10 * (if k = 0 then 0 else v) + zsg (h 3) n p - 48 := by split <;> omega
            rw [e9]; exact hQ
set_option maxRecDepth 4000 in
theorem X5_number_ct {l : Launch} {Γ : zC} {h : zM} {Q : Option zV → zC → zM → Prop} {n p dd : Nat} (hΓ : zBase Γ) (hn : h 2 1 = (n : Int)) (hn2 : n ≤ 160) (hp : h 2 2 = (p : Int)) (hp3 : p ≤ 160) (hdd : dd ≤ 4) (hQ : Q (some (zI (if (znum (h 3) n dd p 0).2 = p then -1 else (znum (h 3) n dd p 0).1))) Γ (zup h 2 2 (zskip (h 3) n (znum (h 3) n dd p 0).2 : Nat))) : zCT l mX5_number 1 0 0 Γ [zR 2, zI (dd : Nat)] h Q := by
  refine zCT_of (by decide) (Nat.le_of_ble_eq_true rfl) (ls := [some (zR 2), some (zI (dd : Nat)), none, none]) rfl ?_
  refine z_iconst dX5_number_0 (by decide) ?_
  refine z_is2 dX5_number_1 (Nat.le_of_ble_eq_true rfl) rfl ?_
  refine z_iconst dX5_number_2 (by decide) ?_
  refine z_is3 dX5_number_3 (Nat.le_of_ble_eq_true rfl) rfl ?_
  have h9 := X5_num_loop (l := l) (h := h) hΓ hn hn2 hdd (dd + 1) 0 dd p (-1) (by omega) hp3 (by omega) (by omega) (by simpa using hQ)
  rw [zup_eq hp] at h9
  exact h9
