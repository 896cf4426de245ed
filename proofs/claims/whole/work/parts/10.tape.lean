/-! the tape -/
theorem zup_self (h : zM) (r j : Nat) : zup h r j (h r j) = h := by
  funext a b
  simp only [zup_ap]
  by_cases e : a = r ∧ b = j
  · rw [if_pos e, e.1, e.2]
  · rw [if_neg e]
theorem zup_up (h : zM) (r j : Nat) (x y : Int) : zup (zup h r j x) r j y = zup h r j y := by
  funext a b
  simp only [zup_ap]
  by_cases e : a = r ∧ b = j
  · rw [if_pos e, if_pos e]
  · rw [if_neg e, if_neg e, if_neg e]
theorem zup_eq {h : zM} {r j : Nat} {x : Int} (e : h r j = x) : zup h r j x = h := by rw [← e]; exact zup_self h r j
theorem zQi {Q : Option zV → zC → zM → Prop} {v v' : Int} {Γ : zC} {h h' : zM} (hQ : Q (some (zI v')) Γ h') (e : v = v') (eh : h = h') : Q (some (zI v)) Γ h := by rw [e, eh]; exact hQ
theorem zQn {Q : Option zV → zC → zM → Prop} {Γ : zC} {h h' : zM} (hQ : Q none Γ h') (eh : h = h') : Q none Γ h := by rw [eh]; exact hQ
def zsg (t : Nat → Int) (n p : Nat) : Int := if p < n then t p else -1
def zskipF (t : Nat → Int) (n : Nat) : Nat → Nat → Nat
  | 0, k => k
  | m + 1, k => if k < n ∧ t k = 32 then zskipF t n m (k + 1) else k
def zskip (t : Nat → Int) (n k : Nat) : Nat := zskipF t n (n - k) k
theorem zskip_eq (t : Nat → Int) (n k : Nat) : zskip t n k = if k < n ∧ t k = 32 then zskip t n (k + 1) else k := by
  unfold zskip
  by_cases h : k < n
  · rw [show n - k = (n - (k + 1)) + 1 by omega]; rfl
  · rw [show n - k = 0 by omega]; simp [zskipF, h]
set_option maxRecDepth 4000 in
theorem X5_sign_ct {l : Launch} {Γ : zC} {h : zM} {Q : Option zV → zC → zM → Prop} {n p : Nat} (hΓ : zBase Γ) (hn : h 2 1 = (n : Int)) (hn2 : n ≤ 160) (hp : h 2 2 = (p : Int)) (hQ : Q (some (zI (zsg (h 3) n p))) Γ h) : zCT l mX5_sign 0 0 0 Γ [zR 2] h Q := by
  refine zCT_of (by decide) (by decide) (ls := [some (zR 2)]) rfl ?_
  refine z_al0 dX5_sign_0 (by first | decide | omega) ?_
  refine z_getI zfX5_19 dX5_sign_1 (zkB hΓ rfl) rfl ?_
  try simp only [zup_ap, zres, Int.toNat_natCast, reduceIte, Nat.reduceEqDiff, Nat.reduceAdd, and_self, and_true, true_and, and_false, false_and]
  refine z_if_lt (t := 42) dX5_sign_4 (by rfl) (fun hc1 => ?_) (fun hc2 => ?_)
  · refine z_iconst dX5_sign_42 (by decide) ?_
    refine z_iret dX5_sign_43 rfl (Nat.le_refl _) (Nat.le_refl _) (zext_rf _) (fun hrr => ?_)
    refine zQi hQ ?_ rfl
    unfold zsg
    first | (rw [if_pos (by omega)]; rw [hp]; rfl) | rw [if_neg (by omega)]
  · refine z_al0 dX5_sign_7 (by first | decide | omega) ?_
    refine z_getI zfX5_19 dX5_sign_8 (zkB hΓ rfl) rfl ?_
    try simp only [zup_ap, zres, Int.toNat_natCast, reduceIte, Nat.reduceEqDiff, Nat.reduceAdd, and_self, and_true, true_and, and_false, false_and]
    refine z_al0 dX5_sign_11 (by first | decide | omega) ?_
    refine z_getI zfX5_15 dX5_sign_12 (zkB hΓ rfl) rfl ?_
    try simp only [zup_ap, zres, Int.toNat_natCast, reduceIte, Nat.reduceEqDiff, Nat.reduceAdd, and_self, and_true, true_and, and_false, false_and]
    refine z_icmp_ge (t := 42) dX5_sign_15 (by rfl) (fun hc3 => ?_) (fun hc4 => ?_)
    · refine z_iconst dX5_sign_42 (by decide) ?_
      refine z_iret dX5_sign_43 rfl (Nat.le_refl _) (Nat.le_refl _) (zext_rf _) (fun hrr => ?_)
      refine zQi hQ ?_ rfl
      unfold zsg
      first | (rw [if_pos (by omega)]; rw [hp]; rfl) | rw [if_neg (by omega)]
    · refine z_al0 dX5_sign_18 (by first | decide | omega) ?_
      refine z_getI zfX5_19 dX5_sign_19 (zkB hΓ rfl) rfl ?_
      try simp only [zup_ap, zres, Int.toNat_natCast, reduceIte, Nat.reduceEqDiff, Nat.reduceAdd, and_self, and_true, true_and, and_false, false_and]
      refine z_al0 dX5_sign_22 (by first | decide | omega) ?_
      refine z_getR zfX5_9 dX5_sign_23 (zkB hΓ rfl) rfl (zsB hΓ rfl) (zvB hΓ (by decide)) ?_
      refine z_alen dX5_sign_26 (zkB hΓ rfl) (by decide) ?_
      refine z_icmp_ge (t := 42) dX5_sign_27 (by rfl) (fun hc5 => ?_) (fun hc6 => ?_)
      · refine z_iconst dX5_sign_42 (by decide) ?_
        refine z_iret dX5_sign_43 rfl (Nat.le_refl _) (Nat.le_refl _) (zext_rf _) (fun hrr => ?_)
        refine zQi hQ ?_ rfl
        unfold zsg
        first | (rw [if_pos (by omega)]; rw [hp]; rfl) | rw [if_neg (by omega)]
      · refine z_al0 dX5_sign_30 (by first | decide | omega) ?_
        refine z_getR zfX5_9 dX5_sign_31 (zkB hΓ rfl) rfl (zsB hΓ rfl) (zvB hΓ (by decide)) ?_
        refine z_al0 dX5_sign_34 (by first | decide | omega) ?_
        refine z_getI zfX5_19 dX5_sign_35 (zkB hΓ rfl) rfl ?_
        try simp only [zup_ap, zres, Int.toNat_natCast, reduceIte, Nat.reduceEqDiff, Nat.reduceAdd, and_self, and_true, true_and, and_false, false_and]
        refine z_iald dX5_sign_38 (zkB hΓ rfl) (by omega) (by omega) ?_
        try simp only [zup_ap, zres, Int.toNat_natCast, reduceIte, Nat.reduceEqDiff, Nat.reduceAdd, and_self, and_true, true_and, and_false, false_and]
        refine z_goto (t := 43) dX5_sign_39 (by rfl) ?_
        refine z_iret dX5_sign_43 rfl (Nat.le_refl _) (Nat.le_refl _) (zext_rf _) (fun hrr => ?_)
        refine zQi hQ ?_ rfl
        unfold zsg
        first | (rw [if_pos (by omega)]; rw [hp]; rfl) | rw [if_neg (by omega)]
set_option maxRecDepth 4000 in
theorem X5_skip_loop {l : Launch} {Γ : zC} {h : zM} {Q : Option zV → zC → zM → Prop} {n : Nat} (hΓ : zBase Γ) (hn : h 2 1 = (n : Int)) (hn2 : n ≤ 160) : ∀ (m k : Nat), n - k ≤ m → k ≤ 161 → Q none Γ (zup h 2 2 (zskip (h 3) n k : Nat)) → zG (zFn l mX5_skipBlanks 0 0 0 Γ Q) 0 0 Γ (zup h 2 2 (k : Nat)) 5 [some (zR 2), some (zI (k : Nat))] [] := by
  intro m
  induction m with
  | zero =>
    intro k hm hk hQ
    refine z_il1 dX5_skipBlanks_5 ?_
    refine z_if_lt (t := 50) dX5_skipBlanks_6 (by rfl) (fun hc1 => ?_) (fun hc2 => ?_)
    · refine z_ret dX5_skipBlanks_50 rfl (Nat.le_refl _) (Nat.le_refl _) (zext_rf _) ?_
      refine zQn hQ ?_
      rw [zskip_eq, if_neg (by omega)]
    · refine z_il1 dX5_skipBlanks_9 ?_
      refine z_al0 dX5_skipBlanks_10 (by first | decide | omega) ?_
      refine z_getI zfX5_15 dX5_skipBlanks_11 (zkB hΓ rfl) rfl ?_
      try simp only [zup_ap, zres, Int.toNat_natCast, reduceIte, Nat.reduceEqDiff, Nat.reduceAdd, and_self, and_true, true_and, and_false, false_and]
      refine z_icmp_ge (t := 50) dX5_skipBlanks_14 (by rfl) (fun hc3 => ?_) (fun hc4 => ?_)
      · refine z_ret dX5_skipBlanks_50 rfl (Nat.le_refl _) (Nat.le_refl _) (zext_rf _) ?_
        refine zQn hQ ?_
        rw [zskip_eq, if_neg (by omega)]
      · refine z_il1 dX5_skipBlanks_17 ?_
        refine z_al0 dX5_skipBlanks_18 (by first | decide | omega) ?_
        refine z_getR zfX5_9 dX5_skipBlanks_19 (zkB hΓ rfl) rfl (zsB hΓ rfl) (zvB hΓ (by decide)) ?_
        refine z_alen dX5_skipBlanks_22 (zkB hΓ rfl) (by decide) ?_
        refine z_icmp_ge (t := 50) dX5_skipBlanks_23 (by rfl) (fun hc5 => ?_) (fun hc6 => ?_)
        · refine z_ret dX5_skipBlanks_50 rfl (Nat.le_refl _) (Nat.le_refl _) (zext_rf _) ?_
          refine zQn hQ ?_
          rw [zskip_eq, if_neg (by omega)]
        · refine z_al0 dX5_skipBlanks_26 (by first | decide | omega) ?_
          refine z_getR zfX5_9 dX5_skipBlanks_27 (zkB hΓ rfl) rfl (zsB hΓ rfl) (zvB hΓ (by decide)) ?_
          refine z_il1 dX5_skipBlanks_30 ?_
          refine z_iald dX5_skipBlanks_31 (zkB hΓ rfl) (by omega) (by omega) ?_
          try simp only [zup_ap, zres, Int.toNat_natCast, reduceIte, Nat.reduceEqDiff, Nat.reduceAdd, and_self, and_true, true_and, and_false, false_and]
          refine z_bipush (x := 32) dX5_skipBlanks_32 (by rfl) (by decide) ?_
          refine z_icmp_ne (t := 50) dX5_skipBlanks_34 (by rfl) (fun hc7 => ?_) (fun hc8 => ?_)
          · refine z_ret dX5_skipBlanks_50 rfl (Nat.le_refl _) (Nat.le_refl _) (zext_rf _) ?_
            refine zQn hQ ?_
            rw [zskip_eq, if_neg (by omega)]
          · refine z_al0 dX5_skipBlanks_37 (by first | decide | omega) ?_
            refine z_il1 dX5_skipBlanks_38 ?_
            refine z_iconst dX5_skipBlanks_39 (by decide) ?_
            refine z_iadd dX5_skipBlanks_40 (by omega) ?_
            refine z_putI zfX5_19 dX5_skipBlanks_41 (zkB hΓ rfl) rfl rfl ?_
            refine z_ii1 dX5_skipBlanks_44 (by omega) (by decide) rfl ?_
            refine z_goto (t := 5) dX5_skipBlanks_47 (by rfl) ?_
            exfalso; omega
  | succ m ih =>
    intro k hm hk hQ
    refine z_il1 dX5_skipBlanks_5 ?_
    refine z_if_lt (t := 50) dX5_skipBlanks_6 (by rfl) (fun hc1 => ?_) (fun hc2 => ?_)
    · refine z_ret dX5_skipBlanks_50 rfl (Nat.le_refl _) (Nat.le_refl _) (zext_rf _) ?_
      refine zQn hQ ?_
      rw [zskip_eq, if_neg (by omega)]
    · refine z_il1 dX5_skipBlanks_9 ?_
      refine z_al0 dX5_skipBlanks_10 (by first | decide | omega) ?_
      refine z_getI zfX5_15 dX5_skipBlanks_11 (zkB hΓ rfl) rfl ?_
      try simp only [zup_ap, zres, Int.toNat_natCast, reduceIte, Nat.reduceEqDiff, Nat.reduceAdd, and_self, and_true, true_and, and_false, false_and]
      refine z_icmp_ge (t := 50) dX5_skipBlanks_14 (by rfl) (fun hc3 => ?_) (fun hc4 => ?_)
      · refine z_ret dX5_skipBlanks_50 rfl (Nat.le_refl _) (Nat.le_refl _) (zext_rf _) ?_
        refine zQn hQ ?_
        rw [zskip_eq, if_neg (by omega)]
      · refine z_il1 dX5_skipBlanks_17 ?_
        refine z_al0 dX5_skipBlanks_18 (by first | decide | omega) ?_
        refine z_getR zfX5_9 dX5_skipBlanks_19 (zkB hΓ rfl) rfl (zsB hΓ rfl) (zvB hΓ (by decide)) ?_
        refine z_alen dX5_skipBlanks_22 (zkB hΓ rfl) (by decide) ?_
        refine z_icmp_ge (t := 50) dX5_skipBlanks_23 (by rfl) (fun hc5 => ?_) (fun hc6 => ?_)
        · refine z_ret dX5_skipBlanks_50 rfl (Nat.le_refl _) (Nat.le_refl _) (zext_rf _) ?_
          refine zQn hQ ?_
          rw [zskip_eq, if_neg (by omega)]
        · refine z_al0 dX5_skipBlanks_26 (by first | decide | omega) ?_
          refine z_getR zfX5_9 dX5_skipBlanks_27 (zkB hΓ rfl) rfl (zsB hΓ rfl) (zvB hΓ (by decide)) ?_
          refine z_il1 dX5_skipBlanks_30 ?_
          refine z_iald dX5_skipBlanks_31 (zkB hΓ rfl) (by omega) (by omega) ?_
          try simp only [zup_ap, zres, Int.toNat_natCast, reduceIte, Nat.reduceEqDiff, Nat.reduceAdd, and_self, and_true, true_and, and_false, false_and]
          refine z_bipush (x := 32) dX5_skipBlanks_32 (by rfl) (by decide) ?_
          refine z_icmp_ne (t := 50) dX5_skipBlanks_34 (by rfl) (fun hc7 => ?_) (fun hc8 => ?_)
          · refine z_ret dX5_skipBlanks_50 rfl (Nat.le_refl _) (Nat.le_refl _) (zext_rf _) ?_
            refine zQn hQ ?_
            rw [zskip_eq, if_neg (by omega)]
          · refine z_al0 dX5_skipBlanks_37 (by first | decide | omega) ?_
            refine z_il1 dX5_skipBlanks_38 ?_
            refine z_iconst dX5_skipBlanks_39 (by decide) ?_
            refine z_iadd dX5_skipBlanks_40 (by omega) ?_
            refine z_putI zfX5_19 dX5_skipBlanks_41 (zkB hΓ rfl) rfl rfl ?_
            refine z_ii1 dX5_skipBlanks_44 (by omega) (by decide) rfl ?_
            refine z_goto (t := 5) dX5_skipBlanks_47 (by rfl) ?_
            have h9 := ih (k + 1) (by omega) (by rw [zskip_eq, if_pos ⟨by omega, by assumption⟩] at hQ; exact hQ)
            rw [zup_up]
            exact h9
