/-! DROWNINGS, IMAGES -/
theorem zup_rj (h : zM) (r j : Nat) (x : Int) : zup h r j x r j = x := if_pos ⟨rfl, rfl⟩
def zdr (x : Int) : Int := zw_ladd (zw_lmul x 6364136223846793005) 1442695040888963407
def zdv (x m : Int) : Int := zf_lushr x 33 % m
theorem zlr33 (x : Int) : 0 ≤ zf_lushr x 33 ∧ zf_lushr x 33 < 2147483648 := by
  have e : ((Int32.ofInt 33).toInt64.toUInt64 &&& Int64.toUInt64 63) = UInt64.ofNat 33 := by decide +kernel
  have hlt : (Int64.ofInt x).toUInt64.toNat < 2 ^ 64 := UInt64.toNat_lt _
  have h1 : zf_lushr x 33 = (((Int64.ofInt x).toUInt64.toNat / 2 ^ 33 : Nat) : Int) := by
    unfold zf_lushr
    rw [e]
    refine z64n ?_ (by omega)
    show ((Int64.ofInt x).toUInt64 >>> UInt64.ofNat 33).toNat = _
    rw [UInt64.toNat_shiftRight]
    have e3 : (UInt64.ofNat 33).toNat % 64 = 33 := by decide
    rw [e3, Nat.shiftRight_eq_div_pow]
  rw [h1]
  omega
theorem zdv_b (x : Int) {m : Int} (hm : 0 < m) : 0 ≤ zdv x m ∧ zdv x m < m := ⟨Int.emod_nonneg _ (by omega), Int.emod_lt_of_pos _ hm⟩
abbrev zDS := Int × Int × Nat × (Nat → Int × Int × Int)
def zdI (φ : Int → Int) (ν : Int → Int → Int) (risk : Int) (i : Nat) (S : zDS) : zDS := if S.2.2.1 < 20 then (if ν (φ S.1) 100 < risk then (φ (φ S.1), S.2.1, S.2.2.1 + 1, fun j => if j = S.2.2.1 then ((i : Int), S.2.1, 1 + ν (φ (φ S.1)) 12) else S.2.2.2 j) else (φ S.1, S.2.1, S.2.2.1, S.2.2.2)) else S
theorem zdI_a {φ : Int → Int} {ν : Int → Int → Int} {risk : Int} {i : Nat} {x nw : Int} {k : Nat} {f : Nat → Int × Int × Int} (a : k < 20) (b : ν (φ x) 100 < risk) : zdI φ ν risk i (x, nw, k, f) = (φ (φ x), nw, k + 1, fun j => if j = k then ((i : Int), nw, 1 + ν (φ (φ x)) 12) else f j) := by
  show (if k < 20 then (if ν (φ x) 100 < risk then _ else _) else _) = _
  rw [if_pos a, if_pos b]
theorem zdI_b {φ : Int → Int} {ν : Int → Int → Int} {risk : Int} {i : Nat} {x nw : Int} {k : Nat} {f : Nat → Int × Int × Int} (a : k < 20) (b : ¬ ν (φ x) 100 < risk) : zdI φ ν risk i (x, nw, k, f) = (φ x, nw, k, f) := by
  show (if k < 20 then (if ν (φ x) 100 < risk then _ else _) else _) = _
  rw [if_pos a, if_neg b]
theorem zdI_c {φ : Int → Int} {ν : Int → Int → Int} {risk : Int} {i : Nat} {x nw : Int} {k : Nat} {f : Nat → Int × Int × Int} (a : ¬ k < 20) : zdI φ ν risk i (x, nw, k, f) = (x, nw, k, f) := by
  show (if k < 20 then (if ν (φ x) 100 < risk then _ else _) else _) = _
  rw [if_neg a]
def zdIs (φ : Int → Int) (ν : Int → Int → Int) (risk : Int) : Nat → zDS → zDS
  | 0, S => S
  | i + 1, S => zdI φ ν risk i (zdIs φ ν risk i S)
def zdN (nw : Int) : Int := if nw + 1 < 99 then nw + 1 else 99
def zdDs (φ : Int → Int) (ν : Int → Int → Int) (isl : Nat) (risk : Int) : Nat → zDS → zDS
  | 0, S => S
  | d + 1, S => zdIs φ ν risk isl ((zdDs φ ν isl risk d S).1, zdN (zdDs φ ν isl risk d S).2.1, (zdDs φ ν isl risk d S).2.2)
def zDc (h : zM) (S : zDS) : Prop := h 25 9 = S.1 ∧ h 25 0 = S.2.1 ∧ h 25 1 = (S.2.2.1 : Int) ∧ (∀ j, j < 20 → h 26 j = (S.2.2.2 j).1 ∧ h 27 j = (S.2.2.2 j).2.1 ∧ h 28 j = (S.2.2.2 j).2.2) ∧ (0 ≤ S.2.1 ∧ S.2.1 ≤ 99) ∧ S.2.2.1 ≤ 20
def zDr (h : zM) (S : zDS) : Prop := h 89 47 = S.1 ∧ h 89 29 = S.2.1 ∧ h 89 28 = (S.2.2.1 : Int) ∧ (∀ j, j < 20 → h 99 j = (S.2.2.2 j).1 ∧ h 100 j = (S.2.2.2 j).2.1 ∧ h 101 j = (S.2.2.2 j).2.2) ∧ (0 ≤ S.2.1 ∧ S.2.1 ≤ 99) ∧ S.2.2.1 ≤ 20
def zf8 (h h' : zM) : Prop := (∀ q, ¬ (25 ≤ q ∧ q ≤ 28) → h' q = h q) ∧ ∀ j, j ≠ 0 → j ≠ 1 → j ≠ 9 → h' 25 j = h 25 j
def zf9 (h h' : zM) : Prop := (∀ q, q ≠ 89 → ¬ (99 ≤ q ∧ q ≤ 101) → h' q = h q) ∧ ∀ j, j ≠ 28 → j ≠ 29 → j ≠ 47 → h' 89 j = h 89 j
theorem zf8_rf (h : zM) : zf8 h h := ⟨fun _ _ => rfl, fun _ _ _ _ => rfl⟩
theorem zf9_rf (h : zM) : zf9 h h := ⟨fun _ _ _ => rfl, fun _ _ _ _ => rfl⟩
theorem zf8_r {h0 h : zM} {q j : Nat} {x : Int} (H : zf8 h0 h) (hq : 26 ≤ q ∧ q ≤ 28) : zf8 h0 (zup h q j x) := ⟨fun r hr => (zup_row (by omega)).trans (H.1 r hr), fun i a b c => by rw [zup_row (by omega)]; exact H.2 i a b c⟩
theorem zf8_f {h0 h : zM} {j : Nat} {x : Int} (H : zf8 h0 h) (hj : j = 0 ∨ j = 1 ∨ j = 9) : zf8 h0 (zup h 25 j x) := ⟨fun r hr => (zup_row (by omega)).trans (H.1 r hr), fun i a b c => by rw [zup_ap, if_neg (fun x => (by have := x.2; omega))]; exact H.2 i a b c⟩
theorem zf9_r {h0 h : zM} {q j : Nat} {x : Int} (H : zf9 h0 h) (hq : 99 ≤ q ∧ q ≤ 101) : zf9 h0 (zup h q j x) := ⟨fun r a b => (zup_row (by omega)).trans (H.1 r a b), fun i a b c => by rw [zup_row (by omega)]; exact H.2 i a b c⟩
theorem zf9_f {h0 h : zM} {j : Nat} {x : Int} (H : zf9 h0 h) (hj : j = 28 ∨ j = 29 ∨ j = 47) : zf9 h0 (zup h 89 j x) := ⟨fun r a b => (zup_row a).trans (H.1 r a b), fun i a b c => by rw [zup_ap, if_neg (fun x => (by have := x.2; omega))]; exact H.2 i a b c⟩
set_option maxRecDepth 4000 in
theorem X3_draw_ct {l : Launch} {Γ : zC} {h : zM} {Q : Option zV → zC → zM → Prop} (hΓ : zBase Γ) {x m : Int} (hx : h 25 9 = x) (hm : 0 < m ∧ m ≤ 100) (hQ : Q (some (zI (zdv (zdr x) m))) Γ (zup h 25 9 (zdr x))) : zCT l mX3_draw 0 0 0 Γ [zR 25, zI m] h Q := by
  have hls : 0 ≤ zf_lushr (zw_ladd (zw_lmul x 6364136223846793005) 1442695040888963407) 33 ∧ zf_lushr (zw_ladd (zw_lmul x 6364136223846793005) 1442695040888963407) 33 < 2147483648 := zlr33 _
  have hm1 : 0 ≤ zf_lushr (zw_ladd (zw_lmul x 6364136223846793005) 1442695040888963407) 33 % m := Int.emod_nonneg _ (by omega)
  have hm2 : zf_lushr (zw_ladd (zw_lmul x 6364136223846793005) 1442695040888963407) 33 % m < m := Int.emod_lt_of_pos _ hm.1
  refine zCT_of (by decide) (Nat.le_of_ble_eq_true rfl) (ls := [some (zR 25), some (zI m)]) rfl ?_
  refine z_al0 dX3_draw_0 (by first | decide | omega | assumption) ?_
  refine z_al0 dX3_draw_1 (by first | decide | omega | assumption) ?_
  refine z_getJ zfX3_46 dX3_draw_2 (zkB hΓ rfl) rfl ?_
  try simp only [zup_ap, zup_row, ne_eq, not_false_eq_true, zres, Int.toNat_natCast, reduceIte, Nat.reduceEqDiff, Nat.reduceAdd, and_self, and_true, true_and, and_false, false_and]
  try rw [hx]
  try simp only [zup_ap, zup_row, ne_eq, not_false_eq_true, zres, Int.toNat_natCast, reduceIte, Nat.reduceEqDiff, Nat.reduceAdd, and_self, and_true, true_and, and_false, false_and]
  refine z_ldc2 (x := 6364136223846793005) dX3_draw_5 zqX3_64 (by decide) ?_
  refine zw_lmul_s dX3_draw_8 ?_
  refine z_ldc2 (x := 1442695040888963407) dX3_draw_9 zqX3_66 (by decide) ?_
  refine zw_ladd_s dX3_draw_12 ?_
  refine z_putJ zfX3_46 dX3_draw_13 (zkB hΓ rfl) rfl rfl ?_
  refine z_il1 dX3_draw_16 ?_
  refine z_if_le (t := 34) dX3_draw_17 (by rfl) (fun ht17 => ?_) (fun hf17 => ?_)
  · refine z_iconst dX3_draw_34 (by decide) ?_
    refine z_iret dX3_draw_35 rfl (Nat.le_refl _) (Nat.le_refl _) (zext_rf _) (fun hrr => ?_)
    first | exact hQ | (exfalso; omega)
  · refine z_al0 dX3_draw_20 (by first | decide | omega | assumption) ?_
    refine z_getJ zfX3_46 dX3_draw_21 (zkB hΓ rfl) rfl ?_
    try simp only [zup_ap, zup_row, ne_eq, not_false_eq_true, zres, Int.toNat_natCast, reduceIte, Nat.reduceEqDiff, Nat.reduceAdd, and_self, and_true, true_and, and_false, false_and]
    try rw [hx]
    try simp only [zup_ap, zup_row, ne_eq, not_false_eq_true, zres, Int.toNat_natCast, reduceIte, Nat.reduceEqDiff, Nat.reduceAdd, and_self, and_true, true_and, and_false, false_and]
    refine z_bipush (x := 33) dX3_draw_24 (by rfl) (by decide) ?_
    refine z_lushr dX3_draw_26 ?_
    refine z_il1 dX3_draw_27 ?_
    refine z_i2l dX3_draw_28 ?_
    refine z_lremp dX3_draw_29 (by omega) (by omega) ?_
    refine z_l2i dX3_draw_30 (by show zo32 _; unfold zo32; omega) ?_
    refine z_goto (t := 35) dX3_draw_31 (by rfl) ?_
    refine z_iret dX3_draw_35 rfl (Nat.le_refl _) (Nat.le_refl _) (zext_rf _) (fun hrr => ?_)
    first | exact hQ | (exfalso; omega)
set_option maxRecDepth 4000 in
theorem X9_draw_ct {l : Launch} {Γ : zC} {h : zM} {Q : Option zV → zC → zM → Prop} (hΓ : zBase Γ) {x m : Int} (hx : h 89 47 = x) (hm : 0 < m ∧ m ≤ 100) (hQ : Q (some (zI (zdv (zdr x) m))) Γ (zup h 89 47 (zdr x))) : zCT l mX9_draw 0 0 0 Γ [zR 89, zI m] h Q := by
  have hls : 0 ≤ zf_lushr (zw_ladd (zw_lmul x 6364136223846793005) 1442695040888963407) 33 ∧ zf_lushr (zw_ladd (zw_lmul x 6364136223846793005) 1442695040888963407) 33 < 2147483648 := zlr33 _
  have hm1 : 0 ≤ zf_lushr (zw_ladd (zw_lmul x 6364136223846793005) 1442695040888963407) 33 % m := Int.emod_nonneg _ (by omega)
  have hm2 : zf_lushr (zw_ladd (zw_lmul x 6364136223846793005) 1442695040888963407) 33 % m < m := Int.emod_lt_of_pos _ hm.1
  refine zCT_of (by decide) (Nat.le_of_ble_eq_true rfl) (ls := [some (zR 89), some (zI m)]) rfl ?_
  refine z_al0 dX9_draw_0 (by first | decide | omega | assumption) ?_
  refine z_al0 dX9_draw_1 (by first | decide | omega | assumption) ?_
  refine z_getJ zfX9_416 dX9_draw_2 (zkB hΓ rfl) rfl ?_
  try simp only [zup_ap, zup_row, ne_eq, not_false_eq_true, zres, Int.toNat_natCast, reduceIte, Nat.reduceEqDiff, Nat.reduceAdd, and_self, and_true, true_and, and_false, false_and]
  try rw [hx]
  try simp only [zup_ap, zup_row, ne_eq, not_false_eq_true, zres, Int.toNat_natCast, reduceIte, Nat.reduceEqDiff, Nat.reduceAdd, and_self, and_true, true_and, and_false, false_and]
  refine z_ldc2 (x := 6364136223846793005) dX9_draw_5 zqX9_420 (by decide) ?_
  refine zw_lmul_s dX9_draw_8 ?_
  refine z_ldc2 (x := 1442695040888963407) dX9_draw_9 zqX9_422 (by decide) ?_
  refine zw_ladd_s dX9_draw_12 ?_
  refine z_putJ zfX9_416 dX9_draw_13 (zkB hΓ rfl) rfl rfl ?_
  refine z_al0 dX9_draw_16 (by first | decide | omega | assumption) ?_
  refine z_getJ zfX9_416 dX9_draw_17 (zkB hΓ rfl) rfl ?_
  try simp only [zup_ap, zup_row, ne_eq, not_false_eq_true, zres, Int.toNat_natCast, reduceIte, Nat.reduceEqDiff, Nat.reduceAdd, and_self, and_true, true_and, and_false, false_and]
  try rw [hx]
  try simp only [zup_ap, zup_row, ne_eq, not_false_eq_true, zres, Int.toNat_natCast, reduceIte, Nat.reduceEqDiff, Nat.reduceAdd, and_self, and_true, true_and, and_false, false_and]
  refine z_bipush (x := 33) dX9_draw_20 (by rfl) (by decide) ?_
  refine z_lushr dX9_draw_22 ?_
  refine z_il1 dX9_draw_23 ?_
  refine z_i2l dX9_draw_24 ?_
  refine z_lremp dX9_draw_25 (by omega) (by omega) ?_
  refine z_l2i dX9_draw_26 (by show zo32 _; unfold zo32; omega) ?_
  refine z_iret dX9_draw_27 rfl (Nat.le_refl _) (Nat.le_refl _) (zext_rf _) (fun hrr => ?_)
  first | exact hQ | (exfalso; omega)
set_option maxRecDepth 4000 in
theorem X3_dr_i {l : Launch} {Γ : zC} {h1 : zM} {Q : Option zV → zC → zM → Prop} {isl days : Nat} {risk seed : Int} {d : Nat} {S1 : zDS} (hΓ : zBase Γ) {φ : Int → Int} {ν : Int → Int → Int} (hν : ∀ x m, 0 < m → 0 ≤ ν x m ∧ ν x m < m) (hdr : ∀ {h : zM} {x m : Int} {Q : Option zV → zC → zM → Prop}, h 25 9 = x → (0 < m ∧ m ≤ 100) → Q (some (zI (ν (φ x) m))) Γ (zup h 25 9 (φ x)) → zCT l mX3_draw 0 0 0 Γ [zR 25, zI m] h Q) (hisl : isl ≤ 6) (hK : ∀ (h9 : zM) (y : Int), zf8 h1 h9 → zDc h9 (zdIs φ ν risk isl S1) → zG (zFn l mX3_drownings 1 0 0 Γ Q) 0 0 Γ h9 83 [some (zR 25), some (zI (isl : Int)), some (zI (days : Int)), some (zI risk), some (zL seed), none, some (zI (d : Int)), some (zI y)] []) : ∀ (m : Nat) (i : Nat) (h : zM), isl - i < m → i ≤ isl → zf8 h1 h → zDc h (zdIs φ ν risk i S1) → zG (zFn l mX3_drownings 1 0 0 Γ Q) 0 0 Γ h 33 [some (zR 25), some (zI (isl : Int)), some (zI (days : Int)), some (zI risk), some (zL seed), none, some (zI (d : Int)), some (zI (i : Int))] [] := by
  intro m
  induction m with
  | zero => intros; omega
  | succ m ih =>
    intro i h hm hi hE hS
    generalize hSS : zdIs φ ν risk i S1 = S at hS
    obtain ⟨x, nw, k, f⟩ := S
    obtain ⟨s1, s2, s3, s4, s5, s6⟩ := hS
    change h 25 9 = x at s1
    change h 25 0 = nw at s2
    change h 25 1 = (k : Int) at s3
    change 0 ≤ nw ∧ nw ≤ 99 at s5
    change k ≤ 20 at s6
    refine z_il7 dX3_drownings_33 ?_
    refine z_il1 dX3_drownings_35 ?_
    refine z_icmp_ge (t := 83) dX3_drownings_36 (by rfl) (fun ht36 => ?_) (fun hf36 => ?_)
    · have ei : i = isl := by omega
      subst ei
      exact hK _ _ hE (by rw [hSS]; exact ⟨s1, s2, s3, s4, s5, s6⟩)
    · refine z_al0 dX3_drownings_39 (by first | decide | omega | assumption) ?_
      refine z_getI zfX3_34 dX3_drownings_40 (zkB hΓ rfl) rfl ?_
      try simp only [zup_ap, zup_row, ne_eq, not_false_eq_true, zres, Int.toNat_natCast, reduceIte, Nat.reduceEqDiff, Nat.reduceAdd, and_self, and_true, true_and, and_false, false_and]
      try rw [s3]
      try simp only [zup_ap, zup_row, ne_eq, not_false_eq_true, zres, Int.toNat_natCast, reduceIte, Nat.reduceEqDiff, Nat.reduceAdd, and_self, and_true, true_and, and_false, false_and]
      refine z_bipush (x := 20) dX3_drownings_43 (by rfl) (by decide) ?_
      refine z_icmp_ge (t := 77) dX3_drownings_45 (by rfl) (fun ht45 => ?_) (fun hf45 => ?_)
      · refine z_ii7 dX3_drownings_77 (by omega) (Nat.le_of_ble_eq_true rfl) rfl ?_
        refine z_goto (t := 33) dX3_drownings_80 (by rfl) ?_
        first
        | (have e9 := zdI_c (φ := φ) (ν := ν) (risk := risk) (i := i) (x := x) (nw := nw) (f := f) (show ¬ k < 20 by omega)
           refine ih (i + 1) _ (by omega) (by omega) hE ?_
           show zDc _ (zdI φ ν risk i (zdIs φ ν risk i S1))
           rw [hSS, e9]
           exact ⟨s1, s2, s3, s4, s5, s6⟩)
        | (have e9 := zdI_a (φ := φ) (ν := ν) (risk := risk) (i := i) (x := x) (nw := nw) (f := f) (show k < 20 by omega) (show ν (φ x) 100 < risk by omega)
           refine ih (i + 1) _ (by omega) (by omega) (zf8_f (zf8_r (zf8_r (zf8_r (zf8_f (zf8_f hE (by omega)) (by omega)) (by omega)) (by omega)) (by omega)) (by omega)) ?_
           show zDc _ (zdI φ ν risk i (zdIs φ ν risk i S1))
           rw [hSS, e9]
           refine ⟨by simp only [zup_ap]; simp, s2, ?_, fun j hj => ?_, s5, by show k + 1 ≤ 20; omega⟩
           · show (k : Int) + 1 = ((k + 1 : Nat) : Int); omega
           · have h4 := s4 j hj
             show _ = (if j = k then ((i : Int), nw, 1 + ν (φ (φ x)) 12) else f j).1 ∧ _ = (if j = k then ((i : Int), nw, 1 + ν (φ (φ x)) 12) else f j).2.1 ∧ _ = (if j = k then ((i : Int), nw, 1 + ν (φ (φ x)) 12) else f j).2.2
             by_cases ej : j = k
             · subst ej
               rw [if_pos rfl]
               simp [zup]
             · rw [if_neg ej]
               have ej2 : ¬ k = j := fun e => ej e.symm
               simp [zup, ej, ej2, Int.toNat_natCast]
               exact h4)
        | (have e9 := zdI_b (φ := φ) (ν := ν) (risk := risk) (i := i) (x := x) (nw := nw) (f := f) (show k < 20 by omega) (show ¬ ν (φ x) 100 < risk by omega)
           refine ih (i + 1) _ (by omega) (by omega) (zf8_f hE (by omega)) ?_
           show zDc _ (zdI φ ν risk i (zdIs φ ν risk i S1))
           rw [hSS, e9]
           exact ⟨zup_rj _ _ _ _, s2, s3, s4, s5, s6⟩)
      · refine z_al0 dX3_drownings_48 (by first | decide | omega | assumption) ?_
        refine z_bipush (x := 100) dX3_drownings_49 (by rfl) (by decide) ?_
        refine zcv1 dX3_drownings_51 zkX3_56 ziX3_draw zsX3_draw (zkB hΓ rfl) (by decide) rfl (Nat.le_of_ble_eq_true rfl) (by decide) (by first | decide | omega) ⟨Nat.le_refl _, Nat.le_refl _⟩ (hdr s1 (by decide) (fun _ => ?_))
        try simp only [zup_ap, zup_row, ne_eq, not_false_eq_true, zres, Int.toNat_natCast, reduceIte, Nat.reduceEqDiff, Nat.reduceAdd, and_self, and_true, true_and, and_false, false_and]
        refine z_il3 dX3_drownings_54 ?_
        refine z_icmp_ge (t := 77) dX3_drownings_55 (by rfl) (fun ht55 => ?_) (fun hf55 => ?_)
        · refine z_ii7 dX3_drownings_77 (by omega) (Nat.le_of_ble_eq_true rfl) rfl ?_
          refine z_goto (t := 33) dX3_drownings_80 (by rfl) ?_
          first
          | (have e9 := zdI_c (φ := φ) (ν := ν) (risk := risk) (i := i) (x := x) (nw := nw) (f := f) (show ¬ k < 20 by omega)
             refine ih (i + 1) _ (by omega) (by omega) hE ?_
             show zDc _ (zdI φ ν risk i (zdIs φ ν risk i S1))
             rw [hSS, e9]
             exact ⟨s1, s2, s3, s4, s5, s6⟩)
          | (have e9 := zdI_a (φ := φ) (ν := ν) (risk := risk) (i := i) (x := x) (nw := nw) (f := f) (show k < 20 by omega) (show ν (φ x) 100 < risk by omega)
             refine ih (i + 1) _ (by omega) (by omega) (zf8_f (zf8_r (zf8_r (zf8_r (zf8_f (zf8_f hE (by omega)) (by omega)) (by omega)) (by omega)) (by omega)) (by omega)) ?_
             show zDc _ (zdI φ ν risk i (zdIs φ ν risk i S1))
             rw [hSS, e9]
             refine ⟨by simp only [zup_ap]; simp, s2, ?_, fun j hj => ?_, s5, by show k + 1 ≤ 20; omega⟩
             · show (k : Int) + 1 = ((k + 1 : Nat) : Int); omega
             · have h4 := s4 j hj
               show _ = (if j = k then ((i : Int), nw, 1 + ν (φ (φ x)) 12) else f j).1 ∧ _ = (if j = k then ((i : Int), nw, 1 + ν (φ (φ x)) 12) else f j).2.1 ∧ _ = (if j = k then ((i : Int), nw, 1 + ν (φ (φ x)) 12) else f j).2.2
               by_cases ej : j = k
               · subst ej
                 rw [if_pos rfl]
                 simp [zup]
               · rw [if_neg ej]
                 have ej2 : ¬ k = j := fun e => ej e.symm
                 simp [zup, ej, ej2, Int.toNat_natCast]
                 exact h4)
          | (have e9 := zdI_b (φ := φ) (ν := ν) (risk := risk) (i := i) (x := x) (nw := nw) (f := f) (show k < 20 by omega) (show ¬ ν (φ x) 100 < risk by omega)
             refine ih (i + 1) _ (by omega) (by omega) (zf8_f hE (by omega)) ?_
             show zDc _ (zdI φ ν risk i (zdIs φ ν risk i S1))
             rw [hSS, e9]
             exact ⟨zup_rj _ _ _ _, s2, s3, s4, s5, s6⟩)
        · refine z_al0 dX3_drownings_58 (by first | decide | omega | assumption) ?_
          refine z_il7 dX3_drownings_59 ?_
          refine z_al0 dX3_drownings_61 (by first | decide | omega | assumption) ?_
          refine z_getI zfX3_30 dX3_drownings_62 (zkB hΓ rfl) rfl ?_
          try simp only [zup_ap, zup_row, ne_eq, not_false_eq_true, zres, Int.toNat_natCast, reduceIte, Nat.reduceEqDiff, Nat.reduceAdd, and_self, and_true, true_and, and_false, false_and]
          try rw [s2]
          try simp only [zup_ap, zup_row, ne_eq, not_false_eq_true, zres, Int.toNat_natCast, reduceIte, Nat.reduceEqDiff, Nat.reduceAdd, and_self, and_true, true_and, and_false, false_and]
          refine z_iconst dX3_drownings_65 (by decide) ?_
          refine z_al0 dX3_drownings_66 (by first | decide | omega | assumption) ?_
          refine z_bipush (x := 12) dX3_drownings_67 (by rfl) (by decide) ?_
          refine zcv1 dX3_drownings_69 zkX3_56 ziX3_draw zsX3_draw (zkB hΓ rfl) (by decide) rfl (Nat.le_of_ble_eq_true rfl) (by decide) (by first | decide | omega) ⟨Nat.le_refl _, Nat.le_refl _⟩ (hdr (x := φ x) (m := 12) (zup_rj _ _ _ _) (by decide) (fun _ => ?_))
          try simp only [zup_ap, zup_row, ne_eq, not_false_eq_true, zres, Int.toNat_natCast, reduceIte, Nat.reduceEqDiff, Nat.reduceAdd, and_self, and_true, true_and, and_false, false_and]
          have hz9 := hν (φ (φ x)) 12 (by decide)
          refine z_iadd dX3_drownings_72 (by omega) ?_
          refine zcv3 dX3_drownings_73 zkX3_60 ziX3_addChange zsX3_addChange (zkB hΓ rfl) (by decide) rfl (Nat.le_of_ble_eq_true rfl) (by decide) (by first | decide | omega) ⟨Nat.le_refl _, Nat.le_refl _⟩ (X3_addChange_ct hΓ (k := (k : Int)) (by exact s3) (by omega) (fun hg9 _ => absurd (show (k : Int) < 20 by omega) hg9) (fun hg9 _ => ?_))
          · try simp only [zup_ap, zup_row, ne_eq, not_false_eq_true, zres, Int.toNat_natCast, reduceIte, Nat.reduceEqDiff, Nat.reduceAdd, and_self, and_true, true_and, and_false, false_and]
            refine z_pop dX3_drownings_76 rfl ?_
            refine z_ii7 dX3_drownings_77 (by omega) (Nat.le_of_ble_eq_true rfl) rfl ?_
            refine z_goto (t := 33) dX3_drownings_80 (by rfl) ?_
            first
            | (have e9 := zdI_c (φ := φ) (ν := ν) (risk := risk) (i := i) (x := x) (nw := nw) (f := f) (show ¬ k < 20 by omega)
               refine ih (i + 1) _ (by omega) (by omega) hE ?_
               show zDc _ (zdI φ ν risk i (zdIs φ ν risk i S1))
               rw [hSS, e9]
               exact ⟨s1, s2, s3, s4, s5, s6⟩)
            | (have e9 := zdI_a (φ := φ) (ν := ν) (risk := risk) (i := i) (x := x) (nw := nw) (f := f) (show k < 20 by omega) (show ν (φ x) 100 < risk by omega)
               refine ih (i + 1) _ (by omega) (by omega) (zf8_f (zf8_r (zf8_r (zf8_r (zf8_f (zf8_f hE (by omega)) (by omega)) (by omega)) (by omega)) (by omega)) (by omega)) ?_
               show zDc _ (zdI φ ν risk i (zdIs φ ν risk i S1))
               rw [hSS, e9]
               refine ⟨by simp only [zup_ap]; simp, s2, ?_, fun j hj => ?_, s5, by show k + 1 ≤ 20; omega⟩
               · show (k : Int) + 1 = ((k + 1 : Nat) : Int); omega
               · have h4 := s4 j hj
                 show _ = (if j = k then ((i : Int), nw, 1 + ν (φ (φ x)) 12) else f j).1 ∧ _ = (if j = k then ((i : Int), nw, 1 + ν (φ (φ x)) 12) else f j).2.1 ∧ _ = (if j = k then ((i : Int), nw, 1 + ν (φ (φ x)) 12) else f j).2.2
                 by_cases ej : j = k
                 · subst ej
                   rw [if_pos rfl]
                   simp [zup]
                 · rw [if_neg ej]
                   have ej2 : ¬ k = j := fun e => ej e.symm
                   simp [zup, ej, ej2, Int.toNat_natCast]
                   exact h4)
            | (have e9 := zdI_b (φ := φ) (ν := ν) (risk := risk) (i := i) (x := x) (nw := nw) (f := f) (show k < 20 by omega) (show ¬ ν (φ x) 100 < risk by omega)
               refine ih (i + 1) _ (by omega) (by omega) (zf8_f hE (by omega)) ?_
               show zDc _ (zdI φ ν risk i (zdIs φ ν risk i S1))
               rw [hSS, e9]
               exact ⟨zup_rj _ _ _ _, s2, s3, s4, s5, s6⟩)
set_option maxRecDepth 4000 in
theorem X3_dr_d {l : Launch} {Γ : zC} {h1 : zM} {Q : Option zV → zC → zM → Prop} {isl days : Nat} {risk seed : Int} {S0 : zDS} (hΓ : zBase Γ) {φ : Int → Int} {ν : Int → Int → Int} (hν : ∀ x m, 0 < m → 0 ≤ ν x m ∧ ν x m < m) (hdr : ∀ {h : zM} {x m : Int} {Q : Option zV → zC → zM → Prop}, h 25 9 = x → (0 < m ∧ m ≤ 100) → Q (some (zI (ν (φ x) m))) Γ (zup h 25 9 (φ x)) → zCT l mX3_draw 0 0 0 Γ [zR 25, zI m] h Q) (hisl : isl ≤ 6) (hdays : days ≤ 99) (hQ : ∀ h9, zf8 h1 h9 → zDc h9 (zdDs φ ν isl risk days S0) → Q none Γ h9) : ∀ (m : Nat) (d : Nat) (y : Option zV) (h : zM), days - d < m → d ≤ days → zf8 h1 h → zDc h (zdDs φ ν isl risk d S0) → zG (zFn l mX3_drownings 1 0 0 Γ Q) 0 0 Γ h 9 [some (zR 25), some (zI (isl : Int)), some (zI (days : Int)), some (zI risk), some (zL seed), none, some (zI (d : Int)), y] [] := by
  intro m
  induction m with
  | zero => intros; omega
  | succ m ih =>
    intro d y h hm hd hE hS
    have hnb := hS.2.2.2.2.1
    refine z_il6 dX3_drownings_9 ?_
    refine z_il2 dX3_drownings_11 ?_
    refine z_icmp_ge (t := 89) dX3_drownings_12 (by rfl) (fun ht12 => ?_) (fun hf12 => ?_)
    · refine z_ret dX3_drownings_89 rfl (Nat.le_refl _) (Nat.le_refl _) (zext_rf _) ?_
      have ed : d = days := by omega
      subst ed
      exact hQ h hE hS
    · refine z_al0 dX3_drownings_15 (by first | decide | omega | assumption) ?_
      refine z_bipush (x := 99) dX3_drownings_16 (by rfl) (by decide) ?_
      refine z_al0 dX3_drownings_18 (by first | decide | omega | assumption) ?_
      refine z_getI zfX3_30 dX3_drownings_19 (zkB hΓ rfl) rfl ?_
      rw [hS.2.1]
      try simp only [zup_ap, zup_row, ne_eq, not_false_eq_true, zres, Int.toNat_natCast, reduceIte, Nat.reduceEqDiff, Nat.reduceAdd, and_self, and_true, true_and, and_false, false_and]
      refine z_iconst dX3_drownings_22 (by decide) ?_
      refine z_iadd dX3_drownings_23 (by omega) ?_
      refine z_mmin dX3_drownings_24 zkX3_50 ztJ9_min_7cf53 (Nat.le_of_ble_eq_true rfl) (by first | decide | omega) ⟨Nat.le_refl _, Nat.le_refl _⟩ ?_
      refine z_putI zfX3_30 dX3_drownings_27 (zkB hΓ rfl) rfl rfl ?_
      refine z_iconst dX3_drownings_30 (by decide) ?_
      refine z_is7 dX3_drownings_31 (Nat.le_of_ble_eq_true rfl) rfl ?_
      refine X3_dr_i (S1 := ((zdDs φ ν isl risk d S0).1, zdN (zdDs φ ν isl risk d S0).2.1, (zdDs φ ν isl risk d S0).2.2)) hΓ hν hdr hisl (fun h9 y9 hE9 hS9 => ?_) _ 0 _ (Nat.lt_succ_self _) (by omega) (zf8_f hE (by omega)) ?_
      · refine z_ii6 dX3_drownings_83 (by omega) (Nat.le_of_ble_eq_true rfl) rfl ?_
        refine z_goto (t := 9) dX3_drownings_86 (by rfl) ?_
        exact ih (d + 1) _ _ (by omega) (by omega) hE9 hS9
      · obtain ⟨s1, s2, s3, s4, s5, s6⟩ := hS
        exact ⟨s1, rfl, s3, s4, by show 0 ≤ zdN _ ∧ zdN _ ≤ 99; unfold zdN; split <;> omega, s6⟩
set_option maxRecDepth 4000 in
theorem X3_drownings_ct {l : Launch} {Γ : zC} {h1 : zM} {Q : Option zV → zC → zM → Prop} {isl days : Nat} {risk seed : Int} {S0 : Int × Nat × (Nat → Int × Int × Int)} (hΓ : zBase Γ) {φ : Int → Int} {ν : Int → Int → Int} (hν : ∀ x m, 0 < m → 0 ≤ ν x m ∧ ν x m < m) (hdr : ∀ {h : zM} {x m : Int} {Q : Option zV → zC → zM → Prop}, h 25 9 = x → (0 < m ∧ m ≤ 100) → Q (some (zI (ν (φ x) m))) Γ (zup h 25 9 (φ x)) → zCT l mX3_draw 0 0 0 Γ [zR 25, zI m] h Q) (hisl : isl ≤ 6) (hdays : days ≤ 99) (hS : ∀ x, zDc (zup h1 25 9 x) (x, S0)) (hQ : ∀ h9, zf8 h1 h9 → zDc h9 (zdDs φ ν isl risk days (seed, S0)) → Q none Γ h9) : zCT l mX3_drownings 1 0 0 Γ [zR 25, zI (isl : Int), zI (days : Int), zI risk, zL seed] h1 Q := by
  refine zCT_of (by decide) (Nat.le_of_ble_eq_true rfl) (ls := [some (zR 25), some (zI (isl : Int)), some (zI (days : Int)), some (zI risk), some (zL seed), none, none, none]) rfl ?_
  refine z_al0 dX3_drownings_0 (by first | decide | omega | assumption) ?_
  refine z_ll4 dX3_drownings_1 ?_
  refine z_putJ zfX3_46 dX3_drownings_3 (zkB hΓ rfl) rfl rfl ?_
  refine z_iconst dX3_drownings_6 (by decide) ?_
  refine z_is6 dX3_drownings_7 (Nat.le_of_ble_eq_true rfl) rfl ?_
  exact X3_dr_d (S0 := (seed, S0)) hΓ hν hdr hisl hdays hQ _ 0 _ _ (Nat.lt_succ_self _) (by omega) (zf8_f (zf8_rf _) (by omega)) (hS seed)
set_option maxRecDepth 4000 in
theorem X8_drown_ct {l : Launch} {Γ : zC} {h : zM} {Q : Option zV → zC → zM → Prop} {days risk seed : Int} {φ : Int → Int} {ν : Int → Int → Int} (hν : ∀ x m, 0 < m → 0 ≤ ν x m ∧ ν x m < m) (hdr : ∀ {h : zM} {x m : Int} {Q : Option zV → zC → zM → Prop}, h 25 9 = x → (0 < m ∧ m ≤ 100) → Q (some (zI (ν (φ x) m))) Γ (zup h 25 9 (φ x)) → zCT l mX3_draw 0 0 0 Γ [zR 25, zI m] h Q) (hI : zIv Γ h) (hQ0 : ¬ (h 89 22 ≠ 0 ∧ (1 ≤ days ∧ days ≤ 99) ∧ (0 ≤ risk ∧ risk ≤ 100)) → Q (some (zI (-1))) Γ h) (hQ1 : ∀ h9, (h 89 22 ≠ 0 ∧ (1 ≤ days ∧ days ≤ 99) ∧ (0 ≤ risk ∧ risk ≤ 100)) → zDc h9 (zdDs φ ν (h 89 22).toNat risk days.toNat (seed, h 89 29, (h 89 28).toNat, fun j => (h 99 j, h 100 j, h 101 j))) → zf8 h h9 → Q (some (zI (((zdDs φ ν (h 89 22).toNat risk days.toNat (seed, h 89 29, (h 89 28).toNat, fun j => (h 99 j, h 100 j, h 101 j))).2.2.1 : Int) - h 89 28))) Γ h9) : zCT l mX8_drown 2 0 0 Γ [zR 1, zI days, zI risk, zL seed] h Q := by
  have hΓ := hI.base
  have hx2 := hI.isl
  have hx5 := hI.chn
  have hnw := hI.now
  refine zCT_of (by decide) (Nat.le_of_ble_eq_true rfl) (ls := [some (zR 1), some (zI days), some (zI risk), some (zL seed), none, none]) rfl ?_
  refine z_al0 dX8_drown_0 (by first | decide | omega | assumption) ?_
  refine z_getR zfX8_35 dX8_drown_1 (zkB hΓ rfl) rfl (zsB hΓ rfl) (zvB hΓ (by decide)) ?_
  refine z_getR zfX8_132 dX8_drown_4 (zkB hΓ rfl) rfl (zsB hΓ rfl) (zvB hΓ (by decide)) ?_
  refine z_getI zfX8_210 dX8_drown_7 (zkB hΓ rfl) rfl ?_
  first | rw [hI.cisl] | skip
  try simp only [zup_ap, zup_row, ne_eq, not_false_eq_true, zres, Int.toNat_natCast, reduceIte, Nat.reduceEqDiff, Nat.reduceAdd, and_self, and_true, true_and, and_false, false_and]
  refine z_if_eq (t := 34) dX8_drown_10 (by rfl) (fun ht10 => ?_) (fun hf10 => ?_)
  · refine z_iconst dX8_drown_34 (by decide) ?_
    refine z_iret dX8_drown_35 rfl (Nat.le_refl _) (Nat.le_refl _) (zext_rf _) (fun hrr => ?_)
    exact hQ0 (by omega)
  · refine z_il1 dX8_drown_13 ?_
    refine z_iconst dX8_drown_14 (by decide) ?_
    refine z_icmp_lt (t := 34) dX8_drown_15 (by rfl) (fun ht15 => ?_) (fun hf15 => ?_)
    · refine z_iconst dX8_drown_34 (by decide) ?_
      refine z_iret dX8_drown_35 rfl (Nat.le_refl _) (Nat.le_refl _) (zext_rf _) (fun hrr => ?_)
      exact hQ0 (by omega)
    · refine z_il1 dX8_drown_18 ?_
      refine z_bipush (x := 99) dX8_drown_19 (by rfl) (by decide) ?_
      refine z_icmp_gt (t := 34) dX8_drown_21 (by rfl) (fun ht21 => ?_) (fun hf21 => ?_)
      · refine z_iconst dX8_drown_34 (by decide) ?_
        refine z_iret dX8_drown_35 rfl (Nat.le_refl _) (Nat.le_refl _) (zext_rf _) (fun hrr => ?_)
        exact hQ0 (by omega)
      · refine z_il2 dX8_drown_24 ?_
        refine z_if_lt (t := 34) dX8_drown_25 (by rfl) (fun ht25 => ?_) (fun hf25 => ?_)
        · refine z_iconst dX8_drown_34 (by decide) ?_
          refine z_iret dX8_drown_35 rfl (Nat.le_refl _) (Nat.le_refl _) (zext_rf _) (fun hrr => ?_)
          exact hQ0 (by omega)
        · refine z_il2 dX8_drown_28 ?_
          refine z_bipush (x := 100) dX8_drown_29 (by rfl) (by decide) ?_
          refine z_icmp_le (t := 36) dX8_drown_31 (by rfl) (fun ht31 => ?_) (fun hf31 => ?_)
          · refine z_al0 dX8_drown_36 (by first | decide | omega | assumption) ?_
            refine z_getR zfX8_35 dX8_drown_37 (zkB hΓ rfl) rfl (zsB hΓ rfl) (zvB hΓ (by decide)) ?_
            refine z_getR zfX8_190 dX8_drown_40 (zkB hΓ rfl) rfl (zsB hΓ rfl) (zvB hΓ (by decide)) ?_
            refine z_getI zfX8_242 dX8_drown_43 (zkB hΓ rfl) rfl ?_
            first | rw [hI.chn.1] | rw [hS9.2.2.1]
            try simp only [zup_ap, zup_row, ne_eq, not_false_eq_true, zres, Int.toNat_natCast, reduceIte, Nat.reduceEqDiff, Nat.reduceAdd, and_self, and_true, true_and, and_false, false_and]
            refine z_is5 dX8_drown_46 (Nat.le_of_ble_eq_true rfl) rfl ?_
            refine z_al0 dX8_drown_48 (by first | decide | omega | assumption) ?_
            refine z_getR zfX8_35 dX8_drown_49 (zkB hΓ rfl) rfl (zsB hΓ rfl) (zvB hΓ (by decide)) ?_
            refine z_getR zfX8_190 dX8_drown_52 (zkB hΓ rfl) rfl (zsB hΓ rfl) (zvB hΓ (by decide)) ?_
            refine z_al0 dX8_drown_55 (by first | decide | omega | assumption) ?_
            refine z_getR zfX8_35 dX8_drown_56 (zkB hΓ rfl) rfl (zsB hΓ rfl) (zvB hΓ (by decide)) ?_
            refine z_getR zfX8_132 dX8_drown_59 (zkB hΓ rfl) rfl (zsB hΓ rfl) (zvB hΓ (by decide)) ?_
            refine z_getI zfX8_210 dX8_drown_62 (zkB hΓ rfl) rfl ?_
            first | rw [hI.cisl] | skip
            try simp only [zup_ap, zup_row, ne_eq, not_false_eq_true, zres, Int.toNat_natCast, reduceIte, Nat.reduceEqDiff, Nat.reduceAdd, and_self, and_true, true_and, and_false, false_and]
            refine z_il1 dX8_drown_65 ?_
            refine z_il2 dX8_drown_66 ?_
            refine z_ll3 dX8_drown_67 ?_
            obtain ⟨days, rfl⟩ := Int.eq_ofNat_of_zero_le (show 0 ≤ days by omega)
            rw [show h 89 22 = (((h 89 22).toNat : Nat) : Int) by omega]
            refine zcv4 dX8_drown_68 zkX8_245 ziX3_drownings zsX3_drownings (zkB hΓ rfl) (by decide) rfl (Nat.le_of_ble_eq_true rfl) (by decide) (by first | decide | omega) ⟨Nat.le_refl _, Nat.le_refl _⟩ (X3_drownings_ct (S0 := (h 89 29, (h 89 28).toNat, fun j => (h 99 j, h 100 j, h 101 j))) hΓ hν hdr (by omega) (by omega) (fun x => ⟨rfl, hnw.1, by show h 25 1 = (((h 89 28).toNat : Nat) : Int); rw [hx5.1]; omega, fun j hj => hI.chr j hj, hnw.2, by show (h 89 28).toNat ≤ 20; omega⟩) (fun h9 hE9 hS9 _ => ?_))
            try simp only [zup_ap, zup_row, ne_eq, not_false_eq_true, zres, Int.toNat_natCast, reduceIte, Nat.reduceEqDiff, Nat.reduceAdd, and_self, and_true, true_and, and_false, false_and]
            refine z_al0 dX8_drown_71 (by first | decide | omega | assumption) ?_
            refine z_getR zfX8_35 dX8_drown_72 (zkB hΓ rfl) rfl (zsB hΓ rfl) (zvB hΓ (by decide)) ?_
            refine z_getR zfX8_190 dX8_drown_75 (zkB hΓ rfl) rfl (zsB hΓ rfl) (zvB hΓ (by decide)) ?_
            refine z_getI zfX8_242 dX8_drown_78 (zkB hΓ rfl) rfl ?_
            first | rw [hI.chn.1] | rw [hS9.2.2.1]
            try simp only [zup_ap, zup_row, ne_eq, not_false_eq_true, zres, Int.toNat_natCast, reduceIte, Nat.reduceEqDiff, Nat.reduceAdd, and_self, and_true, true_and, and_false, false_and]
            refine z_il5 dX8_drown_81 ?_
            refine z_isub dX8_drown_83 (by have := hS9.2.2.2.2.2; omega) ?_
            refine z_iret dX8_drown_84 rfl (Nat.le_refl _) (Nat.le_refl _) (zext_rf _) (fun hrr => ?_)
            exact hQ1 h9 (by omega) (by rw [Int.toNat_natCast]; exact hS9) hE9
          · refine z_iconst dX8_drown_34 (by decide) ?_
            refine z_iret dX8_drown_35 rfl (Nat.le_refl _) (Nat.le_refl _) (zext_rf _) (fun hrr => ?_)
            exact hQ0 (by omega)
set_option maxRecDepth 4000 in
theorem X9_dr_i {l : Launch} {Γ : zC} {h1 : zM} {Q : Option zV → zC → zM → Prop} {isl days : Nat} {risk seed k0 : Int} {d : Nat} {S1 : zDS} (hΓ : zBase Γ) {φ : Int → Int} {ν : Int → Int → Int} (hν : ∀ x m, 0 < m → 0 ≤ ν x m ∧ ν x m < m) (hdr : ∀ {h : zM} {x m : Int} {Q : Option zV → zC → zM → Prop}, h 89 47 = x → (0 < m ∧ m ≤ 100) → Q (some (zI (ν (φ x) m))) Γ (zup h 89 47 (φ x)) → zCT l mX9_draw 0 0 0 Γ [zR 89, zI m] h Q) (hisl : isl ≤ 6) (hn : h1 89 22 = (isl : Int)) (hk0 : 0 ≤ k0 ∧ k0 ≤ 20) (hK : ∀ (h9 : zM) (y c : Int), zf9 h1 h9 → c = ((zdIs φ ν risk isl S1).2.2.1 : Int) - k0 → zDr h9 (zdIs φ ν risk isl S1) → zG (zFn l mX9_drown 1 0 0 Γ Q) 0 0 Γ h9 131 [some (zR 89), some (zI (days : Int)), some (zI risk), some (zL seed), none, some (zI c), some (zI (d : Int)), some (zI y)] []) : ∀ (m : Nat) (i : Nat) (c : Int) (h : zM), isl - i < m → i ≤ isl → c = ((zdIs φ ν risk i S1).2.2.1 : Int) - k0 → zf9 h1 h → zDr h (zdIs φ ν risk i S1) → zG (zFn l mX9_drown 1 0 0 Γ Q) 0 0 Γ h 73 [some (zR 89), some (zI (days : Int)), some (zI risk), some (zL seed), none, some (zI c), some (zI (d : Int)), some (zI (i : Int))] [] := by
  intro m
  induction m with
  | zero => intros; omega
  | succ m ih =>
    intro i c h hm hi hC hE hS
    generalize hSS : zdIs φ ν risk i S1 = S at hS hC
    obtain ⟨x, nw, k, f⟩ := S
    obtain ⟨s1, s2, s3, s4, s5, s6⟩ := hS
    change h 89 47 = x at s1
    change h 89 29 = nw at s2
    change h 89 28 = (k : Int) at s3
    change 0 ≤ nw ∧ nw ≤ 99 at s5
    change k ≤ 20 at s6
    change c = (k : Int) - k0 at hC
    refine z_il7 dX9_drown_73 ?_
    refine z_al0 dX9_drown_75 (by first | decide | omega | assumption) ?_
    refine z_getI zfX9_276 dX9_drown_76 (zkB hΓ rfl) rfl ?_
    try simp only [zup_ap, zup_row, ne_eq, not_false_eq_true, zres, Int.toNat_natCast, reduceIte, Nat.reduceEqDiff, Nat.reduceAdd, and_self, and_true, true_and, and_false, false_and]
    rw [hE.2 22 (by decide) (by decide) (by decide), hn]
    try simp only [zup_ap, zup_row, ne_eq, not_false_eq_true, zres, Int.toNat_natCast, reduceIte, Nat.reduceEqDiff, Nat.reduceAdd, and_self, and_true, true_and, and_false, false_and]
    refine z_icmp_ge (t := 131) dX9_drown_79 (by rfl) (fun ht79 => ?_) (fun hf79 => ?_)
    · have ei : i = isl := by omega
      subst ei
      exact hK _ _ _ hE (by rw [hSS]; exact hC) (by rw [hSS]; exact ⟨s1, s2, s3, s4, s5, s6⟩)
    · refine z_al0 dX9_drown_82 (by first | decide | omega | assumption) ?_
      refine z_getI zfX9_282 dX9_drown_83 (zkB hΓ rfl) rfl ?_
      try simp only [zup_ap, zup_row, ne_eq, not_false_eq_true, zres, Int.toNat_natCast, reduceIte, Nat.reduceEqDiff, Nat.reduceAdd, and_self, and_true, true_and, and_false, false_and]
      try rw [s3]
      try simp only [zup_ap, zup_row, ne_eq, not_false_eq_true, zres, Int.toNat_natCast, reduceIte, Nat.reduceEqDiff, Nat.reduceAdd, and_self, and_true, true_and, and_false, false_and]
      refine z_bipush (x := 20) dX9_drown_86 (by rfl) (by decide) ?_
      refine z_icmp_eq (t := 125) dX9_drown_88 (by rfl) (fun ht88 => ?_) (fun hf88 => ?_)
      · refine z_ii7 dX9_drown_125 (by omega) (Nat.le_of_ble_eq_true rfl) rfl ?_
        refine z_goto (t := 73) dX9_drown_128 (by rfl) ?_
        first
        | (have e9 := zdI_c (φ := φ) (ν := ν) (risk := risk) (i := i) (x := x) (nw := nw) (f := f) (show ¬ k < 20 by omega)
           refine ih (i + 1) _ _ (by omega) (by omega) (by show _ = (((zdI φ ν risk i (zdIs φ ν risk i S1)).2.2.1 : Nat) : Int) - k0; rw [hSS, e9]; show _ = ((k : Nat) : Int) - k0; omega) hE ?_
           show zDr _ (zdI φ ν risk i (zdIs φ ν risk i S1))
           rw [hSS, e9]
           exact ⟨s1, s2, s3, s4, s5, s6⟩)
        | (have e9 := zdI_a (φ := φ) (ν := ν) (risk := risk) (i := i) (x := x) (nw := nw) (f := f) (show k < 20 by omega) (show ν (φ x) 100 < risk by omega)
           refine ih (i + 1) _ _ (by omega) (by omega) (by show _ = (((zdI φ ν risk i (zdIs φ ν risk i S1)).2.2.1 : Nat) : Int) - k0; rw [hSS, e9]; show _ = ((k + 1 : Nat) : Int) - k0; omega) (zf9_f (zf9_r (zf9_r (zf9_r (zf9_f (zf9_f hE (by omega)) (by omega)) (by omega)) (by omega)) (by omega)) (by omega)) ?_
           show zDr _ (zdI φ ν risk i (zdIs φ ν risk i S1))
           rw [hSS, e9]
           refine ⟨by simp only [zup_ap]; simp, s2, ?_, fun j hj => ?_, s5, by show k + 1 ≤ 20; omega⟩
           · show (k : Int) + 1 = ((k + 1 : Nat) : Int); omega
           · have h4 := s4 j hj
             show _ = (if j = k then ((i : Int), nw, 1 + ν (φ (φ x)) 12) else f j).1 ∧ _ = (if j = k then ((i : Int), nw, 1 + ν (φ (φ x)) 12) else f j).2.1 ∧ _ = (if j = k then ((i : Int), nw, 1 + ν (φ (φ x)) 12) else f j).2.2
             by_cases ej : j = k
             · subst ej
               rw [if_pos rfl]
               simp [zup]
             · rw [if_neg ej]
               have ej2 : ¬ k = j := fun e => ej e.symm
               simp [zup, ej, ej2, Int.toNat_natCast]
               exact h4)
        | (have e9 := zdI_b (φ := φ) (ν := ν) (risk := risk) (i := i) (x := x) (nw := nw) (f := f) (show k < 20 by omega) (show ¬ ν (φ x) 100 < risk by omega)
           refine ih (i + 1) _ _ (by omega) (by omega) (by show _ = (((zdI φ ν risk i (zdIs φ ν risk i S1)).2.2.1 : Nat) : Int) - k0; rw [hSS, e9]; show _ = ((k : Nat) : Int) - k0; omega) (zf9_f hE (by omega)) ?_
           show zDr _ (zdI φ ν risk i (zdIs φ ν risk i S1))
           rw [hSS, e9]
           exact ⟨zup_rj _ _ _ _, s2, s3, s4, s5, s6⟩)
      · refine z_al0 dX9_drown_91 (by first | decide | omega | assumption) ?_
        refine z_bipush (x := 100) dX9_drown_92 (by rfl) (by decide) ?_
        refine zcv1 dX9_drown_94 zkX9_426 ziX9_draw zsX9_draw (zkB hΓ rfl) (by decide) rfl (Nat.le_of_ble_eq_true rfl) (by decide) (by first | decide | omega) ⟨Nat.le_refl _, Nat.le_refl _⟩ (hdr s1 (by decide) (fun _ => ?_))
        try simp only [zup_ap, zup_row, ne_eq, not_false_eq_true, zres, Int.toNat_natCast, reduceIte, Nat.reduceEqDiff, Nat.reduceAdd, and_self, and_true, true_and, and_false, false_and]
        refine z_il2 dX9_drown_97 ?_
        refine z_icmp_lt (t := 104) dX9_drown_98 (by rfl) (fun ht98 => ?_) (fun hf98 => ?_)
        · refine z_al0 dX9_drown_104 (by first | decide | omega | assumption) ?_
          refine z_il7 dX9_drown_105 ?_
          refine z_al0 dX9_drown_107 (by first | decide | omega | assumption) ?_
          refine z_getI zfX9_288 dX9_drown_108 (zkB hΓ rfl) rfl ?_
          try simp only [zup_ap, zup_row, ne_eq, not_false_eq_true, zres, Int.toNat_natCast, reduceIte, Nat.reduceEqDiff, Nat.reduceAdd, and_self, and_true, true_and, and_false, false_and]
          try rw [s2]
          try simp only [zup_ap, zup_row, ne_eq, not_false_eq_true, zres, Int.toNat_natCast, reduceIte, Nat.reduceEqDiff, Nat.reduceAdd, and_self, and_true, true_and, and_false, false_and]
          refine z_iconst dX9_drown_111 (by decide) ?_
          refine z_al0 dX9_drown_112 (by first | decide | omega | assumption) ?_
          refine z_bipush (x := 12) dX9_drown_113 (by rfl) (by decide) ?_
          refine zcv1 dX9_drown_115 zkX9_426 ziX9_draw zsX9_draw (zkB hΓ rfl) (by decide) rfl (Nat.le_of_ble_eq_true rfl) (by decide) (by first | decide | omega) ⟨Nat.le_refl _, Nat.le_refl _⟩ (hdr (x := φ x) (m := 12) (zup_rj _ _ _ _) (by decide) (fun _ => ?_))
          try simp only [zup_ap, zup_row, ne_eq, not_false_eq_true, zres, Int.toNat_natCast, reduceIte, Nat.reduceEqDiff, Nat.reduceAdd, and_self, and_true, true_and, and_false, false_and]
          have hz9 := hν (φ (φ x)) 12 (by decide)
          refine z_iadd dX9_drown_118 (by omega) ?_
          refine zcv3 dX9_drown_119 zkX9_412 ziX9_changesTo zsX9_changesTo (zkB hΓ rfl) (by decide) rfl (Nat.le_of_ble_eq_true rfl) (by decide) (by first | decide | omega) ⟨Nat.le_refl _, Nat.le_refl _⟩ (X9_changesTo_ct hΓ (k := (k : Int)) (by exact s3) (by omega) (fun _ => ?_))
          try simp only [zup_ap, zup_row, ne_eq, not_false_eq_true, zres, Int.toNat_natCast, reduceIte, Nat.reduceEqDiff, Nat.reduceAdd, and_self, and_true, true_and, and_false, false_and]
          refine z_ii5 dX9_drown_122 (by omega) (Nat.le_of_ble_eq_true rfl) rfl ?_
          refine z_ii7 dX9_drown_125 (by omega) (Nat.le_of_ble_eq_true rfl) rfl ?_
          refine z_goto (t := 73) dX9_drown_128 (by rfl) ?_
          first
          | (have e9 := zdI_c (φ := φ) (ν := ν) (risk := risk) (i := i) (x := x) (nw := nw) (f := f) (show ¬ k < 20 by omega)
             refine ih (i + 1) _ _ (by omega) (by omega) (by show _ = (((zdI φ ν risk i (zdIs φ ν risk i S1)).2.2.1 : Nat) : Int) - k0; rw [hSS, e9]; show _ = ((k : Nat) : Int) - k0; omega) hE ?_
             show zDr _ (zdI φ ν risk i (zdIs φ ν risk i S1))
             rw [hSS, e9]
             exact ⟨s1, s2, s3, s4, s5, s6⟩)
          | (have e9 := zdI_a (φ := φ) (ν := ν) (risk := risk) (i := i) (x := x) (nw := nw) (f := f) (show k < 20 by omega) (show ν (φ x) 100 < risk by omega)
             refine ih (i + 1) _ _ (by omega) (by omega) (by show _ = (((zdI φ ν risk i (zdIs φ ν risk i S1)).2.2.1 : Nat) : Int) - k0; rw [hSS, e9]; show _ = ((k + 1 : Nat) : Int) - k0; omega) (zf9_f (zf9_r (zf9_r (zf9_r (zf9_f (zf9_f hE (by omega)) (by omega)) (by omega)) (by omega)) (by omega)) (by omega)) ?_
             show zDr _ (zdI φ ν risk i (zdIs φ ν risk i S1))
             rw [hSS, e9]
             refine ⟨by simp only [zup_ap]; simp, s2, ?_, fun j hj => ?_, s5, by show k + 1 ≤ 20; omega⟩
             · show (k : Int) + 1 = ((k + 1 : Nat) : Int); omega
             · have h4 := s4 j hj
               show _ = (if j = k then ((i : Int), nw, 1 + ν (φ (φ x)) 12) else f j).1 ∧ _ = (if j = k then ((i : Int), nw, 1 + ν (φ (φ x)) 12) else f j).2.1 ∧ _ = (if j = k then ((i : Int), nw, 1 + ν (φ (φ x)) 12) else f j).2.2
               by_cases ej : j = k
               · subst ej
                 rw [if_pos rfl]
                 simp [zup]
               · rw [if_neg ej]
                 have ej2 : ¬ k = j := fun e => ej e.symm
                 simp [zup, ej, ej2, Int.toNat_natCast]
                 exact h4)
          | (have e9 := zdI_b (φ := φ) (ν := ν) (risk := risk) (i := i) (x := x) (nw := nw) (f := f) (show k < 20 by omega) (show ¬ ν (φ x) 100 < risk by omega)
             refine ih (i + 1) _ _ (by omega) (by omega) (by show _ = (((zdI φ ν risk i (zdIs φ ν risk i S1)).2.2.1 : Nat) : Int) - k0; rw [hSS, e9]; show _ = ((k : Nat) : Int) - k0; omega) (zf9_f hE (by omega)) ?_
             show zDr _ (zdI φ ν risk i (zdIs φ ν risk i S1))
             rw [hSS, e9]
             exact ⟨zup_rj _ _ _ _, s2, s3, s4, s5, s6⟩)
        · refine z_goto (t := 125) dX9_drown_101 (by rfl) ?_
          refine z_ii7 dX9_drown_125 (by omega) (Nat.le_of_ble_eq_true rfl) rfl ?_
          refine z_goto (t := 73) dX9_drown_128 (by rfl) ?_
          first
          | (have e9 := zdI_c (φ := φ) (ν := ν) (risk := risk) (i := i) (x := x) (nw := nw) (f := f) (show ¬ k < 20 by omega)
             refine ih (i + 1) _ _ (by omega) (by omega) (by show _ = (((zdI φ ν risk i (zdIs φ ν risk i S1)).2.2.1 : Nat) : Int) - k0; rw [hSS, e9]; show _ = ((k : Nat) : Int) - k0; omega) hE ?_
             show zDr _ (zdI φ ν risk i (zdIs φ ν risk i S1))
             rw [hSS, e9]
             exact ⟨s1, s2, s3, s4, s5, s6⟩)
          | (have e9 := zdI_a (φ := φ) (ν := ν) (risk := risk) (i := i) (x := x) (nw := nw) (f := f) (show k < 20 by omega) (show ν (φ x) 100 < risk by omega)
             refine ih (i + 1) _ _ (by omega) (by omega) (by show _ = (((zdI φ ν risk i (zdIs φ ν risk i S1)).2.2.1 : Nat) : Int) - k0; rw [hSS, e9]; show _ = ((k + 1 : Nat) : Int) - k0; omega) (zf9_f (zf9_r (zf9_r (zf9_r (zf9_f (zf9_f hE (by omega)) (by omega)) (by omega)) (by omega)) (by omega)) (by omega)) ?_
             show zDr _ (zdI φ ν risk i (zdIs φ ν risk i S1))
             rw [hSS, e9]
             refine ⟨by simp only [zup_ap]; simp, s2, ?_, fun j hj => ?_, s5, by show k + 1 ≤ 20; omega⟩
             · show (k : Int) + 1 = ((k + 1 : Nat) : Int); omega
             · have h4 := s4 j hj
               show _ = (if j = k then ((i : Int), nw, 1 + ν (φ (φ x)) 12) else f j).1 ∧ _ = (if j = k then ((i : Int), nw, 1 + ν (φ (φ x)) 12) else f j).2.1 ∧ _ = (if j = k then ((i : Int), nw, 1 + ν (φ (φ x)) 12) else f j).2.2
               by_cases ej : j = k
               · subst ej
                 rw [if_pos rfl]
                 simp [zup]
               · rw [if_neg ej]
                 have ej2 : ¬ k = j := fun e => ej e.symm
                 simp [zup, ej, ej2, Int.toNat_natCast]
                 exact h4)
          | (have e9 := zdI_b (φ := φ) (ν := ν) (risk := risk) (i := i) (x := x) (nw := nw) (f := f) (show k < 20 by omega) (show ¬ ν (φ x) 100 < risk by omega)
             refine ih (i + 1) _ _ (by omega) (by omega) (by show _ = (((zdI φ ν risk i (zdIs φ ν risk i S1)).2.2.1 : Nat) : Int) - k0; rw [hSS, e9]; show _ = ((k : Nat) : Int) - k0; omega) (zf9_f hE (by omega)) ?_
             show zDr _ (zdI φ ν risk i (zdIs φ ν risk i S1))
             rw [hSS, e9]
             exact ⟨zup_rj _ _ _ _, s2, s3, s4, s5, s6⟩)
set_option maxRecDepth 4000 in
theorem X9_dr_d {l : Launch} {Γ : zC} {h1 : zM} {Q : Option zV → zC → zM → Prop} {isl days : Nat} {risk seed k0 : Int} {S0 : zDS} (hΓ : zBase Γ) {φ : Int → Int} {ν : Int → Int → Int} (hν : ∀ x m, 0 < m → 0 ≤ ν x m ∧ ν x m < m) (hdr : ∀ {h : zM} {x m : Int} {Q : Option zV → zC → zM → Prop}, h 89 47 = x → (0 < m ∧ m ≤ 100) → Q (some (zI (ν (φ x) m))) Γ (zup h 89 47 (φ x)) → zCT l mX9_draw 0 0 0 Γ [zR 89, zI m] h Q) (hisl : isl ≤ 6) (hdays : days ≤ 99) (hn : h1 89 22 = (isl : Int)) (hk0 : 0 ≤ k0 ∧ k0 ≤ 20) (hQ : ∀ h9, zf9 h1 h9 → zDr h9 (zdDs φ ν isl risk days S0) → Q (some (zI (((zdDs φ ν isl risk days S0).2.2.1 : Int) - k0))) Γ h9) : ∀ (m : Nat) (d : Nat) (c : Int) (y : Option zV) (h : zM), days - d < m → d ≤ days → c = ((zdDs φ ν isl risk d S0).2.2.1 : Int) - k0 → zf9 h1 h → zDr h (zdDs φ ν isl risk d S0) → zG (zFn l mX9_drown 1 0 0 Γ Q) 0 0 Γ h 49 [some (zR 89), some (zI (days : Int)), some (zI risk), some (zL seed), none, some (zI c), some (zI (d : Int)), y] [] := by
  intro m
  induction m with
  | zero => intros; omega
  | succ m ih =>
    intro d c y h hm hd hC hE hS
    have hnb := hS.2.2.2.2.1
    refine z_il6 dX9_drown_49 ?_
    refine z_il1 dX9_drown_51 ?_
    refine z_icmp_ge (t := 137) dX9_drown_52 (by rfl) (fun ht52 => ?_) (fun hf52 => ?_)
    · refine z_il5 dX9_drown_137 ?_
      refine z_iret dX9_drown_139 rfl (Nat.le_refl _) (Nat.le_refl _) (zext_rf _) (fun hrr => ?_)
      have ed : d = days := by omega
      subst ed
      rw [hC]
      exact hQ h hE hS
    · refine z_al0 dX9_drown_55 (by first | decide | omega | assumption) ?_
      refine z_bipush (x := 99) dX9_drown_56 (by rfl) (by decide) ?_
      refine z_al0 dX9_drown_58 (by first | decide | omega | assumption) ?_
      refine z_getI zfX9_288 dX9_drown_59 (zkB hΓ rfl) rfl ?_
      rw [hS.2.1]
      try simp only [zup_ap, zup_row, ne_eq, not_false_eq_true, zres, Int.toNat_natCast, reduceIte, Nat.reduceEqDiff, Nat.reduceAdd, and_self, and_true, true_and, and_false, false_and]
      refine z_iconst dX9_drown_62 (by decide) ?_
      refine z_iadd dX9_drown_63 (by omega) ?_
      refine z_mmin dX9_drown_64 zkX9_347 ztJ9_min_7cf53 (Nat.le_of_ble_eq_true rfl) (by first | decide | omega) ⟨Nat.le_refl _, Nat.le_refl _⟩ ?_
      refine z_putI zfX9_288 dX9_drown_67 (zkB hΓ rfl) rfl rfl ?_
      refine z_iconst dX9_drown_70 (by decide) ?_
      refine z_is7 dX9_drown_71 (Nat.le_of_ble_eq_true rfl) rfl ?_
      refine X9_dr_i (S1 := ((zdDs φ ν isl risk d S0).1, zdN (zdDs φ ν isl risk d S0).2.1, (zdDs φ ν isl risk d S0).2.2)) hΓ hν hdr hisl (by rw [zup_ap, if_neg (by decide), hE.2 22 (by decide) (by decide) (by decide)]; exact hn) hk0 (fun h9 y9 c9 hE9 hC9 hS9 => ?_) _ 0 _ _ (Nat.lt_succ_self _) (by omega) hC (zf9_rf _) ?_
      · refine z_ii6 dX9_drown_131 (by omega) (Nat.le_of_ble_eq_true rfl) rfl ?_
        refine z_goto (t := 49) dX9_drown_134 (by rfl) ?_
        exact ih (d + 1) _ _ _ (by omega) (by omega) hC9 ⟨fun q a b => (hE9.1 q a b).trans ((zup_row a).trans (hE.1 q a b)), fun j a b c => (hE9.2 j a b c).trans ((if_neg (fun x => b x.2)).trans (hE.2 j a b c))⟩ hS9
      · obtain ⟨s1, s2, s3, s4, s5, s6⟩ := hS
        exact ⟨s1, rfl, s3, s4, by show 0 ≤ zdN _ ∧ zdN _ ≤ 99; unfold zdN; split <;> omega, s6⟩
set_option maxRecDepth 4000 in
theorem X9_drown_ct {l : Launch} {Γ : zC} {h : zM} {Q : Option zV → zC → zM → Prop} {days risk seed : Int} {N : Nat} {S0 : Int × Nat × (Nat → Int × Int × Int)} (hΓ : zBase Γ) {φ : Int → Int} {ν : Int → Int → Int} (hν : ∀ x m, 0 < m → 0 ≤ ν x m ∧ ν x m < m) (hdr : ∀ {h : zM} {x m : Int} {Q : Option zV → zC → zM → Prop}, h 89 47 = x → (0 < m ∧ m ≤ 100) → Q (some (zI (ν (φ x) m))) Γ (zup h 89 47 (φ x)) → zCT l mX9_draw 0 0 0 Γ [zR 89, zI m] h Q) (hN : N ≤ 6) (hn : h 89 22 = (N : Int)) (hk0 : 0 ≤ (S0.2.1 : Int) ∧ (S0.2.1 : Int) ≤ 20) (hS : ∀ x, zDr (zup (zup h 89 0 0) 89 47 x) (x, S0)) (hQ0 : ¬ ((N : Int) ≠ 0 ∧ (1 ≤ days ∧ days ≤ 99) ∧ (0 ≤ risk ∧ risk ≤ 100)) → Q (some (zI (-1))) Γ (zup h 89 0 0)) (hQ1 : ∀ h9, ((N : Int) ≠ 0 ∧ (1 ≤ days ∧ days ≤ 99) ∧ (0 ≤ risk ∧ risk ≤ 100)) → zDr h9 (zdDs φ ν N risk days.toNat (seed, S0)) → ((∀ q, q ≠ 89 → ¬ (99 ≤ q ∧ q ≤ 101) → h9 q = h q) ∧ ∀ j, j ≠ 28 → j ≠ 29 → j ≠ 47 → j ≠ 0 → h9 89 j = h 89 j) → Q (some (zI (((zdDs φ ν N risk days.toNat (seed, S0)).2.2.1 : Int) - (S0.2.1 : Int)))) Γ h9) : zCT l mX9_drown 1 0 0 Γ [zR 89, zI days, zI risk, zL seed] h Q := by
  refine zCT_of (by decide) (Nat.le_of_ble_eq_true rfl) (ls := [some (zR 89), some (zI days), some (zI risk), some (zL seed), none, none, none, none]) rfl ?_
  refine z_al0 dX9_drown_0 (by first | decide | omega | assumption) ?_
  refine z_iconst dX9_drown_1 (by decide) ?_
  refine z_putI zfX9_128 dX9_drown_2 (zkB hΓ rfl) rfl rfl ?_
  refine z_al0 dX9_drown_5 (by first | decide | omega | assumption) ?_
  refine z_getI zfX9_276 dX9_drown_6 (zkB hΓ rfl) rfl ?_
  try simp only [zup_ap, zup_row, ne_eq, not_false_eq_true, zres, Int.toNat_natCast, reduceIte, Nat.reduceEqDiff, Nat.reduceAdd, and_self, and_true, true_and, and_false, false_and]
  rw [hn]
  try simp only [zup_ap, zup_row, ne_eq, not_false_eq_true, zres, Int.toNat_natCast, reduceIte, Nat.reduceEqDiff, Nat.reduceAdd, and_self, and_true, true_and, and_false, false_and]
  refine z_if_eq (t := 36) dX9_drown_9 (by rfl) (fun ht9 => ?_) (fun hf9 => ?_)
  · refine z_iconst dX9_drown_36 (by decide) ?_
    refine z_iret dX9_drown_37 rfl (Nat.le_refl _) (Nat.le_refl _) (zext_rf _) (fun hrr => ?_)
    exact hQ0 (by omega)
  · refine z_il1 dX9_drown_12 ?_
    refine z_i2l dX9_drown_13 ?_
    refine z_lconst (x := 1) dX9_drown_14 (by rfl) (by decide) ?_
    refine z_ldc2 (x := 99) dX9_drown_15 zqX9_294 (by decide) ?_
    refine zcs3 dX9_drown_18 zkX9_261 ztX9_isIn (Nat.le_of_ble_eq_true rfl) (by decide) (by first | decide | omega) ⟨Nat.le_refl _, Nat.le_refl _⟩ (X9_isIn_ct (fun hg2 _ => ?_) (fun hg2 _ => ?_))
    · try simp only [zup_ap, zup_row, ne_eq, not_false_eq_true, zres, Int.toNat_natCast, reduceIte, Nat.reduceEqDiff, Nat.reduceAdd, and_self, and_true, true_and, and_false, false_and]
      refine z_if_eq (t := 36) dX9_drown_21 (by rfl) (fun _ => ?_) (fun hx => absurd hx (by decide))
      refine z_iconst dX9_drown_36 (by decide) ?_
      refine z_iret dX9_drown_37 rfl (Nat.le_refl _) (Nat.le_refl _) (zext_rf _) (fun hrr => ?_)
      exact hQ0 (by omega)
    · try simp only [zup_ap, zup_row, ne_eq, not_false_eq_true, zres, Int.toNat_natCast, reduceIte, Nat.reduceEqDiff, Nat.reduceAdd, and_self, and_true, true_and, and_false, false_and]
      refine z_if_eq (t := 36) dX9_drown_21 (by rfl) (fun hx => absurd hx (by decide)) (fun _ => ?_)
      refine z_il2 dX9_drown_24 ?_
      refine z_i2l dX9_drown_25 ?_
      refine z_lconst (x := 0) dX9_drown_26 (by rfl) (by decide) ?_
      refine z_ldc2 (x := 100) dX9_drown_27 zqX9_424 (by decide) ?_
      refine zcs3 dX9_drown_30 zkX9_261 ztX9_isIn (Nat.le_of_ble_eq_true rfl) (by decide) (by first | decide | omega) ⟨Nat.le_refl _, Nat.le_refl _⟩ (X9_isIn_ct (fun hg2 _ => ?_) (fun hg2 _ => ?_))
      · try simp only [zup_ap, zup_row, ne_eq, not_false_eq_true, zres, Int.toNat_natCast, reduceIte, Nat.reduceEqDiff, Nat.reduceAdd, and_self, and_true, true_and, and_false, false_and]
        refine z_if_ne (t := 38) dX9_drown_33 (by rfl) (fun hx => absurd hx (by decide)) (fun _ => ?_)
        refine z_iconst dX9_drown_36 (by decide) ?_
        refine z_iret dX9_drown_37 rfl (Nat.le_refl _) (Nat.le_refl _) (zext_rf _) (fun hrr => ?_)
        exact hQ0 (by omega)
      · try simp only [zup_ap, zup_row, ne_eq, not_false_eq_true, zres, Int.toNat_natCast, reduceIte, Nat.reduceEqDiff, Nat.reduceAdd, and_self, and_true, true_and, and_false, false_and]
        refine z_if_ne (t := 38) dX9_drown_33 (by rfl) (fun _ => ?_) (fun hx => absurd hx (by decide))
        refine z_al0 dX9_drown_38 (by first | decide | omega | assumption) ?_
        refine z_ll3 dX9_drown_39 ?_
        refine z_putJ zfX9_416 dX9_drown_40 (zkB hΓ rfl) rfl rfl ?_
        refine z_iconst dX9_drown_43 (by decide) ?_
        refine z_is5 dX9_drown_44 (Nat.le_of_ble_eq_true rfl) rfl ?_
        refine z_iconst dX9_drown_46 (by decide) ?_
        refine z_is6 dX9_drown_47 (Nat.le_of_ble_eq_true rfl) rfl ?_
        obtain ⟨days, rfl⟩ := Int.eq_ofNat_of_zero_le (show 0 ≤ days by omega)
        rw [Int.toNat_natCast] at hQ1
        exact X9_dr_d (k0 := (S0.2.1 : Int)) (S0 := (seed, S0)) hΓ hν hdr hN (by omega) (by exact hn) hk0 (fun h9 hE9 hS9 => hQ1 h9 (by omega) hS9 ⟨fun q a b => (hE9.1 q a b).trans ((zup_row a).trans (zup_row a)), fun j a b c d => (hE9.2 j a b c).trans ((if_neg (fun x => c x.2)).trans (if_neg (fun x => d x.2)))⟩) _ 0 _ _ _ (Nat.lt_succ_self _) (by omega) (by show (0 : Int) = ((S0.2.1 : Nat) : Int) - ((S0.2.1 : Nat) : Int); omega) (zf9_rf _) (hS seed)
def zImP (a b : Nat) (h h9 : zM) : Prop := (h9 a 0 = h b 0 ∧ h9 a 1 = h b 1 ∧ h9 a 2 = h b 2) ∧ (∀ j, j < 20 → h9 (a + 1) j = h (b + 1) j ∧ h9 (a + 2) j = h (b + 2) j ∧ h9 (a + 3) j = h (b + 3) j) ∧ (∀ j, j < 40 → h9 (a + 4) j = h (b + 4) j ∧ h9 (a + 5) j = h (b + 5) j ∧ h9 (a + 6) j = h (b + 6) j)
set_option maxRecDepth 4000 in
theorem X3_copyk_ct {l : Launch} {Γ : zC} {h : zM} {Q : Option zV → zC → zM → Prop} (hΓ : zBase Γ) (hQ : ∀ h9, (h9 34 0 = h 25 0 ∧ h9 34 1 = h 25 1 ∧ h9 34 2 = h 25 2) → (∀ j, j < 20 → h9 35 j = h 26 j ∧ h9 36 j = h 27 j ∧ h9 37 j = h 28 j) → (∀ j, j < 40 → h9 38 j = h 29 j ∧ h9 39 j = h 30 j ∧ h9 40 j = h 31 j) → (∀ q, q ≠ 34 → ¬ (35 ≤ q ∧ q ≤ 40) → h9 q = h q) → (∀ j, 3 ≤ j → h9 34 j = h 34 j) → Q none Γ h9) : zCT l mX3_copy 1 0 0 Γ [zR 34, zR 25] h Q := by
  refine zCT_of (by decide) (Nat.le_of_ble_eq_true rfl) (ls := [some (zR 34), some (zR 25)]) rfl ?_
  refine z_al0 dX3_copy_0 (by first | decide | omega | assumption) ?_
  refine z_al1 dX3_copy_1 (by first | decide | omega | assumption) ?_
  refine z_getI zfX3_30 dX3_copy_2 (zkB hΓ rfl) rfl ?_
  try simp only [zup_ap, zup_row, ne_eq, not_false_eq_true, zres, Int.toNat_natCast, reduceIte, Nat.reduceEqDiff, Nat.reduceAdd, and_self, and_true, true_and, and_false, false_and]
  refine z_putI zfX3_30 dX3_copy_5 (zkB hΓ rfl) rfl rfl ?_
  refine z_al0 dX3_copy_8 (by first | decide | omega | assumption) ?_
  refine z_al1 dX3_copy_9 (by first | decide | omega | assumption) ?_
  refine z_getI zfX3_34 dX3_copy_10 (zkB hΓ rfl) rfl ?_
  try simp only [zup_ap, zup_row, ne_eq, not_false_eq_true, zres, Int.toNat_natCast, reduceIte, Nat.reduceEqDiff, Nat.reduceAdd, and_self, and_true, true_and, and_false, false_and]
  refine z_putI zfX3_34 dX3_copy_13 (zkB hΓ rfl) rfl rfl ?_
  refine z_al0 dX3_copy_16 (by first | decide | omega | assumption) ?_
  refine z_al1 dX3_copy_17 (by first | decide | omega | assumption) ?_
  refine z_getI zfX3_37 dX3_copy_18 (zkB hΓ rfl) rfl ?_
  try simp only [zup_ap, zup_row, ne_eq, not_false_eq_true, zres, Int.toNat_natCast, reduceIte, Nat.reduceEqDiff, Nat.reduceAdd, and_self, and_true, true_and, and_false, false_and]
  refine z_putI zfX3_37 dX3_copy_21 (zkB hΓ rfl) rfl rfl ?_
  refine z_al1 dX3_copy_24 (by first | decide | omega | assumption) ?_
  refine z_getR zfX3_9 dX3_copy_25 (zkB hΓ rfl) rfl (zsB hΓ rfl) (zvB hΓ (by decide)) ?_
  refine z_iconst dX3_copy_28 (by decide) ?_
  refine z_al0 dX3_copy_29 (by first | decide | omega | assumption) ?_
  refine z_getR zfX3_9 dX3_copy_30 (zkB hΓ rfl) rfl (zsB hΓ rfl) (zvB hΓ (by decide)) ?_
  refine z_iconst dX3_copy_33 (by decide) ?_
  refine z_bipush (x := 20) dX3_copy_34 (by rfl) (by decide) ?_
  refine z_copy dX3_copy_36 zcpyX3_40 (zkB hΓ rfl) (zkB hΓ rfl) (by decide) (by decide) (by decide) (Nat.le_of_ble_eq_true rfl) (Nat.le_of_ble_eq_true rfl) (by decide) ?_
  refine z_al1 dX3_copy_39 (by first | decide | omega | assumption) ?_
  refine z_getR zfX3_15 dX3_copy_40 (zkB hΓ rfl) rfl (zsB hΓ rfl) (zvB hΓ (by decide)) ?_
  refine z_iconst dX3_copy_43 (by decide) ?_
  refine z_al0 dX3_copy_44 (by first | decide | omega | assumption) ?_
  refine z_getR zfX3_15 dX3_copy_45 (zkB hΓ rfl) rfl (zsB hΓ rfl) (zvB hΓ (by decide)) ?_
  refine z_iconst dX3_copy_48 (by decide) ?_
  refine z_bipush (x := 20) dX3_copy_49 (by rfl) (by decide) ?_
  refine z_copy dX3_copy_51 zcpyX3_40 (zkB hΓ rfl) (zkB hΓ rfl) (by decide) (by decide) (by decide) (Nat.le_of_ble_eq_true rfl) (Nat.le_of_ble_eq_true rfl) (by decide) ?_
  refine z_al1 dX3_copy_54 (by first | decide | omega | assumption) ?_
  refine z_getR zfX3_18 dX3_copy_55 (zkB hΓ rfl) rfl (zsB hΓ rfl) (zvB hΓ (by decide)) ?_
  refine z_iconst dX3_copy_58 (by decide) ?_
  refine z_al0 dX3_copy_59 (by first | decide | omega | assumption) ?_
  refine z_getR zfX3_18 dX3_copy_60 (zkB hΓ rfl) rfl (zsB hΓ rfl) (zvB hΓ (by decide)) ?_
  refine z_iconst dX3_copy_63 (by decide) ?_
  refine z_bipush (x := 20) dX3_copy_64 (by rfl) (by decide) ?_
  refine z_copy dX3_copy_66 zcpyX3_40 (zkB hΓ rfl) (zkB hΓ rfl) (by decide) (by decide) (by decide) (Nat.le_of_ble_eq_true rfl) (Nat.le_of_ble_eq_true rfl) (by decide) ?_
  refine z_al1 dX3_copy_69 (by first | decide | omega | assumption) ?_
  refine z_getR zfX3_21 dX3_copy_70 (zkB hΓ rfl) rfl (zsB hΓ rfl) (zvB hΓ (by decide)) ?_
  refine z_iconst dX3_copy_73 (by decide) ?_
  refine z_al0 dX3_copy_74 (by first | decide | omega | assumption) ?_
  refine z_getR zfX3_21 dX3_copy_75 (zkB hΓ rfl) rfl (zsB hΓ rfl) (zvB hΓ (by decide)) ?_
  refine z_iconst dX3_copy_78 (by decide) ?_
  refine z_bipush (x := 40) dX3_copy_79 (by rfl) (by decide) ?_
  refine z_copy dX3_copy_81 zcpyX3_40 (zkB hΓ rfl) (zkB hΓ rfl) (by decide) (by decide) (by decide) (Nat.le_of_ble_eq_true rfl) (Nat.le_of_ble_eq_true rfl) (by decide) ?_
  refine z_al1 dX3_copy_84 (by first | decide | omega | assumption) ?_
  refine z_getR zfX3_24 dX3_copy_85 (zkB hΓ rfl) rfl (zsB hΓ rfl) (zvB hΓ (by decide)) ?_
  refine z_iconst dX3_copy_88 (by decide) ?_
  refine z_al0 dX3_copy_89 (by first | decide | omega | assumption) ?_
  refine z_getR zfX3_24 dX3_copy_90 (zkB hΓ rfl) rfl (zsB hΓ rfl) (zvB hΓ (by decide)) ?_
  refine z_iconst dX3_copy_93 (by decide) ?_
  refine z_bipush (x := 40) dX3_copy_94 (by rfl) (by decide) ?_
  refine z_copy dX3_copy_96 zcpyX3_40 (zkB hΓ rfl) (zkB hΓ rfl) (by decide) (by decide) (by decide) (Nat.le_of_ble_eq_true rfl) (Nat.le_of_ble_eq_true rfl) (by decide) ?_
  refine z_al1 dX3_copy_99 (by first | decide | omega | assumption) ?_
  refine z_getR zfX3_27 dX3_copy_100 (zkB hΓ rfl) rfl (zsB hΓ rfl) (zvB hΓ (by decide)) ?_
  refine z_iconst dX3_copy_103 (by decide) ?_
  refine z_al0 dX3_copy_104 (by first | decide | omega | assumption) ?_
  refine z_getR zfX3_27 dX3_copy_105 (zkB hΓ rfl) rfl (zsB hΓ rfl) (zvB hΓ (by decide)) ?_
  refine z_iconst dX3_copy_108 (by decide) ?_
  refine z_bipush (x := 40) dX3_copy_109 (by rfl) (by decide) ?_
  refine z_copy dX3_copy_111 zcpyX3_40 (zkB hΓ rfl) (zkB hΓ rfl) (by decide) (by decide) (by decide) (Nat.le_of_ble_eq_true rfl) (Nat.le_of_ble_eq_true rfl) (by decide) ?_
  refine z_ret dX3_copy_114 rfl (Nat.le_refl _) (Nat.le_refl _) (zext_rf _) ?_
  refine hQ _ ⟨rfl, rfl, rfl⟩ (fun j hj => ?_) (fun j hj => ?_) (fun q q1 q2 => ?_) (fun j j1 => ?_)
  · simp [zcpy, zup, hj]
  · simp [zcpy, zup, hj]
  · have e : ∀ n, 35 ≤ n → n ≤ 40 → q ≠ n := fun n a b c => by subst c; omega
    rw [zcpy_row (e _ (by decide) (by decide)), zcpy_row (e _ (by decide) (by decide)), zcpy_row (e _ (by decide) (by decide)), zcpy_row (e _ (by decide) (by decide)), zcpy_row (e _ (by decide) (by decide)), zcpy_row (e _ (by decide) (by decide)), zup_row q1, zup_row q1, zup_row q1]
  · rw [zcpy_row (by decide), zcpy_row (by decide), zcpy_row (by decide), zcpy_row (by decide), zcpy_row (by decide), zcpy_row (by decide), zup_ap, if_neg (fun x => (by have := x.2; omega)), zup_ap, if_neg (fun x => (by have := x.2; omega)), zup_ap, if_neg (fun x => (by have := x.2; omega))]

set_option maxRecDepth 4000 in
theorem X3_copyb_ct {l : Launch} {Γ : zC} {h : zM} {Q : Option zV → zC → zM → Prop} (hΓ : zBase Γ) (hQ : ∀ h9, (h9 25 0 = h 34 0 ∧ h9 25 1 = h 34 1 ∧ h9 25 2 = h 34 2) → (∀ j, j < 20 → h9 26 j = h 35 j ∧ h9 27 j = h 36 j ∧ h9 28 j = h 37 j) → (∀ j, j < 40 → h9 29 j = h 38 j ∧ h9 30 j = h 39 j ∧ h9 31 j = h 40 j) → (∀ q, q ≠ 25 → ¬ (26 ≤ q ∧ q ≤ 31) → h9 q = h q) → (∀ j, 3 ≤ j → h9 25 j = h 25 j) → Q none Γ h9) : zCT l mX3_copy 1 0 0 Γ [zR 25, zR 34] h Q := by
  refine zCT_of (by decide) (Nat.le_of_ble_eq_true rfl) (ls := [some (zR 25), some (zR 34)]) rfl ?_
  refine z_al0 dX3_copy_0 (by first | decide | omega | assumption) ?_
  refine z_al1 dX3_copy_1 (by first | decide | omega | assumption) ?_
  refine z_getI zfX3_30 dX3_copy_2 (zkB hΓ rfl) rfl ?_
  try simp only [zup_ap, zup_row, ne_eq, not_false_eq_true, zres, Int.toNat_natCast, reduceIte, Nat.reduceEqDiff, Nat.reduceAdd, and_self, and_true, true_and, and_false, false_and]
  refine z_putI zfX3_30 dX3_copy_5 (zkB hΓ rfl) rfl rfl ?_
  refine z_al0 dX3_copy_8 (by first | decide | omega | assumption) ?_
  refine z_al1 dX3_copy_9 (by first | decide | omega | assumption) ?_
  refine z_getI zfX3_34 dX3_copy_10 (zkB hΓ rfl) rfl ?_
  try simp only [zup_ap, zup_row, ne_eq, not_false_eq_true, zres, Int.toNat_natCast, reduceIte, Nat.reduceEqDiff, Nat.reduceAdd, and_self, and_true, true_and, and_false, false_and]
  refine z_putI zfX3_34 dX3_copy_13 (zkB hΓ rfl) rfl rfl ?_
  refine z_al0 dX3_copy_16 (by first | decide | omega | assumption) ?_
  refine z_al1 dX3_copy_17 (by first | decide | omega | assumption) ?_
  refine z_getI zfX3_37 dX3_copy_18 (zkB hΓ rfl) rfl ?_
  try simp only [zup_ap, zup_row, ne_eq, not_false_eq_true, zres, Int.toNat_natCast, reduceIte, Nat.reduceEqDiff, Nat.reduceAdd, and_self, and_true, true_and, and_false, false_and]
  refine z_putI zfX3_37 dX3_copy_21 (zkB hΓ rfl) rfl rfl ?_
  refine z_al1 dX3_copy_24 (by first | decide | omega | assumption) ?_
  refine z_getR zfX3_9 dX3_copy_25 (zkB hΓ rfl) rfl (zsB hΓ rfl) (zvB hΓ (by decide)) ?_
  refine z_iconst dX3_copy_28 (by decide) ?_
  refine z_al0 dX3_copy_29 (by first | decide | omega | assumption) ?_
  refine z_getR zfX3_9 dX3_copy_30 (zkB hΓ rfl) rfl (zsB hΓ rfl) (zvB hΓ (by decide)) ?_
  refine z_iconst dX3_copy_33 (by decide) ?_
  refine z_bipush (x := 20) dX3_copy_34 (by rfl) (by decide) ?_
  refine z_copy dX3_copy_36 zcpyX3_40 (zkB hΓ rfl) (zkB hΓ rfl) (by decide) (by decide) (by decide) (Nat.le_of_ble_eq_true rfl) (Nat.le_of_ble_eq_true rfl) (by decide) ?_
  refine z_al1 dX3_copy_39 (by first | decide | omega | assumption) ?_
  refine z_getR zfX3_15 dX3_copy_40 (zkB hΓ rfl) rfl (zsB hΓ rfl) (zvB hΓ (by decide)) ?_
  refine z_iconst dX3_copy_43 (by decide) ?_
  refine z_al0 dX3_copy_44 (by first | decide | omega | assumption) ?_
  refine z_getR zfX3_15 dX3_copy_45 (zkB hΓ rfl) rfl (zsB hΓ rfl) (zvB hΓ (by decide)) ?_
  refine z_iconst dX3_copy_48 (by decide) ?_
  refine z_bipush (x := 20) dX3_copy_49 (by rfl) (by decide) ?_
  refine z_copy dX3_copy_51 zcpyX3_40 (zkB hΓ rfl) (zkB hΓ rfl) (by decide) (by decide) (by decide) (Nat.le_of_ble_eq_true rfl) (Nat.le_of_ble_eq_true rfl) (by decide) ?_
  refine z_al1 dX3_copy_54 (by first | decide | omega | assumption) ?_
  refine z_getR zfX3_18 dX3_copy_55 (zkB hΓ rfl) rfl (zsB hΓ rfl) (zvB hΓ (by decide)) ?_
  refine z_iconst dX3_copy_58 (by decide) ?_
  refine z_al0 dX3_copy_59 (by first | decide | omega | assumption) ?_
  refine z_getR zfX3_18 dX3_copy_60 (zkB hΓ rfl) rfl (zsB hΓ rfl) (zvB hΓ (by decide)) ?_
  refine z_iconst dX3_copy_63 (by decide) ?_
  refine z_bipush (x := 20) dX3_copy_64 (by rfl) (by decide) ?_
  refine z_copy dX3_copy_66 zcpyX3_40 (zkB hΓ rfl) (zkB hΓ rfl) (by decide) (by decide) (by decide) (Nat.le_of_ble_eq_true rfl) (Nat.le_of_ble_eq_true rfl) (by decide) ?_
  refine z_al1 dX3_copy_69 (by first | decide | omega | assumption) ?_
  refine z_getR zfX3_21 dX3_copy_70 (zkB hΓ rfl) rfl (zsB hΓ rfl) (zvB hΓ (by decide)) ?_
  refine z_iconst dX3_copy_73 (by decide) ?_
  refine z_al0 dX3_copy_74 (by first | decide | omega | assumption) ?_
  refine z_getR zfX3_21 dX3_copy_75 (zkB hΓ rfl) rfl (zsB hΓ rfl) (zvB hΓ (by decide)) ?_
  refine z_iconst dX3_copy_78 (by decide) ?_
  refine z_bipush (x := 40) dX3_copy_79 (by rfl) (by decide) ?_
  refine z_copy dX3_copy_81 zcpyX3_40 (zkB hΓ rfl) (zkB hΓ rfl) (by decide) (by decide) (by decide) (Nat.le_of_ble_eq_true rfl) (Nat.le_of_ble_eq_true rfl) (by decide) ?_
  refine z_al1 dX3_copy_84 (by first | decide | omega | assumption) ?_
  refine z_getR zfX3_24 dX3_copy_85 (zkB hΓ rfl) rfl (zsB hΓ rfl) (zvB hΓ (by decide)) ?_
  refine z_iconst dX3_copy_88 (by decide) ?_
  refine z_al0 dX3_copy_89 (by first | decide | omega | assumption) ?_
  refine z_getR zfX3_24 dX3_copy_90 (zkB hΓ rfl) rfl (zsB hΓ rfl) (zvB hΓ (by decide)) ?_
  refine z_iconst dX3_copy_93 (by decide) ?_
  refine z_bipush (x := 40) dX3_copy_94 (by rfl) (by decide) ?_
  refine z_copy dX3_copy_96 zcpyX3_40 (zkB hΓ rfl) (zkB hΓ rfl) (by decide) (by decide) (by decide) (Nat.le_of_ble_eq_true rfl) (Nat.le_of_ble_eq_true rfl) (by decide) ?_
  refine z_al1 dX3_copy_99 (by first | decide | omega | assumption) ?_
  refine z_getR zfX3_27 dX3_copy_100 (zkB hΓ rfl) rfl (zsB hΓ rfl) (zvB hΓ (by decide)) ?_
  refine z_iconst dX3_copy_103 (by decide) ?_
  refine z_al0 dX3_copy_104 (by first | decide | omega | assumption) ?_
  refine z_getR zfX3_27 dX3_copy_105 (zkB hΓ rfl) rfl (zsB hΓ rfl) (zvB hΓ (by decide)) ?_
  refine z_iconst dX3_copy_108 (by decide) ?_
  refine z_bipush (x := 40) dX3_copy_109 (by rfl) (by decide) ?_
  refine z_copy dX3_copy_111 zcpyX3_40 (zkB hΓ rfl) (zkB hΓ rfl) (by decide) (by decide) (by decide) (Nat.le_of_ble_eq_true rfl) (Nat.le_of_ble_eq_true rfl) (by decide) ?_
  refine z_ret dX3_copy_114 rfl (Nat.le_refl _) (Nat.le_refl _) (zext_rf _) ?_
  refine hQ _ ⟨rfl, rfl, rfl⟩ (fun j hj => ?_) (fun j hj => ?_) (fun q q1 q2 => ?_) (fun j j1 => ?_)
  · simp [zcpy, zup, hj]
  · simp [zcpy, zup, hj]
  · have e : ∀ n, 26 ≤ n → n ≤ 31 → q ≠ n := fun n a b c => by subst c; omega
    rw [zcpy_row (e _ (by decide) (by decide)), zcpy_row (e _ (by decide) (by decide)), zcpy_row (e _ (by decide) (by decide)), zcpy_row (e _ (by decide) (by decide)), zcpy_row (e _ (by decide) (by decide)), zcpy_row (e _ (by decide) (by decide)), zup_row q1, zup_row q1, zup_row q1]
  · rw [zcpy_row (by decide), zcpy_row (by decide), zcpy_row (by decide), zcpy_row (by decide), zcpy_row (by decide), zcpy_row (by decide), zup_ap, if_neg (fun x => (by have := x.2; omega)), zup_ap, if_neg (fun x => (by have := x.2; omega)), zup_ap, if_neg (fun x => (by have := x.2; omega))]
set_option maxRecDepth 4000 in
theorem X8_image_ct {l : Launch} {Γ : zC} {h : zM} {Q : Option zV → zC → zM → Prop} {N : Int} (hΓ : zBase Γ) (hn : h 16 0 = N) (hQ0 : ¬ N ≠ 0 → Q (some (zI (-1))) Γ h) (hQ1 : ∀ h9, (h9 34 0 = h 25 0 ∧ h9 34 1 = h 25 1 ∧ h9 34 2 = h 25 2) → (∀ j, j < 20 → h9 35 j = h 26 j ∧ h9 36 j = h 27 j ∧ h9 37 j = h 28 j) → (∀ j, j < 40 → h9 38 j = h 29 j ∧ h9 39 j = h 30 j ∧ h9 40 j = h 31 j) → (∀ q, q ≠ 34 → ¬ (35 ≤ q ∧ q ≤ 40) → h9 q = h q) → (∀ j, 3 ≤ j → h9 34 j = h 34 j) → N ≠ 0 → Q (some (zI (h 25 0))) Γ (zup h9 1 10 1)) : zCT l mX8_image 2 0 0 Γ [zR 1] h Q := by
  refine zCT_of (by decide) (Nat.le_of_ble_eq_true rfl) (ls := [some (zR 1)]) rfl ?_
  refine z_al0 dX8_image_0 (by first | decide | omega | assumption) ?_
  refine z_getR zfX8_35 dX8_image_1 (zkB hΓ rfl) rfl (zsB hΓ rfl) (zvB hΓ (by decide)) ?_
  refine z_getR zfX8_132 dX8_image_4 (zkB hΓ rfl) rfl (zsB hΓ rfl) (zvB hΓ (by decide)) ?_
  refine z_getI zfX8_210 dX8_image_7 (zkB hΓ rfl) rfl ?_
  rw [hn]
  try simp only [zup_ap, zup_row, ne_eq, not_false_eq_true, zres, Int.toNat_natCast, reduceIte, Nat.reduceEqDiff, Nat.reduceAdd, and_self, and_true, true_and, and_false, false_and]
  refine z_if_ne (t := 15) dX8_image_10 (by rfl) (fun ht10 => ?_) (fun hf10 => ?_)
  · refine z_al0 dX8_image_15 (by first | decide | omega | assumption) ?_
    refine z_getR zfX8_42 dX8_image_16 (zkB hΓ rfl) rfl (zsB hΓ rfl) (zvB hΓ (by decide)) ?_
    refine z_al0 dX8_image_19 (by first | decide | omega | assumption) ?_
    refine z_getR zfX8_35 dX8_image_20 (zkB hΓ rfl) rfl (zsB hΓ rfl) (zvB hΓ (by decide)) ?_
    refine z_getR zfX8_190 dX8_image_23 (zkB hΓ rfl) rfl (zsB hΓ rfl) (zvB hΓ (by decide)) ?_
    refine zcv1 dX8_image_26 zkX8_299 ziX3_copy zsX3_copy (zkB hΓ rfl) (by decide) rfl (Nat.le_of_ble_eq_true rfl) (by decide) (by first | decide | omega) ⟨Nat.le_refl _, Nat.le_refl _⟩ (X3_copyk_ct hΓ (fun h9 a1 a2 a3 a4 a5 _ => ?_))
    try simp only [zup_ap, zup_row, ne_eq, not_false_eq_true, zres, Int.toNat_natCast, reduceIte, Nat.reduceEqDiff, Nat.reduceAdd, and_self, and_true, true_and, and_false, false_and]
    refine z_al0 dX8_image_29 (by first | decide | omega | assumption) ?_
    refine z_iconst dX8_image_30 (by decide) ?_
    refine z_putZ zfX8_303 dX8_image_31 (zkB hΓ rfl) rfl rfl (by first | exact Or.inl rfl | exact Or.inr rfl | omega) ?_
    refine z_al0 dX8_image_34 (by first | decide | omega | assumption) ?_
    refine z_getR zfX8_42 dX8_image_35 (zkB hΓ rfl) rfl (zsB hΓ rfl) (zvB hΓ (by decide)) ?_
    refine z_getI zfX8_193 dX8_image_38 (zkB hΓ rfl) rfl ?_
    try simp only [zup_ap, zup_row, ne_eq, not_false_eq_true, zres, Int.toNat_natCast, reduceIte, Nat.reduceEqDiff, Nat.reduceAdd, and_self, and_true, true_and, and_false, false_and]
    refine z_iret dX8_image_41 rfl (Nat.le_refl _) (Nat.le_refl _) (zext_rf _) (fun hrr => ?_)
    first | exact hQ0 (by omega) | (have e9 := hQ1 h9 a1 a2 a3 a4 a5 (by omega); rw [← a1.1] at e9; exact e9)
  · refine z_iconst dX8_image_13 (by decide) ?_
    refine z_iret dX8_image_14 rfl (Nat.le_refl _) (Nat.le_refl _) (zext_rf _) (fun hrr => ?_)
    first | exact hQ0 (by omega) | (have e9 := hQ1 h9 a1 a2 a3 a4 a5 (by omega); rw [← a1.1] at e9; exact e9)
set_option maxRecDepth 4000 in
theorem X8_back_ct {l : Launch} {Γ : zC} {h : zM} {Q : Option zV → zC → zM → Prop} {N : Int} (hΓ : zBase Γ) (hn : h 1 10 = N) (hQ0 : ¬ N ≠ 0 → Q (some (zI (-1))) Γ h) (hQ1 : ∀ h9, (h9 25 0 = h 34 0 ∧ h9 25 1 = h 34 1 ∧ h9 25 2 = h 34 2) → (∀ j, j < 20 → h9 26 j = h 35 j ∧ h9 27 j = h 36 j ∧ h9 28 j = h 37 j) → (∀ j, j < 40 → h9 29 j = h 38 j ∧ h9 30 j = h 39 j ∧ h9 31 j = h 40 j) → (∀ q, q ≠ 25 → ¬ (26 ≤ q ∧ q ≤ 31) → h9 q = h q) → (∀ j, 3 ≤ j → h9 25 j = h 25 j) → N ≠ 0 → Q (some (zI (h 34 0))) Γ h9) : zCT l mX8_back 2 0 0 Γ [zR 1] h Q := by
  refine zCT_of (by decide) (Nat.le_of_ble_eq_true rfl) (ls := [some (zR 1)]) rfl ?_
  refine z_al0 dX8_back_0 (by first | decide | omega | assumption) ?_
  refine z_getZ zfX8_303 dX8_back_1 (zkB hΓ rfl) rfl ?_
  rw [hn]
  try simp only [zup_ap, zup_row, ne_eq, not_false_eq_true, zres, Int.toNat_natCast, reduceIte, Nat.reduceEqDiff, Nat.reduceAdd, and_self, and_true, true_and, and_false, false_and]
  refine z_if_ne (t := 9) dX8_back_4 (by rfl) (fun ht4 => ?_) (fun hf4 => ?_)
  · refine z_al0 dX8_back_9 (by first | decide | omega | assumption) ?_
    refine z_getR zfX8_35 dX8_back_10 (zkB hΓ rfl) rfl (zsB hΓ rfl) (zvB hΓ (by decide)) ?_
    refine z_getR zfX8_190 dX8_back_13 (zkB hΓ rfl) rfl (zsB hΓ rfl) (zvB hΓ (by decide)) ?_
    refine z_al0 dX8_back_16 (by first | decide | omega | assumption) ?_
    refine z_getR zfX8_42 dX8_back_17 (zkB hΓ rfl) rfl (zsB hΓ rfl) (zvB hΓ (by decide)) ?_
    refine zcv1 dX8_back_20 zkX8_299 ziX3_copy zsX3_copy (zkB hΓ rfl) (by decide) rfl (Nat.le_of_ble_eq_true rfl) (by decide) (by first | decide | omega) ⟨Nat.le_refl _, Nat.le_refl _⟩ (X3_copyb_ct hΓ (fun h9 a1 a2 a3 a4 a5 _ => ?_))
    try simp only [zup_ap, zup_row, ne_eq, not_false_eq_true, zres, Int.toNat_natCast, reduceIte, Nat.reduceEqDiff, Nat.reduceAdd, and_self, and_true, true_and, and_false, false_and]
    refine z_al0 dX8_back_23 (by first | decide | omega | assumption) ?_
    refine z_getR zfX8_42 dX8_back_24 (zkB hΓ rfl) rfl (zsB hΓ rfl) (zvB hΓ (by decide)) ?_
    refine z_getI zfX8_193 dX8_back_27 (zkB hΓ rfl) rfl ?_
    try simp only [zup_ap, zup_row, ne_eq, not_false_eq_true, zres, Int.toNat_natCast, reduceIte, Nat.reduceEqDiff, Nat.reduceAdd, and_self, and_true, true_and, and_false, false_and]
    refine z_iret dX8_back_30 rfl (Nat.le_refl _) (Nat.le_refl _) (zext_rf _) (fun hrr => ?_)
    first | exact hQ0 (by omega) | (have e9 := hQ1 h9 a1 a2 a3 a4 a5 (by omega); rw [← a4 34 (by decide) (by decide)] at e9; exact e9)
  · refine z_iconst dX8_back_7 (by decide) ?_
    refine z_iret dX8_back_8 rfl (Nat.le_refl _) (Nat.le_refl _) (zext_rf _) (fun hrr => ?_)
    first | exact hQ0 (by omega) | (have e9 := hQ1 h9 a1 a2 a3 a4 a5 (by omega); rw [← a4 34 (by decide) (by decide)] at e9; exact e9)
set_option maxRecDepth 4000 in
theorem X9_image_16 {l : Launch} {Γ : zC} {h1 : zM} {Q : Option zV → zC → zM → Prop} (hΓ : zBase Γ) (hK : ∀ (y : Int) (h : zM), (∀ q, q ≠ 120 → h q = h1 q) → (∀ j, (j < 0 ∨ 0 + 3 * 20 ≤ j) → h 120 j = h1 120 j) → (∀ j, j < 20 → h 120 (0 + 3 * j) = h1 99 j ∧ h 120 (0 + 3 * j + 1) = h1 100 j ∧ h 120 (0 + 3 * j + 2) = h1 101 j) → zG (zFn l mX9_image 0 0 0 Γ Q) 0 0 Γ h 74 [some (zR 89), some (zI y)] []) : ∀ (m : Nat) (k : Nat) (h : zM), 20 - k < m → k ≤ 20 → (∀ q, q ≠ 120 → h q = h1 q) → (∀ j, (j < 0 ∨ 0 + 3 * k ≤ j) → h 120 j = h1 120 j) → (∀ j, j < k → h 120 (0 + 3 * j) = h1 99 j ∧ h 120 (0 + 3 * j + 1) = h1 100 j ∧ h 120 (0 + 3 * j + 2) = h1 101 j) → zG (zFn l mX9_image 0 0 0 Γ Q) 0 0 Γ h 16 [some (zR 89), some (zI (k : Int))] [] := by
  intro m
  induction m with
  | zero => intros; omega
  | succ m ih =>
    intro k h hm hk hE hU hD
    refine z_il1 dX9_image_16 ?_
    refine z_bipush (x := 20) dX9_image_17 (by rfl) (by decide) ?_
    refine z_icmp_ge (t := 74) dX9_image_19 (by rfl) (fun ht19 => ?_) (fun hf19 => ?_)
    · exact hK _ h hE (fun j hj => hU j (by omega)) (fun j hj => hD j (by omega))
    · refine z_al0 dX9_image_22 (by first | decide | omega | assumption) ?_
      refine z_getR zfX9_125 dX9_image_23 (zkB hΓ rfl) rfl (zsB hΓ rfl) (zvB hΓ (by decide)) ?_
      refine z_iconst dX9_image_26 (by decide) ?_
      refine z_il1 dX9_image_27 ?_
      refine z_imul dX9_image_28 (by omega) ?_
      refine z_al0 dX9_image_29 (by first | decide | omega | assumption) ?_
      refine z_getR zfX9_52 dX9_image_30 (zkB hΓ rfl) rfl (zsB hΓ rfl) (zvB hΓ (by decide)) ?_
      refine z_il1 dX9_image_33 ?_
      refine z_iald dX9_image_34 (zkB hΓ rfl) (by omega) (by omega) ?_
      try simp only [Int.toNat_natCast]
      try simp only [zup_ap, zup_row, ne_eq, not_false_eq_true, zres, Int.toNat_natCast, reduceIte, Nat.reduceEqDiff, Nat.reduceAdd, and_self, and_true, true_and, and_false, false_and]
      refine z_iast dX9_image_35 (zkB hΓ rfl) (by omega) (by omega) ?_
      refine z_al0 dX9_image_36 (by first | decide | omega | assumption) ?_
      refine z_getR zfX9_125 dX9_image_37 (zkB hΓ rfl) rfl (zsB hΓ rfl) (zvB hΓ (by decide)) ?_
      refine z_iconst dX9_image_40 (by decide) ?_
      refine z_il1 dX9_image_41 ?_
      refine z_imul dX9_image_42 (by omega) ?_
      refine z_iconst dX9_image_43 (by decide) ?_
      refine z_iadd dX9_image_44 (by omega) ?_
      refine z_al0 dX9_image_45 (by first | decide | omega | assumption) ?_
      refine z_getR zfX9_55 dX9_image_46 (zkB hΓ rfl) rfl (zsB hΓ rfl) (zvB hΓ (by decide)) ?_
      refine z_il1 dX9_image_49 ?_
      refine z_iald dX9_image_50 (zkB hΓ rfl) (by omega) (by omega) ?_
      try simp only [Int.toNat_natCast]
      try simp only [zup_ap, zup_row, ne_eq, not_false_eq_true, zres, Int.toNat_natCast, reduceIte, Nat.reduceEqDiff, Nat.reduceAdd, and_self, and_true, true_and, and_false, false_and]
      refine z_iast dX9_image_51 (zkB hΓ rfl) (by omega) (by omega) ?_
      refine z_al0 dX9_image_52 (by first | decide | omega | assumption) ?_
      refine z_getR zfX9_125 dX9_image_53 (zkB hΓ rfl) rfl (zsB hΓ rfl) (zvB hΓ (by decide)) ?_
      refine z_iconst dX9_image_56 (by decide) ?_
      refine z_il1 dX9_image_57 ?_
      refine z_imul dX9_image_58 (by omega) ?_
      refine z_iconst dX9_image_59 (by decide) ?_
      refine z_iadd dX9_image_60 (by omega) ?_
      refine z_al0 dX9_image_61 (by first | decide | omega | assumption) ?_
      refine z_getR zfX9_58 dX9_image_62 (zkB hΓ rfl) rfl (zsB hΓ rfl) (zvB hΓ (by decide)) ?_
      refine z_il1 dX9_image_65 ?_
      refine z_iald dX9_image_66 (zkB hΓ rfl) (by omega) (by omega) ?_
      try simp only [Int.toNat_natCast]
      try simp only [zup_ap, zup_row, ne_eq, not_false_eq_true, zres, Int.toNat_natCast, reduceIte, Nat.reduceEqDiff, Nat.reduceAdd, and_self, and_true, true_and, and_false, false_and]
      refine z_iast dX9_image_67 (zkB hΓ rfl) (by omega) (by omega) ?_
      refine z_ii1 dX9_image_68 (by omega) (Nat.le_of_ble_eq_true rfl) rfl ?_
      refine z_goto (t := 16) dX9_image_71 (by rfl) ?_
      refine ih (k + 1) _ (by omega) (by omega) (fun a ha => (zup_row ha).trans ((zup_row ha).trans ((zup_row ha).trans (hE a ha)))) (fun j hj => ?_) (fun j hj => ?_)
      · rw [zup_ap, if_neg (fun x => (by have := x.2; omega)), zup_ap, if_neg (fun x => (by have := x.2; omega)), zup_ap, if_neg (fun x => (by have := x.2; omega))]; exact hU j (by omega)
      · by_cases ej : j = k
        · subst ej
          refine ⟨?_, ?_, ?_⟩
          · rw [zup_ap, if_neg (fun x => (by have := x.2; omega)), zup_ap, if_neg (fun x => (by have := x.2; omega)), zup_ap]
            refine (if_pos ⟨rfl, by omega⟩).trans ?_
            rw [hE 99 (by decide)]
          · rw [zup_ap, if_neg (fun x => (by have := x.2; omega)), zup_ap]
            refine (if_pos ⟨rfl, by omega⟩).trans ?_
            try rw [zup_row (by decide)]
            rw [hE 100 (by decide)]
          · rw [zup_ap]
            refine (if_pos ⟨rfl, by omega⟩).trans ?_
            try rw [zup_row (by decide), zup_row (by decide)]
            rw [hE 101 (by decide)]
        · have h9 := hD j (by omega)
          refine ⟨?_, ?_, ?_⟩
          · rw [zup_ap, if_neg (fun x => (by have := x.2; omega)), zup_ap, if_neg (fun x => (by have := x.2; omega)), zup_ap, if_neg (fun x => (by have := x.2; omega))]; exact h9.1
          · rw [zup_ap, if_neg (fun x => (by have := x.2; omega)), zup_ap, if_neg (fun x => (by have := x.2; omega)), zup_ap, if_neg (fun x => (by have := x.2; omega))]; exact h9.2.1
          · rw [zup_ap, if_neg (fun x => (by have := x.2; omega)), zup_ap, if_neg (fun x => (by have := x.2; omega)), zup_ap, if_neg (fun x => (by have := x.2; omega))]; exact h9.2.2
set_option maxRecDepth 4000 in
theorem X9_image_76 {l : Launch} {Γ : zC} {h1 : zM} {Q : Option zV → zC → zM → Prop} (hΓ : zBase Γ) (hK : ∀ (y : Int) (h : zM), (∀ q, q ≠ 120 → h q = h1 q) → (∀ j, (j < 60 ∨ 60 + 3 * 40 ≤ j) → h 120 j = h1 120 j) → (∀ j, j < 40 → h 120 (60 + 3 * j) = h1 113 j ∧ h 120 (60 + 3 * j + 1) = h1 114 j ∧ h 120 (60 + 3 * j + 2) = h1 115 j) → zG (zFn l mX9_image 0 0 0 Γ Q) 0 0 Γ h 143 [some (zR 89), some (zI y)] []) : ∀ (m : Nat) (k : Nat) (h : zM), 40 - k < m → k ≤ 40 → (∀ q, q ≠ 120 → h q = h1 q) → (∀ j, (j < 60 ∨ 60 + 3 * k ≤ j) → h 120 j = h1 120 j) → (∀ j, j < k → h 120 (60 + 3 * j) = h1 113 j ∧ h 120 (60 + 3 * j + 1) = h1 114 j ∧ h 120 (60 + 3 * j + 2) = h1 115 j) → zG (zFn l mX9_image 0 0 0 Γ Q) 0 0 Γ h 76 [some (zR 89), some (zI (k : Int))] [] := by
  intro m
  induction m with
  | zero => intros; omega
  | succ m ih =>
    intro k h hm hk hE hU hD
    refine z_il1 dX9_image_76 ?_
    refine z_bipush (x := 40) dX9_image_77 (by rfl) (by decide) ?_
    refine z_icmp_ge (t := 143) dX9_image_79 (by rfl) (fun ht79 => ?_) (fun hf79 => ?_)
    · exact hK _ h hE (fun j hj => hU j (by omega)) (fun j hj => hD j (by omega))
    · refine z_al0 dX9_image_82 (by first | decide | omega | assumption) ?_
      refine z_getR zfX9_125 dX9_image_83 (zkB hΓ rfl) rfl (zsB hΓ rfl) (zvB hΓ (by decide)) ?_
      refine z_bipush (x := 60) dX9_image_86 (by rfl) (by decide) ?_
      refine z_iconst dX9_image_88 (by decide) ?_
      refine z_il1 dX9_image_89 ?_
      refine z_imul dX9_image_90 (by omega) ?_
      refine z_iadd dX9_image_91 (by omega) ?_
      refine z_al0 dX9_image_92 (by first | decide | omega | assumption) ?_
      refine z_getR zfX9_104 dX9_image_93 (zkB hΓ rfl) rfl (zsB hΓ rfl) (zvB hΓ (by decide)) ?_
      refine z_il1 dX9_image_96 ?_
      refine z_iald dX9_image_97 (zkB hΓ rfl) (by omega) (by omega) ?_
      try simp only [Int.toNat_natCast]
      try simp only [zup_ap, zup_row, ne_eq, not_false_eq_true, zres, Int.toNat_natCast, reduceIte, Nat.reduceEqDiff, Nat.reduceAdd, and_self, and_true, true_and, and_false, false_and]
      refine z_iast dX9_image_98 (zkB hΓ rfl) (by omega) (by omega) ?_
      refine z_al0 dX9_image_99 (by first | decide | omega | assumption) ?_
      refine z_getR zfX9_125 dX9_image_100 (zkB hΓ rfl) rfl (zsB hΓ rfl) (zvB hΓ (by decide)) ?_
      refine z_bipush (x := 60) dX9_image_103 (by rfl) (by decide) ?_
      refine z_iconst dX9_image_105 (by decide) ?_
      refine z_il1 dX9_image_106 ?_
      refine z_imul dX9_image_107 (by omega) ?_
      refine z_iadd dX9_image_108 (by omega) ?_
      refine z_iconst dX9_image_109 (by decide) ?_
      refine z_iadd dX9_image_110 (by omega) ?_
      refine z_al0 dX9_image_111 (by first | decide | omega | assumption) ?_
      refine z_getR zfX9_107 dX9_image_112 (zkB hΓ rfl) rfl (zsB hΓ rfl) (zvB hΓ (by decide)) ?_
      refine z_il1 dX9_image_115 ?_
      refine z_iald dX9_image_116 (zkB hΓ rfl) (by omega) (by omega) ?_
      try simp only [Int.toNat_natCast]
      try simp only [zup_ap, zup_row, ne_eq, not_false_eq_true, zres, Int.toNat_natCast, reduceIte, Nat.reduceEqDiff, Nat.reduceAdd, and_self, and_true, true_and, and_false, false_and]
      refine z_iast dX9_image_117 (zkB hΓ rfl) (by omega) (by omega) ?_
      refine z_al0 dX9_image_118 (by first | decide | omega | assumption) ?_
      refine z_getR zfX9_125 dX9_image_119 (zkB hΓ rfl) rfl (zsB hΓ rfl) (zvB hΓ (by decide)) ?_
      refine z_bipush (x := 60) dX9_image_122 (by rfl) (by decide) ?_
      refine z_iconst dX9_image_124 (by decide) ?_
      refine z_il1 dX9_image_125 ?_
      refine z_imul dX9_image_126 (by omega) ?_
      refine z_iadd dX9_image_127 (by omega) ?_
      refine z_iconst dX9_image_128 (by decide) ?_
      refine z_iadd dX9_image_129 (by omega) ?_
      refine z_al0 dX9_image_130 (by first | decide | omega | assumption) ?_
      refine z_getR zfX9_110 dX9_image_131 (zkB hΓ rfl) rfl (zsB hΓ rfl) (zvB hΓ (by decide)) ?_
      refine z_il1 dX9_image_134 ?_
      refine z_iald dX9_image_135 (zkB hΓ rfl) (by omega) (by omega) ?_
      try simp only [Int.toNat_natCast]
      try simp only [zup_ap, zup_row, ne_eq, not_false_eq_true, zres, Int.toNat_natCast, reduceIte, Nat.reduceEqDiff, Nat.reduceAdd, and_self, and_true, true_and, and_false, false_and]
      refine z_iast dX9_image_136 (zkB hΓ rfl) (by omega) (by omega) ?_
      refine z_ii1 dX9_image_137 (by omega) (Nat.le_of_ble_eq_true rfl) rfl ?_
      refine z_goto (t := 76) dX9_image_140 (by rfl) ?_
      refine ih (k + 1) _ (by omega) (by omega) (fun a ha => (zup_row ha).trans ((zup_row ha).trans ((zup_row ha).trans (hE a ha)))) (fun j hj => ?_) (fun j hj => ?_)
      · rw [zup_ap, if_neg (fun x => (by have := x.2; omega)), zup_ap, if_neg (fun x => (by have := x.2; omega)), zup_ap, if_neg (fun x => (by have := x.2; omega))]; exact hU j (by omega)
      · by_cases ej : j = k
        · subst ej
          refine ⟨?_, ?_, ?_⟩
          · rw [zup_ap, if_neg (fun x => (by have := x.2; omega)), zup_ap, if_neg (fun x => (by have := x.2; omega)), zup_ap]
            refine (if_pos ⟨rfl, by omega⟩).trans ?_
            rw [hE 113 (by decide)]
          · rw [zup_ap, if_neg (fun x => (by have := x.2; omega)), zup_ap]
            refine (if_pos ⟨rfl, by omega⟩).trans ?_
            try rw [zup_row (by decide)]
            rw [hE 114 (by decide)]
          · rw [zup_ap]
            refine (if_pos ⟨rfl, by omega⟩).trans ?_
            try rw [zup_row (by decide), zup_row (by decide)]
            rw [hE 115 (by decide)]
        · have h9 := hD j (by omega)
          refine ⟨?_, ?_, ?_⟩
          · rw [zup_ap, if_neg (fun x => (by have := x.2; omega)), zup_ap, if_neg (fun x => (by have := x.2; omega)), zup_ap, if_neg (fun x => (by have := x.2; omega))]; exact h9.1
          · rw [zup_ap, if_neg (fun x => (by have := x.2; omega)), zup_ap, if_neg (fun x => (by have := x.2; omega)), zup_ap, if_neg (fun x => (by have := x.2; omega))]; exact h9.2.1
          · rw [zup_ap, if_neg (fun x => (by have := x.2; omega)), zup_ap, if_neg (fun x => (by have := x.2; omega)), zup_ap, if_neg (fun x => (by have := x.2; omega))]; exact h9.2.2
set_option maxRecDepth 4000 in
theorem X9_back_16 {l : Launch} {Γ : zC} {h1 : zM} {Q : Option zV → zC → zM → Prop} (hΓ : zBase Γ) (hK : ∀ (y : Int) (h : zM), (∀ q, ¬ (99 ≤ q ∧ q ≤ 101) → h q = h1 q) → (∀ j, j < 20 → h 99 j = h1 120 (0 + 3 * j) ∧ h 100 j = h1 120 (0 + 3 * j + 1) ∧ h 101 j = h1 120 (0 + 3 * j + 2)) → zG (zFn l mX9_back 0 0 0 Γ Q) 0 0 Γ h 74 [some (zR 89), some (zI y)] []) : ∀ (m : Nat) (k : Nat) (h : zM), 20 - k < m → k ≤ 20 → (∀ q, ¬ (99 ≤ q ∧ q ≤ 101) → h q = h1 q) → (∀ j, j < k → h 99 j = h1 120 (0 + 3 * j) ∧ h 100 j = h1 120 (0 + 3 * j + 1) ∧ h 101 j = h1 120 (0 + 3 * j + 2)) → zG (zFn l mX9_back 0 0 0 Γ Q) 0 0 Γ h 16 [some (zR 89), some (zI (k : Int))] [] := by
  intro m
  induction m with
  | zero => intros; omega
  | succ m ih =>
    intro k h hm hk hE hD
    refine z_il1 dX9_back_16 ?_
    refine z_bipush (x := 20) dX9_back_17 (by rfl) (by decide) ?_
    refine z_icmp_ge (t := 74) dX9_back_19 (by rfl) (fun ht19 => ?_) (fun hf19 => ?_)
    · exact hK _ h hE (fun j hj => hD j (by omega))
    · refine z_al0 dX9_back_22 (by first | decide | omega | assumption) ?_
      refine z_getR zfX9_52 dX9_back_23 (zkB hΓ rfl) rfl (zsB hΓ rfl) (zvB hΓ (by decide)) ?_
      refine z_il1 dX9_back_26 ?_
      refine z_al0 dX9_back_27 (by first | decide | omega | assumption) ?_
      refine z_getR zfX9_125 dX9_back_28 (zkB hΓ rfl) rfl (zsB hΓ rfl) (zvB hΓ (by decide)) ?_
      refine z_iconst dX9_back_31 (by decide) ?_
      refine z_il1 dX9_back_32 ?_
      refine z_imul dX9_back_33 (by omega) ?_
      refine z_iald dX9_back_34 (zkB hΓ rfl) (by omega) (by omega) ?_
      try simp only [zup_ap, zup_row, ne_eq, not_false_eq_true, zres, Int.toNat_natCast, reduceIte, Nat.reduceEqDiff, Nat.reduceAdd, and_self, and_true, true_and, and_false, false_and]
      refine z_iast dX9_back_35 (zkB hΓ rfl) (by omega) (by omega) ?_
      refine z_al0 dX9_back_36 (by first | decide | omega | assumption) ?_
      refine z_getR zfX9_55 dX9_back_37 (zkB hΓ rfl) rfl (zsB hΓ rfl) (zvB hΓ (by decide)) ?_
      refine z_il1 dX9_back_40 ?_
      refine z_al0 dX9_back_41 (by first | decide | omega | assumption) ?_
      refine z_getR zfX9_125 dX9_back_42 (zkB hΓ rfl) rfl (zsB hΓ rfl) (zvB hΓ (by decide)) ?_
      refine z_iconst dX9_back_45 (by decide) ?_
      refine z_il1 dX9_back_46 ?_
      refine z_imul dX9_back_47 (by omega) ?_
      refine z_iconst dX9_back_48 (by decide) ?_
      refine z_iadd dX9_back_49 (by omega) ?_
      refine z_iald dX9_back_50 (zkB hΓ rfl) (by omega) (by omega) ?_
      try simp only [zup_ap, zup_row, ne_eq, not_false_eq_true, zres, Int.toNat_natCast, reduceIte, Nat.reduceEqDiff, Nat.reduceAdd, and_self, and_true, true_and, and_false, false_and]
      refine z_iast dX9_back_51 (zkB hΓ rfl) (by omega) (by omega) ?_
      refine z_al0 dX9_back_52 (by first | decide | omega | assumption) ?_
      refine z_getR zfX9_58 dX9_back_53 (zkB hΓ rfl) rfl (zsB hΓ rfl) (zvB hΓ (by decide)) ?_
      refine z_il1 dX9_back_56 ?_
      refine z_al0 dX9_back_57 (by first | decide | omega | assumption) ?_
      refine z_getR zfX9_125 dX9_back_58 (zkB hΓ rfl) rfl (zsB hΓ rfl) (zvB hΓ (by decide)) ?_
      refine z_iconst dX9_back_61 (by decide) ?_
      refine z_il1 dX9_back_62 ?_
      refine z_imul dX9_back_63 (by omega) ?_
      refine z_iconst dX9_back_64 (by decide) ?_
      refine z_iadd dX9_back_65 (by omega) ?_
      refine z_iald dX9_back_66 (zkB hΓ rfl) (by omega) (by omega) ?_
      try simp only [zup_ap, zup_row, ne_eq, not_false_eq_true, zres, Int.toNat_natCast, reduceIte, Nat.reduceEqDiff, Nat.reduceAdd, and_self, and_true, true_and, and_false, false_and]
      refine z_iast dX9_back_67 (zkB hΓ rfl) (by omega) (by omega) ?_
      refine z_ii1 dX9_back_68 (by omega) (Nat.le_of_ble_eq_true rfl) rfl ?_
      refine z_goto (t := 16) dX9_back_71 (by rfl) ?_
      refine ih (k + 1) _ (by omega) (by omega) (fun a ha => ?_) (fun j hj => ?_)
      · rw [zup_row (fun x => ha (by omega)), zup_row (fun x => ha (by omega)), zup_row (fun x => ha (by omega))]; exact hE a ha
      · by_cases ej : j = k
        · subst ej
          refine ⟨?_, ?_, ?_⟩
          · rw [zup_row (by decide), zup_row (by decide), zup_ap]
            refine (if_pos ⟨rfl, by omega⟩).trans ?_
            rw [hE 120 (by decide)]; congr 1 <;> omega
          · rw [zup_row (by decide), zup_ap]
            refine (if_pos ⟨rfl, by omega⟩).trans ?_
            try rw [zup_row (by decide)]
            rw [hE 120 (by decide)]; congr 1 <;> omega
          · rw [zup_ap]
            refine (if_pos ⟨rfl, by omega⟩).trans ?_
            try rw [zup_row (by decide), zup_row (by decide)]
            rw [hE 120 (by decide)]; congr 1 <;> omega
        · have h9 := hD j (by omega)
          refine ⟨?_, ?_, ?_⟩
          · rw [zup_row (by decide), zup_row (by decide), zup_ap, if_neg (fun x => ej (by have := x.2; omega))]; exact h9.1
          · rw [zup_row (by decide), zup_ap, if_neg (fun x => ej (by have := x.2; omega)), zup_row (by decide)]; exact h9.2.1
          · rw [zup_ap, if_neg (fun x => ej (by have := x.2; omega)), zup_row (by decide), zup_row (by decide)]; exact h9.2.2
set_option maxRecDepth 4000 in
theorem X9_back_76 {l : Launch} {Γ : zC} {h1 : zM} {Q : Option zV → zC → zM → Prop} (hΓ : zBase Γ) (hK : ∀ (y : Int) (h : zM), (∀ q, ¬ (113 ≤ q ∧ q ≤ 115) → h q = h1 q) → (∀ j, j < 40 → h 113 j = h1 120 (60 + 3 * j) ∧ h 114 j = h1 120 (60 + 3 * j + 1) ∧ h 115 j = h1 120 (60 + 3 * j + 2)) → zG (zFn l mX9_back 0 0 0 Γ Q) 0 0 Γ h 143 [some (zR 89), some (zI y)] []) : ∀ (m : Nat) (k : Nat) (h : zM), 40 - k < m → k ≤ 40 → (∀ q, ¬ (113 ≤ q ∧ q ≤ 115) → h q = h1 q) → (∀ j, j < k → h 113 j = h1 120 (60 + 3 * j) ∧ h 114 j = h1 120 (60 + 3 * j + 1) ∧ h 115 j = h1 120 (60 + 3 * j + 2)) → zG (zFn l mX9_back 0 0 0 Γ Q) 0 0 Γ h 76 [some (zR 89), some (zI (k : Int))] [] := by
  intro m
  induction m with
  | zero => intros; omega
  | succ m ih =>
    intro k h hm hk hE hD
    refine z_il1 dX9_back_76 ?_
    refine z_bipush (x := 40) dX9_back_77 (by rfl) (by decide) ?_
    refine z_icmp_ge (t := 143) dX9_back_79 (by rfl) (fun ht79 => ?_) (fun hf79 => ?_)
    · exact hK _ h hE (fun j hj => hD j (by omega))
    · refine z_al0 dX9_back_82 (by first | decide | omega | assumption) ?_
      refine z_getR zfX9_104 dX9_back_83 (zkB hΓ rfl) rfl (zsB hΓ rfl) (zvB hΓ (by decide)) ?_
      refine z_il1 dX9_back_86 ?_
      refine z_al0 dX9_back_87 (by first | decide | omega | assumption) ?_
      refine z_getR zfX9_125 dX9_back_88 (zkB hΓ rfl) rfl (zsB hΓ rfl) (zvB hΓ (by decide)) ?_
      refine z_bipush (x := 60) dX9_back_91 (by rfl) (by decide) ?_
      refine z_iconst dX9_back_93 (by decide) ?_
      refine z_il1 dX9_back_94 ?_
      refine z_imul dX9_back_95 (by omega) ?_
      refine z_iadd dX9_back_96 (by omega) ?_
      refine z_iald dX9_back_97 (zkB hΓ rfl) (by omega) (by omega) ?_
      try simp only [zup_ap, zup_row, ne_eq, not_false_eq_true, zres, Int.toNat_natCast, reduceIte, Nat.reduceEqDiff, Nat.reduceAdd, and_self, and_true, true_and, and_false, false_and]
      refine z_iast dX9_back_98 (zkB hΓ rfl) (by omega) (by omega) ?_
      refine z_al0 dX9_back_99 (by first | decide | omega | assumption) ?_
      refine z_getR zfX9_107 dX9_back_100 (zkB hΓ rfl) rfl (zsB hΓ rfl) (zvB hΓ (by decide)) ?_
      refine z_il1 dX9_back_103 ?_
      refine z_al0 dX9_back_104 (by first | decide | omega | assumption) ?_
      refine z_getR zfX9_125 dX9_back_105 (zkB hΓ rfl) rfl (zsB hΓ rfl) (zvB hΓ (by decide)) ?_
      refine z_bipush (x := 60) dX9_back_108 (by rfl) (by decide) ?_
      refine z_iconst dX9_back_110 (by decide) ?_
      refine z_il1 dX9_back_111 ?_
      refine z_imul dX9_back_112 (by omega) ?_
      refine z_iadd dX9_back_113 (by omega) ?_
      refine z_iconst dX9_back_114 (by decide) ?_
      refine z_iadd dX9_back_115 (by omega) ?_
      refine z_iald dX9_back_116 (zkB hΓ rfl) (by omega) (by omega) ?_
      try simp only [zup_ap, zup_row, ne_eq, not_false_eq_true, zres, Int.toNat_natCast, reduceIte, Nat.reduceEqDiff, Nat.reduceAdd, and_self, and_true, true_and, and_false, false_and]
      refine z_iast dX9_back_117 (zkB hΓ rfl) (by omega) (by omega) ?_
      refine z_al0 dX9_back_118 (by first | decide | omega | assumption) ?_
      refine z_getR zfX9_110 dX9_back_119 (zkB hΓ rfl) rfl (zsB hΓ rfl) (zvB hΓ (by decide)) ?_
      refine z_il1 dX9_back_122 ?_
      refine z_al0 dX9_back_123 (by first | decide | omega | assumption) ?_
      refine z_getR zfX9_125 dX9_back_124 (zkB hΓ rfl) rfl (zsB hΓ rfl) (zvB hΓ (by decide)) ?_
      refine z_bipush (x := 60) dX9_back_127 (by rfl) (by decide) ?_
      refine z_iconst dX9_back_129 (by decide) ?_
      refine z_il1 dX9_back_130 ?_
      refine z_imul dX9_back_131 (by omega) ?_
      refine z_iadd dX9_back_132 (by omega) ?_
      refine z_iconst dX9_back_133 (by decide) ?_
      refine z_iadd dX9_back_134 (by omega) ?_
      refine z_iald dX9_back_135 (zkB hΓ rfl) (by omega) (by omega) ?_
      try simp only [zup_ap, zup_row, ne_eq, not_false_eq_true, zres, Int.toNat_natCast, reduceIte, Nat.reduceEqDiff, Nat.reduceAdd, and_self, and_true, true_and, and_false, false_and]
      refine z_iast dX9_back_136 (zkB hΓ rfl) (by omega) (by omega) ?_
      refine z_ii1 dX9_back_137 (by omega) (Nat.le_of_ble_eq_true rfl) rfl ?_
      refine z_goto (t := 76) dX9_back_140 (by rfl) ?_
      refine ih (k + 1) _ (by omega) (by omega) (fun a ha => ?_) (fun j hj => ?_)
      · rw [zup_row (fun x => ha (by omega)), zup_row (fun x => ha (by omega)), zup_row (fun x => ha (by omega))]; exact hE a ha
      · by_cases ej : j = k
        · subst ej
          refine ⟨?_, ?_, ?_⟩
          · rw [zup_row (by decide), zup_row (by decide), zup_ap]
            refine (if_pos ⟨rfl, by omega⟩).trans ?_
            rw [hE 120 (by decide)]; congr 1 <;> omega
          · rw [zup_row (by decide), zup_ap]
            refine (if_pos ⟨rfl, by omega⟩).trans ?_
            try rw [zup_row (by decide)]
            rw [hE 120 (by decide)]; congr 1 <;> omega
          · rw [zup_ap]
            refine (if_pos ⟨rfl, by omega⟩).trans ?_
            try rw [zup_row (by decide), zup_row (by decide)]
            rw [hE 120 (by decide)]; congr 1 <;> omega
        · have h9 := hD j (by omega)
          refine ⟨?_, ?_, ?_⟩
          · rw [zup_row (by decide), zup_row (by decide), zup_ap, if_neg (fun x => ej (by have := x.2; omega))]; exact h9.1
          · rw [zup_row (by decide), zup_ap, if_neg (fun x => ej (by have := x.2; omega)), zup_row (by decide)]; exact h9.2.1
          · rw [zup_ap, if_neg (fun x => ej (by have := x.2; omega)), zup_row (by decide), zup_row (by decide)]; exact h9.2.2
set_option maxRecDepth 4000 in
theorem X9_image_ct {l : Launch} {Γ : zC} {h : zM} {Q : Option zV → zC → zM → Prop} {N : Int} (hΓ : zBase Γ) (hn : h 89 22 = N) (hQ0 : ¬ N ≠ 0 → Q (some (zI (-1))) Γ (zup h 89 0 0)) (hQ1 : ∀ h9, N ≠ 0 → (∀ q, q ≠ 89 → q ≠ 120 → h9 q = h q) → (∀ j, j ≠ 0 → j ≠ 57 → j ≠ 58 → j ≠ 59 → j ≠ 60 → h9 89 j = h 89 j) → (h9 89 57 = h 89 28 ∧ h9 89 58 = h 89 51 ∧ h9 89 59 = h 89 29 ∧ h9 89 60 = 1) → (∀ j, j < 20 → h9 120 (3 * j) = h 99 j ∧ h9 120 (3 * j + 1) = h 100 j ∧ h9 120 (3 * j + 2) = h 101 j) → (∀ j, j < 40 → h9 120 (60 + 3 * j) = h 113 j ∧ h9 120 (60 + 3 * j + 1) = h 114 j ∧ h9 120 (60 + 3 * j + 2) = h 115 j) → Q (some (zI (h 89 29))) Γ h9) : zCT l mX9_image 0 0 0 Γ [zR 89] h Q := by
  refine zCT_of (by decide) (Nat.le_of_ble_eq_true rfl) (ls := [some (zR 89), none]) rfl ?_
  refine z_al0 dX9_image_0 (by first | decide | omega | assumption) ?_
  refine z_iconst dX9_image_1 (by decide) ?_
  refine z_putI zfX9_128 dX9_image_2 (zkB hΓ rfl) rfl rfl ?_
  refine z_al0 dX9_image_5 (by first | decide | omega | assumption) ?_
  refine z_getI zfX9_276 dX9_image_6 (zkB hΓ rfl) rfl ?_
  try simp only [zup_ap, zup_row, ne_eq, not_false_eq_true, zres, Int.toNat_natCast, reduceIte, Nat.reduceEqDiff, Nat.reduceAdd, and_self, and_true, true_and, and_false, false_and]
  rw [hn]
  try simp only [zup_ap, zup_row, ne_eq, not_false_eq_true, zres, Int.toNat_natCast, reduceIte, Nat.reduceEqDiff, Nat.reduceAdd, and_self, and_true, true_and, and_false, false_and]
  refine z_if_ne (t := 14) dX9_image_9 (by rfl) (fun ht9 => ?_) (fun hf9 => ?_)
  · refine z_iconst dX9_image_14 (by decide) ?_
    refine z_is1 dX9_image_15 (Nat.le_of_ble_eq_true rfl) rfl ?_
    refine X9_image_16 hΓ (fun y2 h2 hE2 hU2 hD2 => ?_) _ 0 _ (Nat.lt_succ_self _) (by omega) (fun _ _ => rfl) (fun _ _ => rfl) (fun j hj => absurd hj (by omega))
    refine z_iconst dX9_image_74 (by decide) ?_
    refine z_is1 dX9_image_75 (Nat.le_of_ble_eq_true rfl) rfl ?_
    refine X9_image_76 hΓ (fun y3 h3 hE3 hU3 hD3 => ?_) _ 0 _ (Nat.lt_succ_self _) (by omega) (fun _ _ => rfl) (fun _ _ => rfl) (fun j hj => absurd hj (by omega))
    refine z_al0 dX9_image_143 (by first | decide | omega | assumption) ?_
    refine z_al0 dX9_image_144 (by first | decide | omega | assumption) ?_
    refine z_getI zfX9_282 dX9_image_145 (zkB hΓ rfl) rfl ?_
    try simp only [zup_ap, zup_row, ne_eq, not_false_eq_true, zres, Int.toNat_natCast, reduceIte, Nat.reduceEqDiff, Nat.reduceAdd, and_self, and_true, true_and, and_false, false_and]
    rw [hE3 89 (by decide), hE2 89 (by decide), zup_ap, if_neg (by decide)]
    try simp only [zup_ap, zup_row, ne_eq, not_false_eq_true, zres, Int.toNat_natCast, reduceIte, Nat.reduceEqDiff, Nat.reduceAdd, and_self, and_true, true_and, and_false, false_and]
    refine z_putI zfX9_449 dX9_image_148 (zkB hΓ rfl) rfl rfl ?_
    refine z_al0 dX9_image_151 (by first | decide | omega | assumption) ?_
    refine z_al0 dX9_image_152 (by first | decide | omega | assumption) ?_
    refine z_getI zfX9_285 dX9_image_153 (zkB hΓ rfl) rfl ?_
    try simp only [zup_ap, zup_row, ne_eq, not_false_eq_true, zres, Int.toNat_natCast, reduceIte, Nat.reduceEqDiff, Nat.reduceAdd, and_self, and_true, true_and, and_false, false_and]
    rw [hE3 89 (by decide), hE2 89 (by decide), zup_ap, if_neg (by decide)]
    try simp only [zup_ap, zup_row, ne_eq, not_false_eq_true, zres, Int.toNat_natCast, reduceIte, Nat.reduceEqDiff, Nat.reduceAdd, and_self, and_true, true_and, and_false, false_and]
    refine z_putI zfX9_452 dX9_image_156 (zkB hΓ rfl) rfl rfl ?_
    refine z_al0 dX9_image_159 (by first | decide | omega | assumption) ?_
    refine z_al0 dX9_image_160 (by first | decide | omega | assumption) ?_
    refine z_getI zfX9_288 dX9_image_161 (zkB hΓ rfl) rfl ?_
    try simp only [zup_ap, zup_row, ne_eq, not_false_eq_true, zres, Int.toNat_natCast, reduceIte, Nat.reduceEqDiff, Nat.reduceAdd, and_self, and_true, true_and, and_false, false_and]
    rw [hE3 89 (by decide), hE2 89 (by decide), zup_ap, if_neg (by decide)]
    try simp only [zup_ap, zup_row, ne_eq, not_false_eq_true, zres, Int.toNat_natCast, reduceIte, Nat.reduceEqDiff, Nat.reduceAdd, and_self, and_true, true_and, and_false, false_and]
    refine z_putI zfX9_455 dX9_image_164 (zkB hΓ rfl) rfl rfl ?_
    refine z_al0 dX9_image_167 (by first | decide | omega | assumption) ?_
    refine z_iconst dX9_image_168 (by decide) ?_
    refine z_putZ zfX9_291 dX9_image_169 (zkB hΓ rfl) rfl rfl (by first | exact Or.inl rfl | exact Or.inr rfl | omega) ?_
    refine z_al0 dX9_image_172 (by first | decide | omega | assumption) ?_
    refine z_getI zfX9_288 dX9_image_173 (zkB hΓ rfl) rfl ?_
    try simp only [zup_ap, zup_row, ne_eq, not_false_eq_true, zres, Int.toNat_natCast, reduceIte, Nat.reduceEqDiff, Nat.reduceAdd, and_self, and_true, true_and, and_false, false_and]
    rw [hE3 89 (by decide), hE2 89 (by decide), zup_ap, if_neg (by decide)]
    try simp only [zup_ap, zup_row, ne_eq, not_false_eq_true, zres, Int.toNat_natCast, reduceIte, Nat.reduceEqDiff, Nat.reduceAdd, and_self, and_true, true_and, and_false, false_and]
    refine z_iret dX9_image_176 rfl (Nat.le_refl _) (Nat.le_refl _) (zext_rf _) (fun hrr => ?_)
    have e89 : ∀ j, h3 89 j = zup h 89 0 0 89 j := fun j => by rw [hE3 89 (by decide), hE2 89 (by decide)]
    refine hQ1 _ (by omega) (fun q q1 q2 => ?_) (fun j j1 j2 j3 j4 j5 => ?_) ⟨rfl, rfl, rfl, rfl⟩ (fun j hj => ?_) (fun j hj => ?_)
    · rw [zup_row q1, zup_row q1, zup_row q1, zup_row q1, hE3 q q2, hE2 q q2, zup_row q1]
    · rw [zup_ap, if_neg (fun x => (by have := x.2; omega)), zup_ap, if_neg (fun x => (by have := x.2; omega)), zup_ap, if_neg (fun x => (by have := x.2; omega)), zup_ap, if_neg (fun x => (by have := x.2; omega)), e89, zup_ap, if_neg (fun x => (by have := x.2; omega))]
    · rw [zup_row (by decide), zup_row (by decide), zup_row (by decide), zup_row (by decide), hU3 _ (by omega), hU3 _ (by omega), hU3 _ (by omega)]
      have h9 := hD2 j hj
      rw [Nat.zero_add] at h9
      exact h9
    · rw [zup_row (by decide), zup_row (by decide), zup_row (by decide), zup_row (by decide)]
      have h9 := hD3 j hj
      rw [hE2 113 (by decide), hE2 114 (by decide), hE2 115 (by decide)] at h9
      exact h9
  · refine z_iconst dX9_image_12 (by decide) ?_
    refine z_iret dX9_image_13 rfl (Nat.le_refl _) (Nat.le_refl _) (zext_rf _) (fun hrr => ?_)
    exact hQ0 (by omega)
set_option maxRecDepth 4000 in
theorem X9_back_ct {l : Launch} {Γ : zC} {h : zM} {Q : Option zV → zC → zM → Prop} {N : Int} (hΓ : zBase Γ) (hn : h 89 60 = N) (hQ0 : ¬ N ≠ 0 → Q (some (zI (-1))) Γ (zup h 89 0 0)) (hQ1 : ∀ h9, N ≠ 0 → (∀ q, q ≠ 89 → ¬ (99 ≤ q ∧ q ≤ 101) → ¬ (113 ≤ q ∧ q ≤ 115) → h9 q = h q) → (∀ j, j ≠ 0 → j ≠ 28 → j ≠ 51 → j ≠ 29 → h9 89 j = h 89 j) → (h9 89 28 = h 89 57 ∧ h9 89 51 = h 89 58 ∧ h9 89 29 = h 89 59) → (∀ j, j < 20 → h9 99 j = h 120 (3 * j) ∧ h9 100 j = h 120 (3 * j + 1) ∧ h9 101 j = h 120 (3 * j + 2)) → (∀ j, j < 40 → h9 113 j = h 120 (60 + 3 * j) ∧ h9 114 j = h 120 (60 + 3 * j + 1) ∧ h9 115 j = h 120 (60 + 3 * j + 2)) → Q (some (zI (h 89 59))) Γ h9) : zCT l mX9_back 0 0 0 Γ [zR 89] h Q := by
  refine zCT_of (by decide) (Nat.le_of_ble_eq_true rfl) (ls := [some (zR 89), none]) rfl ?_
  refine z_al0 dX9_back_0 (by first | decide | omega | assumption) ?_
  refine z_iconst dX9_back_1 (by decide) ?_
  refine z_putI zfX9_128 dX9_back_2 (zkB hΓ rfl) rfl rfl ?_
  refine z_al0 dX9_back_5 (by first | decide | omega | assumption) ?_
  refine z_getZ zfX9_291 dX9_back_6 (zkB hΓ rfl) rfl ?_
  try simp only [zup_ap, zup_row, ne_eq, not_false_eq_true, zres, Int.toNat_natCast, reduceIte, Nat.reduceEqDiff, Nat.reduceAdd, and_self, and_true, true_and, and_false, false_and]
  rw [hn]
  try simp only [zup_ap, zup_row, ne_eq, not_false_eq_true, zres, Int.toNat_natCast, reduceIte, Nat.reduceEqDiff, Nat.reduceAdd, and_self, and_true, true_and, and_false, false_and]
  refine z_if_ne (t := 14) dX9_back_9 (by rfl) (fun ht9 => ?_) (fun hf9 => ?_)
  · refine z_iconst dX9_back_14 (by decide) ?_
    refine z_is1 dX9_back_15 (Nat.le_of_ble_eq_true rfl) rfl ?_
    refine X9_back_16 hΓ (fun y2 h2 hE2 hD2 => ?_) _ 0 _ (Nat.lt_succ_self _) (by omega) (fun _ _ => rfl) (fun j hj => absurd hj (by omega))
    refine z_iconst dX9_back_74 (by decide) ?_
    refine z_is1 dX9_back_75 (Nat.le_of_ble_eq_true rfl) rfl ?_
    refine X9_back_76 hΓ (fun y3 h3 hE3 hD3 => ?_) _ 0 _ (Nat.lt_succ_self _) (by omega) (fun _ _ => rfl) (fun j hj => absurd hj (by omega))
    refine z_al0 dX9_back_143 (by first | decide | omega | assumption) ?_
    refine z_al0 dX9_back_144 (by first | decide | omega | assumption) ?_
    refine z_getI zfX9_449 dX9_back_145 (zkB hΓ rfl) rfl ?_
    try simp only [zup_ap, zup_row, ne_eq, not_false_eq_true, zres, Int.toNat_natCast, reduceIte, Nat.reduceEqDiff, Nat.reduceAdd, and_self, and_true, true_and, and_false, false_and]
    rw [hE3 89 (by decide), hE2 89 (by decide), zup_ap, if_neg (by decide)]
    try simp only [zup_ap, zup_row, ne_eq, not_false_eq_true, zres, Int.toNat_natCast, reduceIte, Nat.reduceEqDiff, Nat.reduceAdd, and_self, and_true, true_and, and_false, false_and]
    refine z_putI zfX9_282 dX9_back_148 (zkB hΓ rfl) rfl rfl ?_
    refine z_al0 dX9_back_151 (by first | decide | omega | assumption) ?_
    refine z_al0 dX9_back_152 (by first | decide | omega | assumption) ?_
    refine z_getI zfX9_452 dX9_back_153 (zkB hΓ rfl) rfl ?_
    try simp only [zup_ap, zup_row, ne_eq, not_false_eq_true, zres, Int.toNat_natCast, reduceIte, Nat.reduceEqDiff, Nat.reduceAdd, and_self, and_true, true_and, and_false, false_and]
    rw [hE3 89 (by decide), hE2 89 (by decide), zup_ap, if_neg (by decide)]
    try simp only [zup_ap, zup_row, ne_eq, not_false_eq_true, zres, Int.toNat_natCast, reduceIte, Nat.reduceEqDiff, Nat.reduceAdd, and_self, and_true, true_and, and_false, false_and]
    refine z_putI zfX9_285 dX9_back_156 (zkB hΓ rfl) rfl rfl ?_
    refine z_al0 dX9_back_159 (by first | decide | omega | assumption) ?_
    refine z_al0 dX9_back_160 (by first | decide | omega | assumption) ?_
    refine z_getI zfX9_455 dX9_back_161 (zkB hΓ rfl) rfl ?_
    try simp only [zup_ap, zup_row, ne_eq, not_false_eq_true, zres, Int.toNat_natCast, reduceIte, Nat.reduceEqDiff, Nat.reduceAdd, and_self, and_true, true_and, and_false, false_and]
    rw [hE3 89 (by decide), hE2 89 (by decide), zup_ap, if_neg (by decide)]
    try simp only [zup_ap, zup_row, ne_eq, not_false_eq_true, zres, Int.toNat_natCast, reduceIte, Nat.reduceEqDiff, Nat.reduceAdd, and_self, and_true, true_and, and_false, false_and]
    refine z_putI zfX9_288 dX9_back_164 (zkB hΓ rfl) rfl rfl ?_
    refine z_al0 dX9_back_167 (by first | decide | omega | assumption) ?_
    refine z_getI zfX9_288 dX9_back_168 (zkB hΓ rfl) rfl ?_
    try simp only [zup_ap, zup_row, ne_eq, not_false_eq_true, zres, Int.toNat_natCast, reduceIte, Nat.reduceEqDiff, Nat.reduceAdd, and_self, and_true, true_and, and_false, false_and]
    try simp only [zup_ap, zup_row, ne_eq, not_false_eq_true, zres, Int.toNat_natCast, reduceIte, Nat.reduceEqDiff, Nat.reduceAdd, and_self, and_true, true_and, and_false, false_and]
    refine z_iret dX9_back_171 rfl (Nat.le_refl _) (Nat.le_refl _) (zext_rf _) (fun hrr => ?_)
    have e89 : ∀ j, h3 89 j = zup h 89 0 0 89 j := fun j => by rw [hE3 89 (by decide), hE2 89 (by decide)]
    refine hQ1 _ (by omega) (fun q q1 q2 q3 => ?_) (fun j j1 j2 j3 j4 => ?_) ⟨rfl, rfl, rfl⟩ (fun j hj => ?_) (fun j hj => ?_)
    · rw [zup_row q1, zup_row q1, zup_row q1, hE3 q q3, hE2 q q2, zup_row q1]
    · rw [zup_ap, if_neg (fun x => (by have := x.2; omega)), zup_ap, if_neg (fun x => (by have := x.2; omega)), zup_ap, if_neg (fun x => (by have := x.2; omega)), e89, zup_ap, if_neg (fun x => (by have := x.2; omega))]
    · simp only [zup_row (show (99 : Nat) ≠ 89 by decide), zup_row (show (100 : Nat) ≠ 89 by decide), zup_row (show (101 : Nat) ≠ 89 by decide)]
      rw [hE3 99 (by decide), hE3 100 (by decide), hE3 101 (by decide)]
      have h9 := hD2 j hj
      rw [Nat.zero_add] at h9
      exact h9
    · simp only [zup_row (show (113 : Nat) ≠ 89 by decide), zup_row (show (114 : Nat) ≠ 89 by decide), zup_row (show (115 : Nat) ≠ 89 by decide)]
      have h9 := hD3 j hj
      rw [hE2 120 (by decide)] at h9
      exact h9
  · refine z_iconst dX9_back_12 (by decide) ?_
    refine z_iret dX9_back_13 rfl (Nat.le_refl _) (Nat.le_refl _) (zext_rf _) (fun hrr => ?_)
    exact hQ0 (by omega)
