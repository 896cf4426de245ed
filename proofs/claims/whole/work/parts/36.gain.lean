/-! GAIN: the spec; the reference -/
abbrev zBs2 := Int × (Nat → Int)
def zfo (f : Nat → zBs2 → zBs2) : Nat → zBs2 → zBs2
  | 0, b => b
  | k + 1, b => f k (zfo f k b)
theorem zfo_id {f : Nat → zBs2 → zBs2} {b : zBs2} : ∀ m, (∀ k, k < m → f k b = b) → zfo f m b = b
  | 0, _ => rfl
  | m + 1, h => by rw [zfo, zfo_id m (fun k hk => h k (by omega)), h m (by omega)]
def zdn (h : zM) (d i t : Nat) : Nat := min (d + (h 96 (6 * i + t)).toNat) 99
def zrt (R : Nat → Int) (l : Nat) (a b c : Int) : Nat → Int := fun j => if j = 3 * l then a else if j = 3 * l + 1 then b else if j = 3 * l + 2 then c else R j
def zUp (B : zBs2) (x : Int) (R : Nat → Int) : zBs2 := if B.1 < x then (x, R) else B
abbrev zLF := Nat → Nat → Int → Nat → Nat → (Nat → Int) → zBs2 → zBs2
/-- off by each WAY -/
def zOs (h : zM) (F : zLF) (l i d : Nat) (m : Int) (g q : Nat) (a b : Int) (R : Nat → Int) : Nat → zBs2 → zBs2 := fun t B => if h 96 (6 * i + t) = 0 then B else F t (zdn h d i t) m g q (zrt R l a b (t : Int)) B
def zOff (h : zM) (F : zLF) (l i d : Nat) (m : Int) (g q : Nat) (a b : Int) (R : Nat → Int) (B : zBs2) : zBs2 := zfo (zOs h F l i d m g q a b R) (h 89 22).toNat B
/-- what is sold at a quay: the money, what is left in the hold -/
def zSl (h : zM) (i d : Nat) (m : Int) (g q : Nat) : Int × Nat := if 0 < q ∧ zdl h g i q (d : Int) = true then (m + (q : Int) * h 107 (6 * g + i), 0) else (m, q)
def zBq (h : zM) (F : zLF) (l i d : Nat) (m : Int) (g : Nat) (R : Nat → Int) : Nat → zBs2 → zBs2 := fun q B => if ((q + 1 : Nat) : Int) * h 107 (6 * g + i) ≤ m ∧ zdl h g i (q + 1) (d : Int) = true then zOff h F l i d (m - ((q + 1 : Nat) : Int) * h 107 (6 * g + i)) g (q + 1) (g : Int) ((q + 1 : Nat) : Int) R B else B
def zBg (h : zM) (hold : Nat) (F : zLF) (l i d : Nat) (m : Int) (R : Nat → Int) : Nat → zBs2 → zBs2 := fun g B => zfo (zBq h F l i d m g R) hold B
def zL2 (h : zM) (hold : Nat) (F : zLF) (l i d : Nat) (m : Int) (g q : Nat) (R : Nat → Int) (B : zBs2) : zBs2 := if 0 < q then zOff h F l i d m g q (-1) 0 R B else zfo (zBg h hold F l i d m R) (h 89 39).toNat (zOff h F l i d m 0 0 (-1) 0 R B)
def zLg (h : zM) (hold L : Nat) : Nat → zLF
  | 0 => fun i d m g q R B => zUp B (zSl h i d m g q).1 R
  | n + 1 => fun i d m g q R B => zL2 h hold (zLg h hold L n) (L - (n + 1)) i d (zSl h i d m g q).1 g (zSl h i d m g q).2 R B
theorem zSl_y {h : zM} {i d : Nat} {m : Int} {g q : Nat} (a : 0 < q) (b : zdl h g i q (d : Int) = true) : zSl h i d m g q = (m + (q : Int) * h 107 (6 * g + i), 0) := if_pos ⟨a, b⟩
theorem zSl_n {h : zM} {i d : Nat} {m : Int} {g q : Nat} (a : ¬ (0 < q ∧ zdl h g i q (d : Int) = true)) : zSl h i d m g q = (m, q) := if_neg a
/-- nothing is gained where there is too little money for it -/
def zlmP (h : zM) (hold : Nat) (lm : Int) : Prop := 0 ≤ lm ∧ ∀ g i j q : Nat, (g : Int) < h 89 39 → (i : Int) < h 89 22 → (j : Int) < h 89 22 → q ≤ hold → (q : Int) * h 107 (6 * g + j) ≤ (q : Int) * h 107 (6 * g + i) + lm
def zpoor (h : zM) (n : Nat) (lm m : Int) (g q : Nat) (Z : Int) : Prop := (q = 0 → m + (n : Int) * lm ≤ Z) ∧ (0 < q → ∀ j : Nat, (j : Int) < h 89 22 → m + (q : Int) * h 107 (6 * g + j) + (n : Int) * lm ≤ Z)
theorem zOff_id {h : zM} {F : zLF} {l i d : Nat} {m : Int} {g q : Nat} {a b : Int} {R : Nat → Int} {B : zBs2} (hF : ∀ (t d' : Nat) (R' : Nat → Int), (t : Int) < h 89 22 → F t d' m g q R' B = B) : zOff h F l i d m g q a b R B = B := zfo_id _ (fun k hk => by
  show (if _ then _ else _) = _
  split
  · rfl
  · exact hF k _ _ (by omega))
theorem zLg_poor {Γ : zC} {h : zM} {hold L : Nat} {lm : Int} (hI : zIv Γ h) (hl : zlmP h hold lm) : ∀ (n i d : Nat) (m : Int) (g q : Nat) (R : Nat → Int) (B : zBs2), (i : Int) < h 89 22 → (0 < q → (g : Int) < h 89 39 ∧ q ≤ 6) → hold ≤ 6 → zpoor h n lm m g q B.1 → zLg h hold L n i d m g q R B = B
  | 0, i, d, m, g, q, R, B, hi, hg, hh, hp => by
    show zUp B (zSl h i d m g q).1 R = B
    unfold zUp
    refine if_neg ?_
    obtain ⟨p1, p2⟩ := hp
    have hx := hI.isl
    have hx7 := hI.gds
    rw [show (((0 : Nat) : Int)) * lm = 0 from Int.zero_mul lm] at p1 p2
    by_cases c : 0 < q ∧ zdl h g i q (d : Int) = true
    · rw [zSl_y c.1 c.2]
      have := p2 c.1 i hi
      show ¬ B.1 < m + (q : Int) * h 107 (6 * g + i)
      omega
    · rw [zSl_n c]
      show ¬ B.1 < m
      by_cases q0 : q = 0
      · have := p1 q0; omega
      · have h1 := p2 (by omega) i hi
        have h2 := hI.prc g i (hg (by omega)).1 (by omega)
        have h3 := zmq (q := q) (p := h 107 (6 * g + i)) (hg (by omega)).2 h2.2.1 h2.2.2
        omega
  | n + 1, i, d, m, g, q, R, B, hi, hg, hh, hp => by
    obtain ⟨p1, p2⟩ := hp
    have hx := hI.isl
    have hx7 := hI.gds
    rw [show (((n + 1 : Nat) : Int)) * lm = (n : Int) * lm + lm by rw [Int.natCast_add, Int.add_mul]; omega] at p1 p2
    have hl0 := hl.1
    have key : ∀ m2, m2 + (n : Int) * lm + lm ≤ B.1 → zL2 h hold (zLg h hold L n) (L - (n + 1)) i d m2 g 0 R B = B := by
      intro m2 hm2
      unfold zL2
      rw [if_neg (by omega), zOff_id (fun t d' R' ht => zLg_poor hI hl n t d' m2 0 0 R' B ht (fun x => absurd x (by omega)) hh ⟨fun _ => by omega, fun x => absurd x (by omega)⟩)]
      refine zfo_id _ (fun g' hg' => zfo_id _ (fun q' hq' => ?_))
      unfold zBq
      split
      · refine zOff_id (fun t d' R' ht => zLg_poor hI hl n t d' _ g' (q' + 1) R' B ht (fun _ => ⟨by omega, by omega⟩) hh ⟨fun x => absurd x (by omega), fun _ j hj => ?_⟩)
        have := hl.2 g' i j (q' + 1) (by omega) hi hj (by omega)
        omega
      · rfl
    show zL2 h hold (zLg h hold L n) (L - (n + 1)) i d (zSl h i d m g q).1 g (zSl h i d m g q).2 R B = B
    by_cases c : 0 < q ∧ zdl h g i q (d : Int) = true
    · rw [zSl_y c.1 c.2]
      have := p2 c.1 i hi
      exact key _ (by omega)
    · rw [zSl_n c]
      by_cases q0 : q = 0
      · subst q0
        have := p1 rfl
        exact key m (by omega)
      · show zL2 h hold (zLg h hold L n) (L - (n + 1)) i d m g q R B = B
        unfold zL2
        rw [if_pos (by omega)]
        refine zOff_id (fun t d' R' ht => zLg_poor hI hl n t d' m g q R' B ht hg hh ⟨fun x => absurd x q0, fun a j hj => ?_⟩)
        have := p2 (by omega) j hj
        omega
theorem zfo_ge {f : Nat → zBs2 → zBs2} (h : ∀ k b, b.1 ≤ (f k b).1) (b : zBs2) : ∀ m, b.1 ≤ (zfo f m b).1
  | 0 => Int.le_refl _
  | m + 1 => Int.le_trans (zfo_ge h b m) (h m _)
theorem zOff_ge {h : zM} {F : zLF} {l i d : Nat} {m : Int} {g q : Nat} {a b : Int} {R : Nat → Int} (hF : ∀ (t d' : Nat) (R' : Nat → Int) (B : zBs2), B.1 ≤ (F t d' m g q R' B).1) (B : zBs2) : B.1 ≤ (zOff h F l i d m g q a b R B).1 := zfo_ge (fun k B => by
  show B.1 ≤ (if _ then _ else _ : zBs2).1
  split
  · exact Int.le_refl _
  · exact hF _ _ _ _) B _
theorem zLg_ge {h : zM} {hold L : Nat} : ∀ (n i d : Nat) (m : Int) (g q : Nat) (R : Nat → Int) (B : zBs2), B.1 ≤ (zLg h hold L n i d m g q R B).1
  | 0, i, d, m, g, q, R, B => by
    show B.1 ≤ (zUp B (zSl h i d m g q).1 R).1
    unfold zUp
    split
    · show B.1 ≤ (zSl h i d m g q).1; omega
    · exact Int.le_refl _
  | n + 1, i, d, m, g, q, R, B => by
    show B.1 ≤ (zL2 h hold (zLg h hold L n) (L - (n + 1)) i d (zSl h i d m g q).1 g (zSl h i d m g q).2 R B).1
    unfold zL2
    split
    · exact zOff_ge (fun t d' R' B => zLg_ge n t d' _ g _ R' B) B
    · refine Int.le_trans (zOff_ge (fun t d' R' B => zLg_ge n t d' _ 0 0 R' B) B) (zfo_ge (fun g' B => zfo_ge (fun q' B => ?_) B _) _ _)
      unfold zBq
      split
      · exact zOff_ge (fun t d' R' B => zLg_ge n t d' _ g' (q' + 1) R' B) B
      · exact Int.le_refl _
def zvGain (h : zM) (i m hold L s : Int) : Int := if ((0 ≤ i ∧ i < h 89 22) ∧ (0 ≤ m ∧ m ≤ 999) ∧ (1 ≤ hold ∧ hold ≤ 6)) ∧ (0 ≤ L ∧ L ≤ 3) ∧ (-1 ≤ s ∧ s < 3 * L) then (if (zLg h hold.toNat L.toNat L.toNat i.toNat (h 89 29).toNat m 0 0 (fun _ => -1) (-1, fun _ => -1)).1 = -1 then -1000000 else if s = -1 then (zLg h hold.toNat L.toNat L.toNat i.toNat (h 89 29).toNat m 0 0 (fun _ => -1) (-1, fun _ => -1)).1 - m else (zLg h hold.toNat L.toNat L.toNat i.toNat (h 89 29).toNat m 0 0 (fun _ => -1) (-1, fun _ => -1)).2 s.toNat) else -1000000
/-- the reference's state on the way -/
def zGs (h0 h : zM) (L hold : Nat) (B : zBs2) : Prop := zfr zSS h0 h ∧ zPm h0 h ∧ zDm h0 h ∧ h 89 45 = B.1 ∧ (B.1 ≠ -1 → ∀ j, j < 3 * L → h 112 j = B.2 j) ∧ h 89 46 = (hold : Int)
theorem zGs_Y {h0 h h' : zM} {L hold : Nat} {B : zBs2} (H : zGs h0 h L hold B) (Y : zfY 110 h h' ∧ zPm h0 h' ∧ zDm h0 h') : zGs h0 h' L hold B ∧ h' 111 = h 111 := by
  obtain ⟨a, b, c, d, e, f⟩ := H
  refine ⟨⟨zfr_Y a (by decide) Y.1, Y.2.1, Y.2.2, ?_, ?_, ?_⟩, Y.1.1 111 (by decide) (by decide) (by decide) (by decide)⟩
  · rw [Y.1.2 45 rfl]; exact d
  · rw [Y.1.1 112 (by decide) (by decide) (by decide) (by decide)]; exact e
  · rw [Y.1.2 46 rfl]; exact f
theorem zGs_up {h0 h : zM} {L hold : Nat} {B : zBs2} {j : Nat} {x : Int} (H : zGs h0 h L hold B) : zGs h0 (zup h 111 j x) L hold B := by
  obtain ⟨a, b, c, d, e, f⟩ := H
  exact ⟨zfr_up a rfl, zPm_cg b (zup_row (by decide)) (zup_row (by decide)), zDm_cg c (zup_row (by decide)), by rw [zup_row (by decide)]; exact d, by rw [zup_row (by decide)]; exact e, by rw [zup_row (by decide)]; exact f⟩
theorem zrt_o {R : Nat → Int} {l j : Nat} {a b c : Int} (h : j < 3 * l) : zrt R l a b c j = R j := by
  unfold zrt; rw [if_neg (by omega), if_neg (by omega), if_neg (by omega)]
set_option maxRecDepth 4000 in
theorem X9_goOff_l {l : Launch} {Γ : zC} {h0 : zM} (hI : zIv Γ h0) {L hold : Nat} (hL : L ≤ 3) (hh : 1 ≤ hold ∧ hold ≤ 6) {n : Nat} (hn : n + 1 ≤ L) (hR : ∀ {i d g q : Nat} {m gI : Int} {R : Nat → Int} {B : zBs2} {h : zM} {Q : Option zV → zC → zM → Prop}, (i : Int) < h0 89 22 → d < 100 → (0 ≤ m ∧ m + 594 * ((n : Nat) + 1) ≤ 3400) → (0 < q → gI = (g : Int) ∧ (g : Int) < h0 89 39 ∧ q ≤ 6) → zGs h0 h L hold B → (∀ j, j < 3 * (L - n) → h 111 j = R j) → (∀ h9, zGs h0 h9 L hold (zLg h0 hold L n i d m g q R B) → (∀ j, j < 3 * (L - n) → h9 111 j = R j) → Q none Γ h9) → zCT l mX9_goLeg (1685 + 2 * n) 0 0 Γ [zR 89, zI ((L - n : Nat) : Int), zI (L : Int), zI (i : Int), zI (d : Int), zI m, zI gI, zI (q : Int)] h Q) {i d g q : Nat} {m gI a b : Int} {R : Nat → Int} {B : zBs2} {Q : Option zV → zC → zM → Prop} (hi : (i : Int) < h0 89 22) (hd : d < 100) (hm9 : (0 ≤ m ∧ m + 594 * ((n : Nat) + 1) ≤ 3400)) (hg : (0 < q → gI = (g : Int) ∧ (g : Int) < h0 89 39 ∧ q ≤ 6)) (hQ : ∀ h9, zGs h0 h9 L hold (zOff h0 (zLg h0 hold L n) (L - (n + 1)) i d m g q a b R B) → (∀ j, j < 3 * (L - (n + 1)) → h9 111 j = R j) → Q none Γ h9) : ∀ (mm : Nat) (t : Nat) (y : Option zV) (h : zM), (h0 89 22).toNat - t < mm → t ≤ (h0 89 22).toNat → zGs h0 h L hold (zfo (zOs h0 (zLg h0 hold L n) (L - (n + 1)) i d m g q a b R) t B) → (∀ j, j < 3 * (L - (n + 1)) → h 111 j = R j) → h 111 (3 * (L - (n + 1))) = a → h 111 (3 * (L - (n + 1)) + 1) = b → zG (zFn l mX9_goOff (1686 + 2 * n) 0 0 Γ Q) 0 0 Γ h 25 [some (zR 89), some (zI ((L - (n + 1) : Nat) : Int)), some (zI (L : Int)), some (zI (i : Int)), some (zI (d : Int)), some (zI m), some (zI gI), some (zI (q : Int)), some (zI a), some (zI b), some (zI (t : Int)), y] [] := by
  have hΓ := hI.base
  have hx2 := hI.isl
  have hx7 := hI.gds
  have hnw := hI.now
  intro mm
  induction mm with
  | zero => intros; omega
  | succ mm ih =>
    intro t y h hm ht hS hRt hA hB
    have hF := hS.1
    refine z_il10 dX9_goOff_25 ?_
    refine z_al0 dX9_goOff_27 (by first | decide | omega | assumption) ?_
    refine z_getI zfX9_276 dX9_goOff_28 (zkB hΓ rfl) rfl ?_
    rw [hF 89 22 rfl]
    try simp only [zup_ap, zup_row, ne_eq, not_false_eq_true, zres, Int.toNat_natCast, reduceIte, Nat.reduceEqDiff, Nat.reduceAdd, and_self, and_true, true_and, and_false, false_and]
    refine z_icmp_ge (t := 100) dX9_goOff_31 (by rfl) (fun ht31 => ?_) (fun hf31 => ?_)
    · refine z_ret dX9_goOff_100 rfl (Nat.le_refl _) (Nat.le_refl _) (zext_rf _) ?_
      rw [show t = (h0 89 22).toNat by omega] at hS
      exact hQ h hS hRt
    · refine z_al0 dX9_goOff_34 (by first | decide | omega | assumption) ?_
      refine z_getR zfX9_43 dX9_goOff_35 (zkB hΓ rfl) rfl (zsB hΓ rfl) (zvB hΓ (by decide)) ?_
      refine z_bipush (x := 6) dX9_goOff_38 (by rfl) (by decide) ?_
      refine z_il3 dX9_goOff_40 ?_
      refine z_imul dX9_goOff_41 (by omega) ?_
      refine z_il10 dX9_goOff_42 ?_
      refine z_iadd dX9_goOff_44 (by omega) ?_
      refine z_iald dX9_goOff_45 (zkB hΓ rfl) (by omega) (by omega) ?_
      try simp only [Int.toNat_natCast]
      rw [hF 96 _ rfl, show ((6 : Int) * (i : Int) + (t : Int)).toNat = 6 * i + t by omega]
      have hdy := (hI.day i t (by omega) (by omega)).2
      try simp only [zup_ap, zup_row, ne_eq, not_false_eq_true, zres, Int.toNat_natCast, reduceIte, Nat.reduceEqDiff, Nat.reduceAdd, and_self, and_true, true_and, and_false, false_and]
      refine z_is11 dX9_goOff_46 (Nat.le_of_ble_eq_true rfl) rfl ?_
      refine z_il11 dX9_goOff_48 ?_
      refine z_if_ne (t := 56) dX9_goOff_50 (by rfl) (fun ht50 => ?_) (fun hf50 => ?_)
      · refine z_al0 dX9_goOff_56 (by first | decide | omega | assumption) ?_
        refine z_getR zfX9_98 dX9_goOff_57 (zkB hΓ rfl) rfl (zsB hΓ rfl) (zvB hΓ (by decide)) ?_
        refine z_iconst dX9_goOff_60 (by decide) ?_
        refine z_il1 dX9_goOff_61 ?_
        refine z_imul dX9_goOff_62 (by omega) ?_
        refine z_iconst dX9_goOff_63 (by decide) ?_
        refine z_iadd dX9_goOff_64 (by omega) ?_
        refine z_il10 dX9_goOff_65 ?_
        refine z_iast dX9_goOff_67 (zkB hΓ rfl) (by omega) (by omega) ?_
        refine z_al0 dX9_goOff_68 (by first | decide | omega | assumption) ?_
        refine z_il1 dX9_goOff_69 ?_
        refine z_iconst dX9_goOff_70 (by decide) ?_
        refine z_iadd dX9_goOff_71 (by omega) ?_
        refine z_il2 dX9_goOff_72 ?_
        refine z_il10 dX9_goOff_73 ?_
        refine z_bipush (x := 99) dX9_goOff_75 (by rfl) (by decide) ?_
        refine z_il4 dX9_goOff_77 ?_
        refine z_il11 dX9_goOff_79 ?_
        refine z_iadd dX9_goOff_81 (by omega) ?_
        refine z_mmin dX9_goOff_82 zkX9_347 ztJ9_min_7cf53 (Nat.le_of_ble_eq_true rfl) (by first | decide | omega) ⟨Nat.le_refl _, Nat.le_refl _⟩ ?_
        refine z_il5 dX9_goOff_85 ?_
        refine z_il6 dX9_goOff_87 ?_
        refine z_il7 dX9_goOff_89 ?_
        rw [show ((L - (n + 1) : Nat) : Int) + 1 = ((L - n : Nat) : Int) by omega, show (if (d : Int) + h0 96 (6 * i + t) < (99 : Int) then (d : Int) + h0 96 (6 * i + t) else (99 : Int)) = ((zdn h0 d i t : Nat) : Int) by unfold zdn; split <;> omega]
        refine zcv7 dX9_goOff_91 zkX9_405 ziX9_goLeg zsX9_goLeg (zkB hΓ rfl) (by decide) rfl (Nat.le_of_ble_eq_true rfl) (by decide) (by first | decide | omega) ⟨Nat.le_refl _, Nat.le_refl _⟩ (hR (i := t) (d := zdn h0 d i t) (g := g) (q := q) (R := zrt R (L - (n + 1)) a b (t : Int)) (B := zfo (zOs h0 (zLg h0 hold L n) (L - (n + 1)) i d m g q a b R) t B) (by omega) (by unfold zdn; omega) hm9 hg (zGs_up hS) (fun j hj => by
              by_cases ej : j = 3 * (L - (n + 1)) + 2
              · rw [ej, zup_ap]
                refine (if_pos ⟨rfl, by omega⟩).trans ?_
                unfold zrt; rw [if_neg (by omega), if_neg (by omega), if_pos rfl]
              · rw [zup_ap, if_neg (fun x => ej (by have := x.2; omega))]
                by_cases e0 : j = 3 * (L - (n + 1))
                · rw [e0, hA]; exact (if_pos rfl).symm
                · by_cases e1 : j = 3 * (L - (n + 1)) + 1
                  · rw [e1, hB]; exact ((if_neg (by omega)).trans (if_pos rfl)).symm
                  · rw [hRt j (by omega), zrt_o (by omega)]) (fun h9 hS9 hR9 _ => ?_))
        try simp only [zup_ap, zup_row, ne_eq, not_false_eq_true, zres, Int.toNat_natCast, reduceIte, Nat.reduceEqDiff, Nat.reduceAdd, and_self, and_true, true_and, and_false, false_and]
        refine z_ii10 dX9_goOff_94 (by omega) (Nat.le_of_ble_eq_true rfl) rfl ?_
        refine z_goto (t := 25) dX9_goOff_97 (by rfl) ?_
        first
        | (refine ih (t + 1) _ _ (by omega) (by omega) ?_ hRt hA hB
           show zGs h0 _ L hold (if _ = 0 then _ else _)
           rw [if_pos (by omega)]
           exact hS)
        | (refine ih (t + 1) _ _ (by omega) (by omega) ?_ (fun j hj => by rw [hR9 j (by omega), zrt_o (by omega)]) (by rw [hR9 _ (by omega)]; exact if_pos rfl) (by rw [hR9 _ (by omega)]; exact (if_neg (by omega)).trans (if_pos rfl))
           show zGs h0 _ L hold (if _ = 0 then _ else _)
           rw [if_neg (by omega)]
           exact hS9)
      · refine z_goto (t := 94) dX9_goOff_53 (by rfl) ?_
        refine z_ii10 dX9_goOff_94 (by omega) (Nat.le_of_ble_eq_true rfl) rfl ?_
        refine z_goto (t := 25) dX9_goOff_97 (by rfl) ?_
        first
        | (refine ih (t + 1) _ _ (by omega) (by omega) ?_ hRt hA hB
           show zGs h0 _ L hold (if _ = 0 then _ else _)
           rw [if_pos (by omega)]
           exact hS)
        | (refine ih (t + 1) _ _ (by omega) (by omega) ?_ (fun j hj => by rw [hR9 j (by omega), zrt_o (by omega)]) (by rw [hR9 _ (by omega)]; exact if_pos rfl) (by rw [hR9 _ (by omega)]; exact (if_neg (by omega)).trans (if_pos rfl))
           show zGs h0 _ L hold (if _ = 0 then _ else _)
           rw [if_neg (by omega)]
           exact hS9)
set_option maxRecDepth 4000 in
theorem X9_goOff_ct {l : Launch} {Γ : zC} {h0 : zM} (hI : zIv Γ h0) {L hold : Nat} (hL : L ≤ 3) (hh : 1 ≤ hold ∧ hold ≤ 6) {n : Nat} (hn : n + 1 ≤ L) (hR : ∀ {i d g q : Nat} {m gI : Int} {R : Nat → Int} {B : zBs2} {h : zM} {Q : Option zV → zC → zM → Prop}, (i : Int) < h0 89 22 → d < 100 → (0 ≤ m ∧ m + 594 * ((n : Nat) + 1) ≤ 3400) → (0 < q → gI = (g : Int) ∧ (g : Int) < h0 89 39 ∧ q ≤ 6) → zGs h0 h L hold B → (∀ j, j < 3 * (L - n) → h 111 j = R j) → (∀ h9, zGs h0 h9 L hold (zLg h0 hold L n i d m g q R B) → (∀ j, j < 3 * (L - n) → h9 111 j = R j) → Q none Γ h9) → zCT l mX9_goLeg (1685 + 2 * n) 0 0 Γ [zR 89, zI ((L - n : Nat) : Int), zI (L : Int), zI (i : Int), zI (d : Int), zI m, zI gI, zI (q : Int)] h Q) {i d g q : Nat} {m gI a b : Int} {R : Nat → Int} {B : zBs2} {Q : Option zV → zC → zM → Prop} {h : zM} (hi : (i : Int) < h0 89 22) (hd : d < 100) (hm9 : (0 ≤ m ∧ m + 594 * ((n : Nat) + 1) ≤ 3400)) (hg : (0 < q → gI = (g : Int) ∧ (g : Int) < h0 89 39 ∧ q ≤ 6)) (hS : zGs h0 h L hold B) (hRt : ∀ j, j < 3 * (L - (n + 1)) → h 111 j = R j) (hQ : ∀ h9, zGs h0 h9 L hold (zOff h0 (zLg h0 hold L n) (L - (n + 1)) i d m g q a b R B) → (∀ j, j < 3 * (L - (n + 1)) → h9 111 j = R j) → Q none Γ h9) : zCT l mX9_goOff (1686 + 2 * n) 0 0 Γ [zR 89, zI ((L - (n + 1) : Nat) : Int), zI (L : Int), zI (i : Int), zI (d : Int), zI m, zI gI, zI (q : Int), zI a, zI b] h Q := by
  have hΓ := hI.base
  have hx2 := hI.isl
  have hx7 := hI.gds
  have hnw := hI.now
  refine zCT_of (by decide) (Nat.le_of_ble_eq_true rfl) (ls := [some (zR 89), some (zI ((L - (n + 1) : Nat) : Int)), some (zI (L : Int)), some (zI (i : Int)), some (zI (d : Int)), some (zI m), some (zI gI), some (zI (q : Int)), some (zI a), some (zI b), none, none]) rfl ?_
  refine z_al0 dX9_goOff_0 (by first | decide | omega | assumption) ?_
  refine z_getR zfX9_98 dX9_goOff_1 (zkB hΓ rfl) rfl (zsB hΓ rfl) (zvB hΓ (by decide)) ?_
  refine z_iconst dX9_goOff_4 (by decide) ?_
  refine z_il1 dX9_goOff_5 ?_
  refine z_imul dX9_goOff_6 (by omega) ?_
  refine z_il8 dX9_goOff_7 ?_
  refine z_iast dX9_goOff_9 (zkB hΓ rfl) (by omega) (by omega) ?_
  refine z_al0 dX9_goOff_10 (by first | decide | omega | assumption) ?_
  refine z_getR zfX9_98 dX9_goOff_11 (zkB hΓ rfl) rfl (zsB hΓ rfl) (zvB hΓ (by decide)) ?_
  refine z_iconst dX9_goOff_14 (by decide) ?_
  refine z_il1 dX9_goOff_15 ?_
  refine z_imul dX9_goOff_16 (by omega) ?_
  refine z_iconst dX9_goOff_17 (by decide) ?_
  refine z_iadd dX9_goOff_18 (by omega) ?_
  refine z_il9 dX9_goOff_19 ?_
  refine z_iast dX9_goOff_21 (zkB hΓ rfl) (by omega) (by omega) ?_
  refine z_iconst dX9_goOff_22 (by decide) ?_
  refine z_is10 dX9_goOff_23 (Nat.le_of_ble_eq_true rfl) rfl ?_
  refine X9_goOff_l hI hL hh hn hR hi hd hm9 hg hQ _ 0 _ _ (Nat.lt_succ_self _) (by omega) (zGs_up (zGs_up hS)) (fun j hj => ?_) ?_ ?_
  · rw [zup_ap, if_neg (fun x => (by have := x.2; omega)), zup_ap, if_neg (fun x => (by have := x.2; omega))]; exact hRt j hj
  · rw [zup_ap, if_neg (fun x => (by have := x.2; omega)), zup_ap]; exact if_pos ⟨rfl, by omega⟩
  · rw [zup_ap]; exact if_pos ⟨rfl, by omega⟩
set_option maxRecDepth 4000 in
theorem X9_gL_c {l : Launch} {Γ : zC} {h1 : zM} {L : Nat} {i d q : Nat} {m gI : Int} {Q : Option zV → zC → zM → Prop} {m2 : Int} {x y : Option zV} {hs : Nat} {leg : Nat} (hΓ : zBase Γ) (hQ : ∀ h9, (∀ r, r ≠ 112 → h9 r = h1 r) → (∀ j, j < 9 → h9 112 j = h1 111 j) → Q none Γ h9) : ∀ (mm : Nat) (k : Nat) (h : zM), 9 - k < mm → k ≤ 9 → (∀ r, r ≠ 112 → h r = h1 r) → (∀ j, j < k → h 112 j = h1 111 j) → zG (zFn l mX9_goLeg 1685 0 0 Γ Q) 0 0 Γ h 74 [some (zR 89), some (zI ((leg : Nat) : Int)), some (zI (L : Int)), some (zI (i : Int)), some (zI (d : Int)), some (zI m), some (zI gI), some (zI (q : Int)), some (zI m2), some (zI (hs : Int)), some (zI (k : Int)), x, y] [] := by
  intro mm
  induction mm with
  | zero => intros; omega
  | succ mm ih =>
    intro k h hm hk hE hD
    refine z_il10 dX9_goLeg_74 ?_
    refine z_bipush (x := 9) dX9_goLeg_76 (by rfl) (by decide) ?_
    refine z_icmp_ge (t := 101) dX9_goLeg_78 (by rfl) (fun ht78 => ?_) (fun hf78 => ?_)
    · refine z_ret dX9_goLeg_101 rfl (Nat.le_refl _) (Nat.le_refl _) (zext_rf _) ?_
      exact hQ h hE (fun j hj => hD j (by omega))
    · refine z_al0 dX9_goLeg_81 (by first | decide | omega | assumption) ?_
      refine z_getR zfX9_101 dX9_goLeg_82 (zkB hΓ rfl) rfl (zsB hΓ rfl) (zvB hΓ (by decide)) ?_
      refine z_il10 dX9_goLeg_85 ?_
      refine z_al0 dX9_goLeg_87 (by first | decide | omega | assumption) ?_
      refine z_getR zfX9_98 dX9_goLeg_88 (zkB hΓ rfl) rfl (zsB hΓ rfl) (zvB hΓ (by decide)) ?_
      refine z_il10 dX9_goLeg_91 ?_
      refine z_iald dX9_goLeg_93 (zkB hΓ rfl) (by omega) (by omega) ?_
      try simp only [Int.toNat_natCast]
      try simp only [zup_ap, zup_row, ne_eq, not_false_eq_true, zres, Int.toNat_natCast, reduceIte, Nat.reduceEqDiff, Nat.reduceAdd, and_self, and_true, true_and, and_false, false_and]
      refine z_iast dX9_goLeg_94 (zkB hΓ rfl) (by omega) (by omega) ?_
      refine z_ii10 dX9_goLeg_95 (by omega) (Nat.le_of_ble_eq_true rfl) rfl ?_
      refine z_goto (t := 74) dX9_goLeg_98 (by rfl) ?_
      refine ih (k + 1) _ (by omega) (by omega) (fun r hr => (zup_row hr).trans (hE r hr)) (fun j hj => ?_)
      by_cases ej : j = k
      · subst ej; rw [zup_ap]
        refine (if_pos ⟨rfl, by omega⟩).trans ?_
        rw [hE 111 (by decide)]
      · rw [zup_ap, if_neg (fun x => ej (by have := x.2; omega))]; exact hD j (by omega)
set_option maxRecDepth 4000 in
theorem X9_gL_0 {l : Launch} {Γ : zC} {h0 h : zM} (hI : zIv Γ h0) {L hold : Nat} (hL : L ≤ 3) (hh : 1 ≤ hold ∧ hold ≤ 6) {i d q : Nat} {m gI : Int} {Q : Option zV → zC → zM → Prop} {m2 : Int} {R : Nat → Int} {B : zBs2} {hs : Nat} (hS : zGs h0 h L hold B) (hRt : ∀ j, j < 3 * (L - 0) → h 111 j = R j) (hQ : ∀ h9, zGs h0 h9 L hold (zUp B m2 R) → (∀ j, j < 3 * (L - 0) → h9 111 j = R j) → Q none Γ h9) : zG (zFn l mX9_goLeg 1685 0 0 Γ Q) 0 0 Γ h 50 [some (zR 89), some (zI ((L - 0 : Nat) : Int)), some (zI (L : Int)), some (zI (i : Int)), some (zI (d : Int)), some (zI m), some (zI gI), some (zI (q : Int)), some (zI m2), some (zI (hs : Int)), none, none, none] [] := by
  have hΓ := hI.base
  have hx2 := hI.isl
  have hx7 := hI.gds
  have hnw := hI.now
  refine z_il1 dX9_goLeg_50 ?_
  refine z_il2 dX9_goLeg_51 ?_
  refine z_icmp_ne (t := 102) dX9_goLeg_52 (by rfl) (fun ht52 => ?_) (fun hf52 => ?_)
  · exfalso; omega
  · refine z_il8 dX9_goLeg_55 ?_
    refine z_al0 dX9_goLeg_57 (by first | decide | omega | assumption) ?_
    refine z_getI zfX9_395 dX9_goLeg_58 (zkB hΓ rfl) rfl ?_
    try rw [hS.2.2.2.1]
    try simp only [zup_ap, zup_row, ne_eq, not_false_eq_true, zres, Int.toNat_natCast, reduceIte, Nat.reduceEqDiff, Nat.reduceAdd, and_self, and_true, true_and, and_false, false_and]
    refine z_icmp_gt (t := 65) dX9_goLeg_61 (by rfl) (fun ht61 => ?_) (fun hf61 => ?_)
    · refine z_al0 dX9_goLeg_65 (by first | decide | omega | assumption) ?_
      refine z_il8 dX9_goLeg_66 ?_
      refine z_putI zfX9_395 dX9_goLeg_68 (zkB hΓ rfl) rfl rfl ?_
      refine z_iconst dX9_goLeg_71 (by decide) ?_
      refine z_is10 dX9_goLeg_72 (Nat.le_of_ble_eq_true rfl) rfl ?_
      refine X9_gL_c hΓ (fun h9 hE9 hD9 => ?_) _ 0 _ (Nat.lt_succ_self _) (by omega) (fun _ _ => rfl) (fun j hj => absurd hj (by omega))
      obtain ⟨s1, s2, s3, s4, s5, s6⟩ := hS
      have h111 : h9 111 = h 111 := by rw [hE9 111 (by decide), zup_row (by decide)]
      refine hQ h9 ?_ (fun j hj => by rw [h111]; exact hRt j hj)
      have e9 : zUp B m2 R = (m2, R) := if_pos (by omega)
      rw [e9]
      refine ⟨zfr_1 (zfr_up s1 rfl) (fun _ => rfl) hE9, zPm_cg s2 (by rw [hE9 108 (by decide), zup_row (by decide)]) (by rw [hE9 109 (by decide), zup_row (by decide)]), zDm_cg s3 (by rw [hE9 110 (by decide), zup_row (by decide)]), by rw [hE9 89 (by decide)]; rfl, fun _ j hj => ?_, by rw [hE9 89 (by decide)]; exact s6⟩
      rw [hD9 j (by omega), zup_row (by decide)]
      exact hRt j (by omega)
    · refine z_ret dX9_goLeg_64 rfl (Nat.le_refl _) (Nat.le_refl _) (zext_rf _) ?_
      have e9 : zUp B m2 R = B := if_neg (by omega)
      refine hQ h ?_ hRt
      rw [e9]; exact hS
set_option maxRecDepth 4000 in
theorem X9_gL_q {l : Launch} {Γ : zC} {h0 : zM} (hI : zIv Γ h0) {L hold : Nat} (hL : L ≤ 3) (hh : 1 ≤ hold ∧ hold ≤ 6) {n : Nat} (hn : n + 1 ≤ L) (hR : ∀ {i d g q : Nat} {m gI : Int} {R : Nat → Int} {B : zBs2} {h : zM} {Q : Option zV → zC → zM → Prop}, (i : Int) < h0 89 22 → d < 100 → (0 ≤ m ∧ m + 594 * ((n : Nat) + 1) ≤ 3400) → (0 < q → gI = (g : Int) ∧ (g : Int) < h0 89 39 ∧ q ≤ 6) → zGs h0 h L hold B → (∀ j, j < 3 * (L - n) → h 111 j = R j) → (∀ h9, zGs h0 h9 L hold (zLg h0 hold L n i d m g q R B) → (∀ j, j < 3 * (L - n) → h9 111 j = R j) → Q none Γ h9) → zCT l mX9_goLeg (1685 + 2 * n) 0 0 Γ [zR 89, zI ((L - n : Nat) : Int), zI (L : Int), zI (i : Int), zI (d : Int), zI m, zI gI, zI (q : Int)] h Q) {i d q : Nat} {m gI m2 : Int} {R : Nat → Int} {Q : Option zV → zC → zM → Prop} {g9 : Nat} {B : zBs2} (hi : (i : Int) < h0 89 22) (hd : d < 100) (hm9 : 0 ≤ m2 ∧ m2 + 594 * ((n : Nat) + 1) ≤ 3400) (hg9 : (g9 : Int) < h0 89 39) (hK : ∀ (h9 : zM) (y z : Option zV), zGs h0 h9 L hold (zfo (zBq h0 (zLg h0 hold L n) (L - (n + 1)) i d m2 g9 R) hold B) → (∀ j, j < 3 * (L - (n + 1)) → h9 111 j = R j) → zG (zFn l mX9_goLeg (1685 + 2 * (n + 1)) 0 0 Γ Q) 0 0 Γ h9 223 [some (zR 89), some (zI ((L - (n + 1) : Nat) : Int)), some (zI (L : Int)), some (zI (i : Int)), some (zI (d : Int)), some (zI m), some (zI gI), some (zI (q : Int)), some (zI m2), some (zI 0), some (zI (g9 : Int)), y, z] []) : ∀ (mm : Nat) (k : Nat) (z : Option zV) (h : zM), hold - k < mm → k ≤ hold → zGs h0 h L hold (zfo (zBq h0 (zLg h0 hold L n) (L - (n + 1)) i d m2 g9 R) k B) → (∀ j, j < 3 * (L - (n + 1)) → h 111 j = R j) → zG (zFn l mX9_goLeg (1685 + 2 * (n + 1)) 0 0 Γ Q) 0 0 Γ h 148 [some (zR 89), some (zI ((L - (n + 1) : Nat) : Int)), some (zI (L : Int)), some (zI (i : Int)), some (zI (d : Int)), some (zI m), some (zI gI), some (zI (q : Int)), some (zI m2), some (zI 0), some (zI (g9 : Int)), some (zI ((k + 1 : Nat) : Int)), z] [] := by
  have hΓ := hI.base
  have hx2 := hI.isl
  have hx7 := hI.gds
  have hnw := hI.now
  intro mm
  induction mm with
  | zero => intros; omega
  | succ mm ih =>
    intro k z h hm hk hS hRt
    have hF := hS.1
    refine z_il11 dX9_goLeg_148 ?_
    refine z_al0 dX9_goLeg_150 (by first | decide | omega | assumption) ?_
    refine z_getI zfX9_402 dX9_goLeg_151 (zkB hΓ rfl) rfl ?_
    rw [hS.2.2.2.2.2]
    try simp only [zup_ap, zup_row, ne_eq, not_false_eq_true, zres, Int.toNat_natCast, reduceIte, Nat.reduceEqDiff, Nat.reduceAdd, and_self, and_true, true_and, and_false, false_and]
    refine z_icmp_gt (t := 223) dX9_goLeg_154 (by rfl) (fun ht154 => ?_) (fun hf154 => ?_)
    · have ek : k = hold := by omega
      subst ek
      exact hK _ _ _ hS hRt
    · refine z_il11 dX9_goLeg_157 ?_
      refine z_al0 dX9_goLeg_159 (by first | decide | omega | assumption) ?_
      refine z_getR zfX9_85 dX9_goLeg_160 (zkB hΓ rfl) rfl (zsB hΓ rfl) (zvB hΓ (by decide)) ?_
      refine z_bipush (x := 6) dX9_goLeg_163 (by rfl) (by decide) ?_
      refine z_il10 dX9_goLeg_165 ?_
      refine z_imul dX9_goLeg_167 (by omega) ?_
      refine z_il3 dX9_goLeg_168 ?_
      refine z_iadd dX9_goLeg_169 (by omega) ?_
      refine z_iald dX9_goLeg_170 (zkB hΓ rfl) (by omega) (by omega) ?_
      try simp only [Int.toNat_natCast]
      rw [hF 107 _ rfl, show ((6 : Int) * (g9 : Int) + (i : Int)).toNat = 6 * g9 + i by omega]
      have hp8 := (hI.prc g9 i (by omega) (by omega)).2
      have hm8 := zmq (q := k + 1) (p := h0 107 (6 * g9 + i)) (by omega) hp8.1 hp8.2
      try simp only [zup_ap, zup_row, ne_eq, not_false_eq_true, zres, Int.toNat_natCast, reduceIte, Nat.reduceEqDiff, Nat.reduceAdd, and_self, and_true, true_and, and_false, false_and]
      refine z_imul dX9_goLeg_171 (by omega) ?_
      refine z_is12 dX9_goLeg_172 (Nat.le_of_ble_eq_true rfl) rfl ?_
      refine z_il12 dX9_goLeg_174 ?_
      refine z_il8 dX9_goLeg_176 ?_
      refine z_icmp_gt (t := 217) dX9_goLeg_178 (by rfl) (fun ht178 => ?_) (fun hf178 => ?_)
      · refine z_ii11 dX9_goLeg_217 (by omega) (Nat.le_of_ble_eq_true rfl) rfl ?_
        refine z_goto (t := 148) dX9_goLeg_220 (by rfl) ?_
        first
        | (refine ih (k + 1) _ _ (by omega) (by omega) ?_ hR9
           show zGs h0 _ L hold (if _ ∧ _ then _ else _)
           rw [if_pos ⟨by omega, hp9⟩]
           exact hS9)
        | (refine ih (k + 1) _ _ (by omega) (by omega) ?_ (fun j hj => by rw [hS3.2]; exact hRt j hj)
           show zGs h0 _ L hold (if _ ∧ _ then _ else _)
           rw [if_neg (fun x => by rw [hp9] at x; exact absurd x.2 (by decide))]
           exact hS3.1)
        | (refine ih (k + 1) _ _ (by omega) (by omega) ?_ hRt
           show zGs h0 _ L hold (if _ ∧ _ then _ else _)
           rw [if_neg (fun x => (by have := x.1; omega))]
           exact hS)
      · refine z_al0 dX9_goLeg_181 (by first | decide | omega | assumption) ?_
        refine z_il10 dX9_goLeg_182 ?_
        refine z_il3 dX9_goLeg_184 ?_
        refine z_il11 dX9_goLeg_185 ?_
        refine z_il4 dX9_goLeg_187 ?_
        refine zcv4 dX9_goLeg_189 zkX9_392 ziX9_isDeal zsX9_isDeal (zkB hΓ rfl) (by decide) rfl (Nat.le_of_ble_eq_true rfl) (by decide) (by first | decide | omega) ⟨Nat.le_refl _, Nat.le_refl _⟩ (X9_isDeal_ct (q := k + 1) hI hF hg9 hi (by omega) hd hS.2.1 hS.2.2.1 (fun hp9 h3 hY3 _ => ?_) (fun hp9 h3 hY3 _ => ?_))
        · try simp only [zup_ap, zup_row, ne_eq, not_false_eq_true, zres, Int.toNat_natCast, reduceIte, Nat.reduceEqDiff, Nat.reduceAdd, and_self, and_true, true_and, and_false, false_and]
          have hS3 := zGs_Y hS hY3
          replace hF := hS3.1.1
          refine z_if_eq (t := 217) dX9_goLeg_192 (by rfl) (fun _ => ?_) (fun hx => absurd hx (by decide))
          refine z_ii11 dX9_goLeg_217 (by omega) (Nat.le_of_ble_eq_true rfl) rfl ?_
          refine z_goto (t := 148) dX9_goLeg_220 (by rfl) ?_
          first
          | (refine ih (k + 1) _ _ (by omega) (by omega) ?_ hR9
             show zGs h0 _ L hold (if _ ∧ _ then _ else _)
             rw [if_pos ⟨by omega, hp9⟩]
             exact hS9)
          | (refine ih (k + 1) _ _ (by omega) (by omega) ?_ (fun j hj => by rw [hS3.2]; exact hRt j hj)
             show zGs h0 _ L hold (if _ ∧ _ then _ else _)
             rw [if_neg (fun x => by rw [hp9] at x; exact absurd x.2 (by decide))]
             exact hS3.1)
          | (refine ih (k + 1) _ _ (by omega) (by omega) ?_ hRt
             show zGs h0 _ L hold (if _ ∧ _ then _ else _)
             rw [if_neg (fun x => (by have := x.1; omega))]
             exact hS)
        · try simp only [zup_ap, zup_row, ne_eq, not_false_eq_true, zres, Int.toNat_natCast, reduceIte, Nat.reduceEqDiff, Nat.reduceAdd, and_self, and_true, true_and, and_false, false_and]
          have hS3 := zGs_Y hS hY3
          replace hF := hS3.1.1
          refine z_if_eq (t := 217) dX9_goLeg_192 (by rfl) (fun hx => absurd hx (by decide)) (fun _ => ?_)
          refine z_al0 dX9_goLeg_195 (by first | decide | omega | assumption) ?_
          refine z_il1 dX9_goLeg_196 ?_
          refine z_il2 dX9_goLeg_197 ?_
          refine z_il3 dX9_goLeg_198 ?_
          refine z_il4 dX9_goLeg_199 ?_
          refine z_il8 dX9_goLeg_201 ?_
          refine z_il12 dX9_goLeg_203 ?_
          refine z_isub dX9_goLeg_205 (by omega) ?_
          refine z_il10 dX9_goLeg_206 ?_
          refine z_il11 dX9_goLeg_208 ?_
          refine z_il10 dX9_goLeg_210 ?_
          refine z_il11 dX9_goLeg_212 ?_
          refine zcv9 dX9_goLeg_214 zkX9_398 ziX9_goOff zsX9_goOff (zkB hΓ rfl) (by decide) rfl (Nat.le_of_ble_eq_true rfl) (by decide) (by first | decide | omega) ⟨Nat.le_refl _, Nat.le_refl _⟩ (X9_goOff_ct hI hL hh hn hR (g := g9) (q := k + 1) (gI := (g9 : Int)) (a := (g9 : Int)) (b := ((k + 1 : Nat) : Int)) (R := R) hi hd (by omega) (fun _ => ⟨rfl, hg9, by omega⟩) hS3.1 (fun j hj => by rw [hS3.2]; exact hRt j hj) (fun h9 hS9 hR9 _ => ?_))
          try simp only [zup_ap, zup_row, ne_eq, not_false_eq_true, zres, Int.toNat_natCast, reduceIte, Nat.reduceEqDiff, Nat.reduceAdd, and_self, and_true, true_and, and_false, false_and]
          refine z_ii11 dX9_goLeg_217 (by omega) (Nat.le_of_ble_eq_true rfl) rfl ?_
          refine z_goto (t := 148) dX9_goLeg_220 (by rfl) ?_
          first
          | (refine ih (k + 1) _ _ (by omega) (by omega) ?_ hR9
             show zGs h0 _ L hold (if _ ∧ _ then _ else _)
             rw [if_pos ⟨by omega, hp9⟩]
             exact hS9)
          | (refine ih (k + 1) _ _ (by omega) (by omega) ?_ (fun j hj => by rw [hS3.2]; exact hRt j hj)
             show zGs h0 _ L hold (if _ ∧ _ then _ else _)
             rw [if_neg (fun x => by rw [hp9] at x; exact absurd x.2 (by decide))]
             exact hS3.1)
          | (refine ih (k + 1) _ _ (by omega) (by omega) ?_ hRt
             show zGs h0 _ L hold (if _ ∧ _ then _ else _)
             rw [if_neg (fun x => (by have := x.1; omega))]
             exact hS)
set_option maxRecDepth 4000 in
theorem X9_gL_g {l : Launch} {Γ : zC} {h0 : zM} (hI : zIv Γ h0) {L hold : Nat} (hL : L ≤ 3) (hh : 1 ≤ hold ∧ hold ≤ 6) {n : Nat} (hn : n + 1 ≤ L) (hR : ∀ {i d g q : Nat} {m gI : Int} {R : Nat → Int} {B : zBs2} {h : zM} {Q : Option zV → zC → zM → Prop}, (i : Int) < h0 89 22 → d < 100 → (0 ≤ m ∧ m + 594 * ((n : Nat) + 1) ≤ 3400) → (0 < q → gI = (g : Int) ∧ (g : Int) < h0 89 39 ∧ q ≤ 6) → zGs h0 h L hold B → (∀ j, j < 3 * (L - n) → h 111 j = R j) → (∀ h9, zGs h0 h9 L hold (zLg h0 hold L n i d m g q R B) → (∀ j, j < 3 * (L - n) → h9 111 j = R j) → Q none Γ h9) → zCT l mX9_goLeg (1685 + 2 * n) 0 0 Γ [zR 89, zI ((L - n : Nat) : Int), zI (L : Int), zI (i : Int), zI (d : Int), zI m, zI gI, zI (q : Int)] h Q) {i d q : Nat} {m gI m2 : Int} {R : Nat → Int} {Q : Option zV → zC → zM → Prop} {B : zBs2} (hi : (i : Int) < h0 89 22) (hd : d < 100) (hm9 : 0 ≤ m2 ∧ m2 + 594 * ((n : Nat) + 1) ≤ 3400) (hQ : ∀ h9, zGs h0 h9 L hold (zfo (zBg h0 hold (zLg h0 hold L n) (L - (n + 1)) i d m2 R) (h0 89 39).toNat B) → (∀ j, j < 3 * (L - (n + 1)) → h9 111 j = R j) → Q none Γ h9) : ∀ (mm : Nat) (g9 : Nat) (y z : Option zV) (h : zM), 3 - g9 < mm → (g9 : Int) ≤ h0 89 39 → zGs h0 h L hold (zfo (zBg h0 hold (zLg h0 hold L n) (L - (n + 1)) i d m2 R) g9 B) → (∀ j, j < 3 * (L - (n + 1)) → h 111 j = R j) → zG (zFn l mX9_goLeg (1685 + 2 * (n + 1)) 0 0 Γ Q) 0 0 Γ h 131 [some (zR 89), some (zI ((L - (n + 1) : Nat) : Int)), some (zI (L : Int)), some (zI (i : Int)), some (zI (d : Int)), some (zI m), some (zI gI), some (zI (q : Int)), some (zI m2), some (zI 0), some (zI (g9 : Int)), y, z] [] := by
  have hΓ := hI.base
  have hx2 := hI.isl
  have hx7 := hI.gds
  have hnw := hI.now
  intro mm
  induction mm with
  | zero => intros; omega
  | succ mm ih =>
    intro g9 y z h hm hk hS hRt
    refine z_il10 dX9_goLeg_131 ?_
    refine z_al0 dX9_goLeg_133 (by first | decide | omega | assumption) ?_
    refine z_getI zfX9_279 dX9_goLeg_134 (zkB hΓ rfl) rfl ?_
    rw [hS.1 89 39 rfl]
    try simp only [zup_ap, zup_row, ne_eq, not_false_eq_true, zres, Int.toNat_natCast, reduceIte, Nat.reduceEqDiff, Nat.reduceAdd, and_self, and_true, true_and, and_false, false_and]
    refine z_icmp_ge (t := 229) dX9_goLeg_137 (by rfl) (fun ht137 => ?_) (fun hf137 => ?_)
    · refine z_ret dX9_goLeg_229 rfl (Nat.le_refl _) (Nat.le_refl _) (zext_rf _) ?_
      have eg : g9 = (h0 89 39).toNat := by omega
      subst eg
      exact hQ h hS hRt
    · refine z_il9 dX9_goLeg_140 ?_
      refine z_if_ne (t := 229) dX9_goLeg_142 (by rfl) (fun hx => absurd hx (by decide)) (fun _ => ?_)
      refine z_iconst dX9_goLeg_145 (by decide) ?_
      refine z_is11 dX9_goLeg_146 (Nat.le_of_ble_eq_true rfl) rfl ?_
      refine X9_gL_q hI hL hh hn hR hi hd hm9 (by omega) (fun h9 y9 z9 hS9 hR9 => ?_) _ 0 _ _ (Nat.lt_succ_self _) (by omega) hS hRt
      refine z_ii10 dX9_goLeg_223 (by omega) (Nat.le_of_ble_eq_true rfl) rfl ?_
      refine z_goto (t := 131) dX9_goLeg_226 (by rfl) ?_
      exact ih (g9 + 1) _ _ _ (by omega) (by omega) hS9 hR9
set_option maxRecDepth 4000 in
theorem X9_gL_n {l : Launch} {Γ : zC} {h0 : zM} (hI : zIv Γ h0) {L hold : Nat} (hL : L ≤ 3) (hh : 1 ≤ hold ∧ hold ≤ 6) {n : Nat} (hn : n + 1 ≤ L) (hR : ∀ {i d g q : Nat} {m gI : Int} {R : Nat → Int} {B : zBs2} {h : zM} {Q : Option zV → zC → zM → Prop}, (i : Int) < h0 89 22 → d < 100 → (0 ≤ m ∧ m + 594 * ((n : Nat) + 1) ≤ 3400) → (0 < q → gI = (g : Int) ∧ (g : Int) < h0 89 39 ∧ q ≤ 6) → zGs h0 h L hold B → (∀ j, j < 3 * (L - n) → h 111 j = R j) → (∀ h9, zGs h0 h9 L hold (zLg h0 hold L n i d m g q R B) → (∀ j, j < 3 * (L - n) → h9 111 j = R j) → Q none Γ h9) → zCT l mX9_goLeg (1685 + 2 * n) 0 0 Γ [zR 89, zI ((L - n : Nat) : Int), zI (L : Int), zI (i : Int), zI (d : Int), zI m, zI gI, zI (q : Int)] h Q) {h : zM} {i d q : Nat} {m gI m2 : Int} {R : Nat → Int} {Q : Option zV → zC → zM → Prop} {g hs : Nat} {B : zBs2} (hi : (i : Int) < h0 89 22) (hd : d < 100) (hm9 : 0 ≤ m2 ∧ m2 + 594 * ((n : Nat) + 1) ≤ 3400) (hg : 0 < hs → gI = (g : Int) ∧ (g : Int) < h0 89 39 ∧ hs ≤ 6) (hS : zGs h0 h L hold B) (hRt : ∀ j, j < 3 * (L - (n + 1)) → h 111 j = R j) (hQ : ∀ h9, zGs h0 h9 L hold (zL2 h0 hold (zLg h0 hold L n) (L - (n + 1)) i d m2 g hs R B) → (∀ j, j < 3 * (L - (n + 1)) → h9 111 j = R j) → Q none Γ h9) : zG (zFn l mX9_goLeg (1685 + 2 * (n + 1)) 0 0 Γ Q) 0 0 Γ h 50 [some (zR 89), some (zI ((L - (n + 1) : Nat) : Int)), some (zI (L : Int)), some (zI (i : Int)), some (zI (d : Int)), some (zI m), some (zI gI), some (zI (q : Int)), some (zI m2), some (zI (hs : Int)), none, none, none] [] := by
  have hΓ := hI.base
  have hx2 := hI.isl
  have hx7 := hI.gds
  have hnw := hI.now
  refine z_il1 dX9_goLeg_50 ?_
  refine z_il2 dX9_goLeg_51 ?_
  refine z_icmp_ne (t := 102) dX9_goLeg_52 (by rfl) (fun ht52 => ?_) (fun hf52 => ?_)
  · refine z_al0 dX9_goLeg_102 (by first | decide | omega | assumption) ?_
    refine z_il1 dX9_goLeg_103 ?_
    refine z_il2 dX9_goLeg_104 ?_
    refine z_il3 dX9_goLeg_105 ?_
    refine z_il4 dX9_goLeg_106 ?_
    refine z_il8 dX9_goLeg_108 ?_
    refine z_il9 dX9_goLeg_110 ?_
    refine z_if_le (t := 120) dX9_goLeg_112 (by rfl) (fun ht112 => ?_) (fun hf112 => ?_)
    · have e0 : hs = 0 := by omega
      subst e0
      refine z_iconst dX9_goLeg_120 (by decide) ?_
      refine z_il9 dX9_goLeg_121 ?_
      refine z_iconst dX9_goLeg_123 (by decide) ?_
      refine z_iconst dX9_goLeg_124 (by decide) ?_
      refine zcv9 dX9_goLeg_125 zkX9_398 ziX9_goOff zsX9_goOff (zkB hΓ rfl) (by decide) rfl (Nat.le_of_ble_eq_true rfl) (by decide) (by first | decide | omega) ⟨Nat.le_refl _, Nat.le_refl _⟩ (X9_goOff_ct hI hL hh hn hR (g := 0) (q := 0) (gI := -1) (a := -1) (b := 0) (R := R) (B := B) hi hd hm9 (fun x => absurd x (by omega)) hS hRt (fun h9 hS9 hR9 _ => ?_))
      try simp only [zup_ap, zup_row, ne_eq, not_false_eq_true, zres, Int.toNat_natCast, reduceIte, Nat.reduceEqDiff, Nat.reduceAdd, and_self, and_true, true_and, and_false, false_and]
      refine z_iconst dX9_goLeg_128 (by decide) ?_
      refine z_is10 dX9_goLeg_129 (Nat.le_of_ble_eq_true rfl) rfl ?_
      exact X9_gL_g hI hL hh hn hR hi hd hm9 (fun h8 hS8 hR8 => hQ h8 hS8 hR8) _ 0 _ _ _ (Nat.lt_succ_self _) (by omega) hS9 hR9
    · refine z_il6 dX9_goLeg_115 ?_
      refine z_goto (t := 121) dX9_goLeg_117 (by rfl) ?_
      refine z_il9 dX9_goLeg_121 ?_
      refine z_iconst dX9_goLeg_123 (by decide) ?_
      refine z_iconst dX9_goLeg_124 (by decide) ?_
      refine zcv9 dX9_goLeg_125 zkX9_398 ziX9_goOff zsX9_goOff (zkB hΓ rfl) (by decide) rfl (Nat.le_of_ble_eq_true rfl) (by decide) (by first | decide | omega) ⟨Nat.le_refl _, Nat.le_refl _⟩ (X9_goOff_ct hI hL hh hn hR (g := g) (q := hs) (gI := gI) (a := -1) (b := 0) (R := R) (B := B) hi hd hm9 hg hS hRt (fun h9 hS9 hR9 _ => ?_))
      try simp only [zup_ap, zup_row, ne_eq, not_false_eq_true, zres, Int.toNat_natCast, reduceIte, Nat.reduceEqDiff, Nat.reduceAdd, and_self, and_true, true_and, and_false, false_and]
      refine z_iconst dX9_goLeg_128 (by decide) ?_
      refine z_is10 dX9_goLeg_129 (Nat.le_of_ble_eq_true rfl) rfl ?_
      refine z_il10 dX9_goLeg_131 ?_
      refine z_al0 dX9_goLeg_133 (by first | decide | omega | assumption) ?_
      refine z_getI zfX9_279 dX9_goLeg_134 (zkB hΓ rfl) rfl ?_
      rw [hS9.1 89 39 rfl]
      try simp only [zup_ap, zup_row, ne_eq, not_false_eq_true, zres, Int.toNat_natCast, reduceIte, Nat.reduceEqDiff, Nat.reduceAdd, and_self, and_true, true_and, and_false, false_and]
      refine z_icmp_ge (t := 229) dX9_goLeg_137 (by rfl) (fun ht137 => ?_) (fun hf137 => ?_)
      · refine z_ret dX9_goLeg_229 rfl (Nat.le_refl _) (Nat.le_refl _) (zext_rf _) ?_
        refine hQ h9 ?_ hR9
        show zGs h0 h9 L hold (if _ then _ else _)
        rw [if_pos (by omega)]
        exact hS9
      · refine z_il9 dX9_goLeg_140 ?_
        refine z_if_ne (t := 229) dX9_goLeg_142 (by rfl) (fun ht142 => ?_) (fun hf142 => ?_)
        · refine z_ret dX9_goLeg_229 rfl (Nat.le_refl _) (Nat.le_refl _) (zext_rf _) ?_
          refine hQ h9 ?_ hR9
          show zGs h0 h9 L hold (if _ then _ else _)
          rw [if_pos (by omega)]
          exact hS9
        · exfalso; omega
  · exfalso; omega
set_option maxRecDepth 4000 in
theorem X9_goLeg_ct {l : Launch} {Γ : zC} {h0 : zM} (hI : zIv Γ h0) {L hold : Nat} (hL : L ≤ 3) (hh : 1 ≤ hold ∧ hold ≤ 6) : ∀ (n : Nat), n ≤ L → ∀ {i d g q : Nat} {m gI : Int} {R : Nat → Int} {B : zBs2} {h : zM} {Q : Option zV → zC → zM → Prop}, (i : Int) < h0 89 22 → d < 100 → (0 ≤ m ∧ m + 594 * ((n : Nat) + 1) ≤ 3400) → (0 < q → gI = (g : Int) ∧ (g : Int) < h0 89 39 ∧ q ≤ 6) → zGs h0 h L hold B → (∀ j, j < 3 * (L - n) → h 111 j = R j) → (∀ h9, zGs h0 h9 L hold (zLg h0 hold L n i d m g q R B) → (∀ j, j < 3 * (L - n) → h9 111 j = R j) → Q none Γ h9) → zCT l mX9_goLeg (1685 + 2 * n) 0 0 Γ [zR 89, zI ((L - n : Nat) : Int), zI (L : Int), zI (i : Int), zI (d : Int), zI m, zI gI, zI (q : Int)] h Q
  | 0, hn, i, d, g, q, m, gI, R, B, h, Q, hi, hd, hm9, hg, hS, hRt, hQ => by
    have hΓ := hI.base
    have hx2 := hI.isl
    have hx7 := hI.gds
    have hF := hS.1
    refine zCT_of (by decide) (Nat.le_of_ble_eq_true rfl) (ls := [some (zR 89), some (zI ((L - 0 : Nat) : Int)), some (zI (L : Int)), some (zI (i : Int)), some (zI (d : Int)), some (zI m), some (zI gI), some (zI (q : Int)), none, none, none, none, none]) rfl ?_
    refine z_il5 dX9_goLeg_0 ?_
    refine z_is8 dX9_goLeg_2 (Nat.le_of_ble_eq_true rfl) rfl ?_
    refine z_il7 dX9_goLeg_4 ?_
    refine z_is9 dX9_goLeg_6 (Nat.le_of_ble_eq_true rfl) rfl ?_
    refine z_il9 dX9_goLeg_8 ?_
    refine z_if_le (t := 50) dX9_goLeg_10 (by rfl) (fun ht10 => ?_) (fun hf10 => ?_)
    · first
      | (have es := zSl_y (h := h0) (i := i) (d := d) (m := m) (g := g) (q := q) (by omega) hp9
         exact X9_gL_0 (hs := 0) hI hL hh hS3.1 (fun j hj => by rw [hS3.2]; exact hRt j hj) (fun h9 a b => hQ h9 (by show zGs h0 h9 L hold (zUp B (zSl h0 i d m g q).1 R); rw [es]; exact a) b))
      | (have es := zSl_n (h := h0) (i := i) (d := d) (m := m) (g := g) (q := q) (fun x => by rw [hp9] at x; exact absurd x.2 (by decide))
         exact X9_gL_0 (hs := q) hI hL hh hS3.1 (fun j hj => by rw [hS3.2]; exact hRt j hj) (fun h9 a b => hQ h9 (by show zGs h0 h9 L hold (zUp B (zSl h0 i d m g q).1 R); rw [es]; exact a) b))
      | (have es := zSl_n (h := h0) (i := i) (d := d) (m := m) (g := g) (q := q) (fun x => (by have := x.1; omega))
         exact X9_gL_0 (hs := q) hI hL hh hS hRt (fun h9 a b => hQ h9 (by show zGs h0 h9 L hold (zUp B (zSl h0 i d m g q).1 R); rw [es]; exact a) b))
    · obtain ⟨rfl, hg1, hg2⟩ := hg (by omega)
      have hp8 := (hI.prc g i (by omega) (by omega)).2
      have hm8 := zmq (q := q) (p := h0 107 (6 * g + i)) hg2 hp8.1 hp8.2
      refine z_al0 dX9_goLeg_13 (by first | decide | omega | assumption) ?_
      refine z_il6 dX9_goLeg_14 ?_
      refine z_il3 dX9_goLeg_16 ?_
      refine z_il9 dX9_goLeg_17 ?_
      refine z_il4 dX9_goLeg_19 ?_
      refine zcv4 dX9_goLeg_21 zkX9_392 ziX9_isDeal zsX9_isDeal (zkB hΓ rfl) (by decide) rfl (Nat.le_of_ble_eq_true rfl) (by decide) (by first | decide | omega) ⟨Nat.le_refl _, Nat.le_refl _⟩ (X9_isDeal_ct hI hF hg1 hi (by omega) hd hS.2.1 hS.2.2.1 (fun hp9 h3 hY3 _ => ?_) (fun hp9 h3 hY3 _ => ?_))
      · try simp only [zup_ap, zup_row, ne_eq, not_false_eq_true, zres, Int.toNat_natCast, reduceIte, Nat.reduceEqDiff, Nat.reduceAdd, and_self, and_true, true_and, and_false, false_and]
        have hS3 := zGs_Y hS hY3
        replace hF := hS3.1.1
        refine z_if_eq (t := 50) dX9_goLeg_24 (by rfl) (fun _ => ?_) (fun hx => absurd hx (by decide))
        first
        | (have es := zSl_y (h := h0) (i := i) (d := d) (m := m) (g := g) (q := q) (by omega) hp9
           exact X9_gL_0 (hs := 0) hI hL hh hS3.1 (fun j hj => by rw [hS3.2]; exact hRt j hj) (fun h9 a b => hQ h9 (by show zGs h0 h9 L hold (zUp B (zSl h0 i d m g q).1 R); rw [es]; exact a) b))
        | (have es := zSl_n (h := h0) (i := i) (d := d) (m := m) (g := g) (q := q) (fun x => by rw [hp9] at x; exact absurd x.2 (by decide))
           exact X9_gL_0 (hs := q) hI hL hh hS3.1 (fun j hj => by rw [hS3.2]; exact hRt j hj) (fun h9 a b => hQ h9 (by show zGs h0 h9 L hold (zUp B (zSl h0 i d m g q).1 R); rw [es]; exact a) b))
        | (have es := zSl_n (h := h0) (i := i) (d := d) (m := m) (g := g) (q := q) (fun x => (by have := x.1; omega))
           exact X9_gL_0 (hs := q) hI hL hh hS hRt (fun h9 a b => hQ h9 (by show zGs h0 h9 L hold (zUp B (zSl h0 i d m g q).1 R); rw [es]; exact a) b))
      · try simp only [zup_ap, zup_row, ne_eq, not_false_eq_true, zres, Int.toNat_natCast, reduceIte, Nat.reduceEqDiff, Nat.reduceAdd, and_self, and_true, true_and, and_false, false_and]
        have hS3 := zGs_Y hS hY3
        replace hF := hS3.1.1
        refine z_if_eq (t := 50) dX9_goLeg_24 (by rfl) (fun hx => absurd hx (by decide)) (fun _ => ?_)
        refine z_il8 dX9_goLeg_27 ?_
        refine z_il9 dX9_goLeg_29 ?_
        refine z_al0 dX9_goLeg_31 (by first | decide | omega | assumption) ?_
        refine z_getR zfX9_85 dX9_goLeg_32 (zkB hΓ rfl) rfl (zsB hΓ rfl) (zvB hΓ (by decide)) ?_
        refine z_bipush (x := 6) dX9_goLeg_35 (by rfl) (by decide) ?_
        refine z_il6 dX9_goLeg_37 ?_
        refine z_imul dX9_goLeg_39 (by omega) ?_
        refine z_il3 dX9_goLeg_40 ?_
        refine z_iadd dX9_goLeg_41 (by omega) ?_
        refine z_iald dX9_goLeg_42 (zkB hΓ rfl) (by omega) (by omega) ?_
        try simp only [Int.toNat_natCast]
        rw [hF 107 _ rfl, show ((6 : Int) * (g : Int) + (i : Int)).toNat = 6 * g + i by omega]
        try simp only [zup_ap, zup_row, ne_eq, not_false_eq_true, zres, Int.toNat_natCast, reduceIte, Nat.reduceEqDiff, Nat.reduceAdd, and_self, and_true, true_and, and_false, false_and]
        refine z_imul dX9_goLeg_43 (by omega) ?_
        refine z_iadd dX9_goLeg_44 (by omega) ?_
        refine z_is8 dX9_goLeg_45 (Nat.le_of_ble_eq_true rfl) rfl ?_
        refine z_iconst dX9_goLeg_47 (by decide) ?_
        refine z_is9 dX9_goLeg_48 (Nat.le_of_ble_eq_true rfl) rfl ?_
        first
        | (have es := zSl_y (h := h0) (i := i) (d := d) (m := m) (g := g) (q := q) (by omega) hp9
           exact X9_gL_0 (hs := 0) hI hL hh hS3.1 (fun j hj => by rw [hS3.2]; exact hRt j hj) (fun h9 a b => hQ h9 (by show zGs h0 h9 L hold (zUp B (zSl h0 i d m g q).1 R); rw [es]; exact a) b))
        | (have es := zSl_n (h := h0) (i := i) (d := d) (m := m) (g := g) (q := q) (fun x => by rw [hp9] at x; exact absurd x.2 (by decide))
           exact X9_gL_0 (hs := q) hI hL hh hS3.1 (fun j hj => by rw [hS3.2]; exact hRt j hj) (fun h9 a b => hQ h9 (by show zGs h0 h9 L hold (zUp B (zSl h0 i d m g q).1 R); rw [es]; exact a) b))
        | (have es := zSl_n (h := h0) (i := i) (d := d) (m := m) (g := g) (q := q) (fun x => (by have := x.1; omega))
           exact X9_gL_0 (hs := q) hI hL hh hS hRt (fun h9 a b => hQ h9 (by show zGs h0 h9 L hold (zUp B (zSl h0 i d m g q).1 R); rw [es]; exact a) b))
  | n + 1, hn, i, d, g, q, m, gI, R, B, h, Q, hi, hd, hm9, hg, hS, hRt, hQ => by
    have hΓ := hI.base
    have hx2 := hI.isl
    have hx7 := hI.gds
    have hF := hS.1
    refine zCT_of (by decide) (Nat.le_of_ble_eq_true rfl) (ls := [some (zR 89), some (zI ((L - (n + 1) : Nat) : Int)), some (zI (L : Int)), some (zI (i : Int)), some (zI (d : Int)), some (zI m), some (zI gI), some (zI (q : Int)), none, none, none, none, none]) rfl ?_
    refine z_il5 dX9_goLeg_0 ?_
    refine z_is8 dX9_goLeg_2 (Nat.le_of_ble_eq_true rfl) rfl ?_
    refine z_il7 dX9_goLeg_4 ?_
    refine z_is9 dX9_goLeg_6 (Nat.le_of_ble_eq_true rfl) rfl ?_
    refine z_il9 dX9_goLeg_8 ?_
    refine z_if_le (t := 50) dX9_goLeg_10 (by rfl) (fun ht10 => ?_) (fun hf10 => ?_)
    · first
      | (have es := zSl_y (h := h0) (i := i) (d := d) (m := m) (g := g) (q := q) (by omega) hp9
         exact X9_gL_n (g := g) (hs := 0) hI hL hh hn (fun a1 a2 a3 a4 a5 a6 a7 => X9_goLeg_ct hI hL hh n (by omega) a1 a2 a3 a4 a5 a6 a7) hi hd (by omega) (fun x => ⟨by omega, by omega, by omega⟩) hS3.1 (fun j hj => by rw [hS3.2]; exact hRt j hj) (fun h9 a b => hQ h9 (by show zGs h0 h9 L hold (zL2 h0 hold (zLg h0 hold L n) (L - (n + 1)) i d (zSl h0 i d m g q).1 g (zSl h0 i d m g q).2 R B); rw [es]; exact a) b))
      | (have es := zSl_n (h := h0) (i := i) (d := d) (m := m) (g := g) (q := q) (fun x => by rw [hp9] at x; exact absurd x.2 (by decide))
         exact X9_gL_n (g := g) (hs := q) hI hL hh hn (fun a1 a2 a3 a4 a5 a6 a7 => X9_goLeg_ct hI hL hh n (by omega) a1 a2 a3 a4 a5 a6 a7) hi hd (by omega) (fun x => ⟨by omega, by omega, by omega⟩) hS3.1 (fun j hj => by rw [hS3.2]; exact hRt j hj) (fun h9 a b => hQ h9 (by show zGs h0 h9 L hold (zL2 h0 hold (zLg h0 hold L n) (L - (n + 1)) i d (zSl h0 i d m g q).1 g (zSl h0 i d m g q).2 R B); rw [es]; exact a) b))
      | (have es := zSl_n (h := h0) (i := i) (d := d) (m := m) (g := g) (q := q) (fun x => (by have := x.1; omega))
         exact X9_gL_n (g := g) (hs := q) hI hL hh hn (fun a1 a2 a3 a4 a5 a6 a7 => X9_goLeg_ct hI hL hh n (by omega) a1 a2 a3 a4 a5 a6 a7) hi hd (by omega) (fun x => ⟨by omega, by omega, by omega⟩) hS hRt (fun h9 a b => hQ h9 (by show zGs h0 h9 L hold (zL2 h0 hold (zLg h0 hold L n) (L - (n + 1)) i d (zSl h0 i d m g q).1 g (zSl h0 i d m g q).2 R B); rw [es]; exact a) b))
    · obtain ⟨rfl, hg1, hg2⟩ := hg (by omega)
      have hp8 := (hI.prc g i (by omega) (by omega)).2
      have hm8 := zmq (q := q) (p := h0 107 (6 * g + i)) hg2 hp8.1 hp8.2
      refine z_al0 dX9_goLeg_13 (by first | decide | omega | assumption) ?_
      refine z_il6 dX9_goLeg_14 ?_
      refine z_il3 dX9_goLeg_16 ?_
      refine z_il9 dX9_goLeg_17 ?_
      refine z_il4 dX9_goLeg_19 ?_
      refine zcv4 dX9_goLeg_21 zkX9_392 ziX9_isDeal zsX9_isDeal (zkB hΓ rfl) (by decide) rfl (Nat.le_of_ble_eq_true rfl) (by decide) (by first | decide | omega) ⟨Nat.le_refl _, Nat.le_refl _⟩ (X9_isDeal_ct hI hF hg1 hi (by omega) hd hS.2.1 hS.2.2.1 (fun hp9 h3 hY3 _ => ?_) (fun hp9 h3 hY3 _ => ?_))
      · try simp only [zup_ap, zup_row, ne_eq, not_false_eq_true, zres, Int.toNat_natCast, reduceIte, Nat.reduceEqDiff, Nat.reduceAdd, and_self, and_true, true_and, and_false, false_and]
        have hS3 := zGs_Y hS hY3
        replace hF := hS3.1.1
        refine z_if_eq (t := 50) dX9_goLeg_24 (by rfl) (fun _ => ?_) (fun hx => absurd hx (by decide))
        first
        | (have es := zSl_y (h := h0) (i := i) (d := d) (m := m) (g := g) (q := q) (by omega) hp9
           exact X9_gL_n (g := g) (hs := 0) hI hL hh hn (fun a1 a2 a3 a4 a5 a6 a7 => X9_goLeg_ct hI hL hh n (by omega) a1 a2 a3 a4 a5 a6 a7) hi hd (by omega) (fun x => ⟨by omega, by omega, by omega⟩) hS3.1 (fun j hj => by rw [hS3.2]; exact hRt j hj) (fun h9 a b => hQ h9 (by show zGs h0 h9 L hold (zL2 h0 hold (zLg h0 hold L n) (L - (n + 1)) i d (zSl h0 i d m g q).1 g (zSl h0 i d m g q).2 R B); rw [es]; exact a) b))
        | (have es := zSl_n (h := h0) (i := i) (d := d) (m := m) (g := g) (q := q) (fun x => by rw [hp9] at x; exact absurd x.2 (by decide))
           exact X9_gL_n (g := g) (hs := q) hI hL hh hn (fun a1 a2 a3 a4 a5 a6 a7 => X9_goLeg_ct hI hL hh n (by omega) a1 a2 a3 a4 a5 a6 a7) hi hd (by omega) (fun x => ⟨by omega, by omega, by omega⟩) hS3.1 (fun j hj => by rw [hS3.2]; exact hRt j hj) (fun h9 a b => hQ h9 (by show zGs h0 h9 L hold (zL2 h0 hold (zLg h0 hold L n) (L - (n + 1)) i d (zSl h0 i d m g q).1 g (zSl h0 i d m g q).2 R B); rw [es]; exact a) b))
        | (have es := zSl_n (h := h0) (i := i) (d := d) (m := m) (g := g) (q := q) (fun x => (by have := x.1; omega))
           exact X9_gL_n (g := g) (hs := q) hI hL hh hn (fun a1 a2 a3 a4 a5 a6 a7 => X9_goLeg_ct hI hL hh n (by omega) a1 a2 a3 a4 a5 a6 a7) hi hd (by omega) (fun x => ⟨by omega, by omega, by omega⟩) hS hRt (fun h9 a b => hQ h9 (by show zGs h0 h9 L hold (zL2 h0 hold (zLg h0 hold L n) (L - (n + 1)) i d (zSl h0 i d m g q).1 g (zSl h0 i d m g q).2 R B); rw [es]; exact a) b))
      · try simp only [zup_ap, zup_row, ne_eq, not_false_eq_true, zres, Int.toNat_natCast, reduceIte, Nat.reduceEqDiff, Nat.reduceAdd, and_self, and_true, true_and, and_false, false_and]
        have hS3 := zGs_Y hS hY3
        replace hF := hS3.1.1
        refine z_if_eq (t := 50) dX9_goLeg_24 (by rfl) (fun hx => absurd hx (by decide)) (fun _ => ?_)
        refine z_il8 dX9_goLeg_27 ?_
        refine z_il9 dX9_goLeg_29 ?_
        refine z_al0 dX9_goLeg_31 (by first | decide | omega | assumption) ?_
        refine z_getR zfX9_85 dX9_goLeg_32 (zkB hΓ rfl) rfl (zsB hΓ rfl) (zvB hΓ (by decide)) ?_
        refine z_bipush (x := 6) dX9_goLeg_35 (by rfl) (by decide) ?_
        refine z_il6 dX9_goLeg_37 ?_
        refine z_imul dX9_goLeg_39 (by omega) ?_
        refine z_il3 dX9_goLeg_40 ?_
        refine z_iadd dX9_goLeg_41 (by omega) ?_
        refine z_iald dX9_goLeg_42 (zkB hΓ rfl) (by omega) (by omega) ?_
        try simp only [Int.toNat_natCast]
        rw [hF 107 _ rfl, show ((6 : Int) * (g : Int) + (i : Int)).toNat = 6 * g + i by omega]
        try simp only [zup_ap, zup_row, ne_eq, not_false_eq_true, zres, Int.toNat_natCast, reduceIte, Nat.reduceEqDiff, Nat.reduceAdd, and_self, and_true, true_and, and_false, false_and]
        refine z_imul dX9_goLeg_43 (by omega) ?_
        refine z_iadd dX9_goLeg_44 (by omega) ?_
        refine z_is8 dX9_goLeg_45 (Nat.le_of_ble_eq_true rfl) rfl ?_
        refine z_iconst dX9_goLeg_47 (by decide) ?_
        refine z_is9 dX9_goLeg_48 (Nat.le_of_ble_eq_true rfl) rfl ?_
        first
        | (have es := zSl_y (h := h0) (i := i) (d := d) (m := m) (g := g) (q := q) (by omega) hp9
           exact X9_gL_n (g := g) (hs := 0) hI hL hh hn (fun a1 a2 a3 a4 a5 a6 a7 => X9_goLeg_ct hI hL hh n (by omega) a1 a2 a3 a4 a5 a6 a7) hi hd (by omega) (fun x => ⟨by omega, by omega, by omega⟩) hS3.1 (fun j hj => by rw [hS3.2]; exact hRt j hj) (fun h9 a b => hQ h9 (by show zGs h0 h9 L hold (zL2 h0 hold (zLg h0 hold L n) (L - (n + 1)) i d (zSl h0 i d m g q).1 g (zSl h0 i d m g q).2 R B); rw [es]; exact a) b))
        | (have es := zSl_n (h := h0) (i := i) (d := d) (m := m) (g := g) (q := q) (fun x => by rw [hp9] at x; exact absurd x.2 (by decide))
           exact X9_gL_n (g := g) (hs := q) hI hL hh hn (fun a1 a2 a3 a4 a5 a6 a7 => X9_goLeg_ct hI hL hh n (by omega) a1 a2 a3 a4 a5 a6 a7) hi hd (by omega) (fun x => ⟨by omega, by omega, by omega⟩) hS3.1 (fun j hj => by rw [hS3.2]; exact hRt j hj) (fun h9 a b => hQ h9 (by show zGs h0 h9 L hold (zL2 h0 hold (zLg h0 hold L n) (L - (n + 1)) i d (zSl h0 i d m g q).1 g (zSl h0 i d m g q).2 R B); rw [es]; exact a) b))
        | (have es := zSl_n (h := h0) (i := i) (d := d) (m := m) (g := g) (q := q) (fun x => (by have := x.1; omega))
           exact X9_gL_n (g := g) (hs := q) hI hL hh hn (fun a1 a2 a3 a4 a5 a6 a7 => X9_goLeg_ct hI hL hh n (by omega) a1 a2 a3 a4 a5 a6 a7) hi hd (by omega) (fun x => ⟨by omega, by omega, by omega⟩) hS hRt (fun h9 a b => hQ h9 (by show zGs h0 h9 L hold (zL2 h0 hold (zLg h0 hold L n) (L - (n + 1)) i d (zSl h0 i d m g q).1 g (zSl h0 i d m g q).2 R B); rw [es]; exact a) b))
set_option maxRecDepth 4000 in
theorem X9_goLeg_top {l : Launch} {Γ : zC} {h0 h : zM} (hI : zIv Γ h0) {L hold : Nat} (hL : L ≤ 3) (hh : 1 ≤ hold ∧ hold ≤ 6) {i d g : Nat} {m gI : Int} {R : Nat → Int} {B : zBs2} {Q : Option zV → zC → zM → Prop} (hi : (i : Int) < h0 89 22) (hd : d < 100) (hm9 : 0 ≤ m ∧ m ≤ 999) (hS : zGs h0 h L hold B) (hQ : ∀ h9, zGs h0 h9 L hold (zLg h0 hold L L i d m g 0 R B) → Q none Γ h9) : zCT l mX9_goLeg (1685 + 2 * L) 0 0 Γ [zR 89, zI 0, zI (L : Int), zI (i : Int), zI (d : Int), zI m, zI gI, zI 0] h Q := by
  have e := X9_goLeg_ct (l := l) (g := g) (q := 0) (gI := gI) (Q := Q) hI hL hh L (Nat.le_refl L) hi hd (by omega) (fun x => absurd x (by omega)) hS (fun j hj => absurd hj (by omega)) (fun h9 a _ => hQ h9 a)
  rw [Nat.sub_self] at e
  exact e
set_option maxRecDepth 4000 in
theorem X9_gn_d {l : Launch} {Γ : zC} {h1 : zM} {Q : Option zV → zC → zM → Prop} {i m hold L s : Int} (hΓ : zBase Γ) (hK : ∀ (y : Int) h9, (∀ a, a ≠ 110 → h9 a = h1 a) → (∀ j, j < 12600 → h9 110 j = 0) → zG (zFn l mX9_gain 1692 0 0 Γ Q) 0 0 Γ h9 100 [some (zR 89), some (zI i), some (zI m), some (zI hold), some (zI L), some (zI s), some (zI y)] []) : ∀ (mm : Nat) (k : Nat) (h : zM), 12600 - k < mm → k ≤ 12600 → (∀ a, a ≠ 110 → h a = h1 a) → (∀ j, j < k → h 110 j = 0) → zG (zFn l mX9_gain 1692 0 0 Γ Q) 0 0 Γ h 76 [some (zR 89), some (zI i), some (zI m), some (zI hold), some (zI L), some (zI s), some (zI (k : Int))] [] := by
  intro mm
  induction mm with
  | zero => intros; omega
  | succ mm ih =>
    intro k h hm hk hE hD
    refine z_il6 dX9_gain_76 ?_
    refine z_al0 dX9_gain_78 (by first | decide | omega | assumption) ?_
    refine z_getR zfX9_95 dX9_gain_79 (zkB hΓ rfl) rfl (zsB hΓ rfl) (zvB hΓ (by decide)) ?_
    refine z_alen dX9_gain_82 (zkB hΓ rfl) (by decide) ?_
    refine z_icmp_ge (t := 100) dX9_gain_83 (by rfl) (fun ht83 => ?_) (fun hf83 => ?_)
    · exact hK _ h hE (fun j hj => hD j (by omega))
    · refine z_al0 dX9_gain_86 (by first | decide | omega | assumption) ?_
      refine z_getR zfX9_95 dX9_gain_87 (zkB hΓ rfl) rfl (zsB hΓ rfl) (zvB hΓ (by decide)) ?_
      refine z_il6 dX9_gain_90 ?_
      refine z_iconst dX9_gain_92 (by decide) ?_
      refine z_bast dX9_gain_93 (zkB hΓ rfl) (by omega) (by omega) (by omega) ?_
      refine z_ii6 dX9_gain_94 (by omega) (Nat.le_of_ble_eq_true rfl) rfl ?_
      refine z_goto (t := 76) dX9_gain_97 (by rfl) ?_
      refine ih (k + 1) _ (by omega) (by omega) (fun a ha => (zup_row ha).trans (hE a ha)) (fun j hj => ?_)
      by_cases ej : j = k
      · subst ej; rw [zup_ap]; exact if_pos ⟨rfl, by omega⟩
      · rw [zup_ap, if_neg (fun e => ej (by have := e.2; omega))]
        exact hD j (by omega)
set_option maxRecDepth 4000 in
theorem X9_gn_r {l : Launch} {Γ : zC} {h1 : zM} {Q : Option zV → zC → zM → Prop} {i m hold L s : Int} (hΓ : zBase Γ) (hK : ∀ (y : Int) h9, (∀ a, a ≠ 111 → h9 a = h1 a) → (∀ j, j < 9 → h9 111 j = -1) → zG (zFn l mX9_gain 1692 0 0 Γ Q) 0 0 Γ h9 128 [some (zR 89), some (zI i), some (zI m), some (zI hold), some (zI L), some (zI s), some (zI y)] []) : ∀ (mm : Nat) (k : Nat) (h : zM), 9 - k < mm → k ≤ 9 → (∀ a, a ≠ 111 → h a = h1 a) → (∀ j, j < k → h 111 j = -1) → zG (zFn l mX9_gain 1692 0 0 Γ Q) 0 0 Γ h 107 [some (zR 89), some (zI i), some (zI m), some (zI hold), some (zI L), some (zI s), some (zI (k : Int))] [] := by
  intro mm
  induction mm with
  | zero => intros; omega
  | succ mm ih =>
    intro k h hm hk hE hD
    refine z_il6 dX9_gain_107 ?_
    refine z_bipush (x := 9) dX9_gain_109 (by rfl) (by decide) ?_
    refine z_icmp_ge (t := 128) dX9_gain_111 (by rfl) (fun ht111 => ?_) (fun hf111 => ?_)
    · exact hK _ h hE (fun j hj => hD j (by omega))
    · refine z_al0 dX9_gain_114 (by first | decide | omega | assumption) ?_
      refine z_getR zfX9_98 dX9_gain_115 (zkB hΓ rfl) rfl (zsB hΓ rfl) (zvB hΓ (by decide)) ?_
      refine z_il6 dX9_gain_118 ?_
      refine z_iconst dX9_gain_120 (by decide) ?_
      refine z_iast dX9_gain_121 (zkB hΓ rfl) (by omega) (by omega) ?_
      refine z_ii6 dX9_gain_122 (by omega) (Nat.le_of_ble_eq_true rfl) rfl ?_
      refine z_goto (t := 107) dX9_gain_125 (by rfl) ?_
      refine ih (k + 1) _ (by omega) (by omega) (fun a ha => (zup_row ha).trans (hE a ha)) (fun j hj => ?_)
      by_cases ej : j = k
      · subst ej; rw [zup_ap]; exact if_pos ⟨rfl, by omega⟩
      · rw [zup_ap, if_neg (fun e => ej (by have := e.2; omega))]
        exact hD j (by omega)
set_option maxRecDepth 4000 in
theorem X9_gain_ct {l : Launch} {Γ : zC} {h0 h : zM} {Q : Option zV → zC → zM → Prop} {i m hold L s : Int} (hI : zIv Γ h0) (hF : zfr zSS h0 h) (hQ : ∀ h9, zfr zSS h0 h9 → Q (some (zI (zvGain h0 i m hold L s))) Γ h9) : zCT l mX9_gain 1692 0 0 Γ [zR 89, zI i, zI m, zI hold, zI L, zI s] h Q := by
  have hΓ := hI.base
  have hx2 := hI.isl
  have hx7 := hI.gds
  have hnw := hI.now
  refine zCT_of (by decide) (Nat.le_of_ble_eq_true rfl) (ls := [some (zR 89), some (zI i), some (zI m), some (zI hold), some (zI L), some (zI s), none]) rfl ?_
  refine z_al0 dX9_gain_0 (by first | decide | omega | assumption) ?_
  refine z_iconst dX9_gain_1 (by decide) ?_
  refine z_putI zfX9_128 dX9_gain_2 (zkB hΓ rfl) rfl rfl ?_
  replace hF : zfr zSS h0 (zup h 89 0 0) := zfr_up hF rfl
  generalize zup h 89 0 0 = h at hF ⊢
  refine z_al0 dX9_gain_5 (by first | decide | omega | assumption) ?_
  refine z_il1 dX9_gain_6 ?_
  refine zcv1 dX9_gain_7 zkX9_299 ziX9_isIsle zsX9_isIsle (zkB hΓ rfl) (by decide) rfl (Nat.le_of_ble_eq_true rfl) (by decide) (by first | decide | omega) ⟨Nat.le_refl _, Nat.le_refl _⟩ (X9_isIsle_ct hI hF (fun hg1 _ => ?_) (fun hg1 _ => ?_))
  · try simp only [zup_ap, zup_row, ne_eq, not_false_eq_true, zres, Int.toNat_natCast, reduceIte, Nat.reduceEqDiff, Nat.reduceAdd, and_self, and_true, true_and, and_false, false_and]
    refine z_if_eq (t := 69) dX9_gain_10 (by rfl) (fun _ => ?_) (fun hx => absurd hx (by decide))
    refine z_ldcw (x := -1000000) dX9_gain_69 zqX9_411 (by decide) ?_
    refine z_iret dX9_gain_72 rfl (Nat.le_refl _) (Nat.le_refl _) (zext_rf _) (fun hrr => ?_)
    have hw9 := hQ _ hF
    unfold zvGain at hw9
    rw [if_neg (by omega)] at hw9
    exact hw9
  · try simp only [zup_ap, zup_row, ne_eq, not_false_eq_true, zres, Int.toNat_natCast, reduceIte, Nat.reduceEqDiff, Nat.reduceAdd, and_self, and_true, true_and, and_false, false_and]
    refine z_if_eq (t := 69) dX9_gain_10 (by rfl) (fun hx => absurd hx (by decide)) (fun _ => ?_)
    refine z_il2 dX9_gain_13 ?_
    refine z_i2l dX9_gain_14 ?_
    refine z_lconst (x := 0) dX9_gain_15 (by rfl) (by decide) ?_
    refine z_ldc2 (x := 999) dX9_gain_16 zqX9_309 (by decide) ?_
    refine zcs3 dX9_gain_19 zkX9_261 ztX9_isIn (Nat.le_of_ble_eq_true rfl) (by decide) (by first | decide | omega) ⟨Nat.le_refl _, Nat.le_refl _⟩ (X9_isIn_ct (fun hg2 _ => ?_) (fun hg2 _ => ?_))
    · try simp only [zup_ap, zup_row, ne_eq, not_false_eq_true, zres, Int.toNat_natCast, reduceIte, Nat.reduceEqDiff, Nat.reduceAdd, and_self, and_true, true_and, and_false, false_and]
      refine z_if_eq (t := 69) dX9_gain_22 (by rfl) (fun _ => ?_) (fun hx => absurd hx (by decide))
      refine z_ldcw (x := -1000000) dX9_gain_69 zqX9_411 (by decide) ?_
      refine z_iret dX9_gain_72 rfl (Nat.le_refl _) (Nat.le_refl _) (zext_rf _) (fun hrr => ?_)
      have hw9 := hQ _ hF
      unfold zvGain at hw9
      rw [if_neg (by omega)] at hw9
      exact hw9
    · try simp only [zup_ap, zup_row, ne_eq, not_false_eq_true, zres, Int.toNat_natCast, reduceIte, Nat.reduceEqDiff, Nat.reduceAdd, and_self, and_true, true_and, and_false, false_and]
      refine z_if_eq (t := 69) dX9_gain_22 (by rfl) (fun hx => absurd hx (by decide)) (fun _ => ?_)
      refine z_il3 dX9_gain_25 ?_
      refine z_i2l dX9_gain_26 ?_
      refine z_lconst (x := 1) dX9_gain_27 (by rfl) (by decide) ?_
      refine z_ldc2 (x := 6) dX9_gain_28 zqX9_386 (by decide) ?_
      refine zcs3 dX9_gain_31 zkX9_261 ztX9_isIn (Nat.le_of_ble_eq_true rfl) (by decide) (by first | decide | omega) ⟨Nat.le_refl _, Nat.le_refl _⟩ (X9_isIn_ct (fun hg3 _ => ?_) (fun hg3 _ => ?_))
      · try simp only [zup_ap, zup_row, ne_eq, not_false_eq_true, zres, Int.toNat_natCast, reduceIte, Nat.reduceEqDiff, Nat.reduceAdd, and_self, and_true, true_and, and_false, false_and]
        refine z_if_eq (t := 69) dX9_gain_34 (by rfl) (fun _ => ?_) (fun hx => absurd hx (by decide))
        refine z_ldcw (x := -1000000) dX9_gain_69 zqX9_411 (by decide) ?_
        refine z_iret dX9_gain_72 rfl (Nat.le_refl _) (Nat.le_refl _) (zext_rf _) (fun hrr => ?_)
        have hw9 := hQ _ hF
        unfold zvGain at hw9
        rw [if_neg (by omega)] at hw9
        exact hw9
      · try simp only [zup_ap, zup_row, ne_eq, not_false_eq_true, zres, Int.toNat_natCast, reduceIte, Nat.reduceEqDiff, Nat.reduceAdd, and_self, and_true, true_and, and_false, false_and]
        refine z_if_eq (t := 69) dX9_gain_34 (by rfl) (fun hx => absurd hx (by decide)) (fun _ => ?_)
        refine z_il4 dX9_gain_37 ?_
        refine z_i2l dX9_gain_39 ?_
        refine z_lconst (x := 0) dX9_gain_40 (by rfl) (by decide) ?_
        refine z_ldc2 (x := 3) dX9_gain_41 zqX9_409 (by decide) ?_
        refine zcs3 dX9_gain_44 zkX9_261 ztX9_isIn (Nat.le_of_ble_eq_true rfl) (by decide) (by first | decide | omega) ⟨Nat.le_refl _, Nat.le_refl _⟩ (X9_isIn_ct (fun hg4 _ => ?_) (fun hg4 _ => ?_))
        · try simp only [zup_ap, zup_row, ne_eq, not_false_eq_true, zres, Int.toNat_natCast, reduceIte, Nat.reduceEqDiff, Nat.reduceAdd, and_self, and_true, true_and, and_false, false_and]
          refine z_if_eq (t := 69) dX9_gain_47 (by rfl) (fun _ => ?_) (fun hx => absurd hx (by decide))
          refine z_ldcw (x := -1000000) dX9_gain_69 zqX9_411 (by decide) ?_
          refine z_iret dX9_gain_72 rfl (Nat.le_refl _) (Nat.le_refl _) (zext_rf _) (fun hrr => ?_)
          have hw9 := hQ _ hF
          unfold zvGain at hw9
          rw [if_neg (by omega)] at hw9
          exact hw9
        · try simp only [zup_ap, zup_row, ne_eq, not_false_eq_true, zres, Int.toNat_natCast, reduceIte, Nat.reduceEqDiff, Nat.reduceAdd, and_self, and_true, true_and, and_false, false_and]
          refine z_if_eq (t := 69) dX9_gain_47 (by rfl) (fun hx => absurd hx (by decide)) (fun _ => ?_)
          refine z_il5 dX9_gain_50 ?_
          refine z_i2l dX9_gain_52 ?_
          refine z_ldc2 (x := -1) dX9_gain_53 zqX9_351 (by decide) ?_
          refine z_iconst dX9_gain_56 (by decide) ?_
          refine z_il4 dX9_gain_57 ?_
          refine z_imul dX9_gain_59 (by omega) ?_
          refine z_iconst dX9_gain_60 (by decide) ?_
          refine z_isub dX9_gain_61 (by omega) ?_
          refine z_i2l dX9_gain_62 ?_
          refine zcs3 dX9_gain_63 zkX9_261 ztX9_isIn (Nat.le_of_ble_eq_true rfl) (by decide) (by first | decide | omega) ⟨Nat.le_refl _, Nat.le_refl _⟩ (X9_isIn_ct (fun hg5 _ => ?_) (fun hg5 _ => ?_))
          · try simp only [zup_ap, zup_row, ne_eq, not_false_eq_true, zres, Int.toNat_natCast, reduceIte, Nat.reduceEqDiff, Nat.reduceAdd, and_self, and_true, true_and, and_false, false_and]
            refine z_if_ne (t := 73) dX9_gain_66 (by rfl) (fun hx => absurd hx (by decide)) (fun _ => ?_)
            refine z_ldcw (x := -1000000) dX9_gain_69 zqX9_411 (by decide) ?_
            refine z_iret dX9_gain_72 rfl (Nat.le_refl _) (Nat.le_refl _) (zext_rf _) (fun hrr => ?_)
            have hw9 := hQ _ hF
            unfold zvGain at hw9
            rw [if_neg (by omega)] at hw9
            exact hw9
          · try simp only [zup_ap, zup_row, ne_eq, not_false_eq_true, zres, Int.toNat_natCast, reduceIte, Nat.reduceEqDiff, Nat.reduceAdd, and_self, and_true, true_and, and_false, false_and]
            refine z_if_ne (t := 73) dX9_gain_66 (by rfl) (fun _ => ?_) (fun hx => absurd hx (by decide))
            refine z_iconst dX9_gain_73 (by decide) ?_
            refine z_is6 dX9_gain_74 (Nat.le_of_ble_eq_true rfl) rfl ?_
            refine X9_gn_d hΓ (fun y2 h2 hE2 hD2 => ?_) _ 0 _ (Nat.lt_succ_self _) (by omega) (fun _ _ => rfl) (fun j hj => absurd hj (by omega))
            replace hF := zfr_1 hF (fun _ => rfl) hE2
            refine z_al0 dX9_gain_100 (by first | decide | omega | assumption) ?_
            refine zcv0 dX9_gain_101 zkX9_383 ziX9_forgetPaid zsX9_forgetPaid (zkB hΓ rfl) (by decide) rfl (Nat.le_of_ble_eq_true rfl) (by decide) (by first | decide | omega) ⟨Nat.le_refl _, Nat.le_refl _⟩ (X9_forgetPaid_ct hΓ (fun h3 hE3 hD3 _ => ?_))
            try simp only [zup_ap, zup_row, ne_eq, not_false_eq_true, zres, Int.toNat_natCast, reduceIte, Nat.reduceEqDiff, Nat.reduceAdd, and_self, and_true, true_and, and_false, false_and]
            replace hF := zfr_1 hF (fun _ => rfl) hE3
            refine z_iconst dX9_gain_104 (by decide) ?_
            refine z_is6 dX9_gain_105 (Nat.le_of_ble_eq_true rfl) rfl ?_
            refine X9_gn_r hΓ (fun y4 h4 hE4 hD4 => ?_) _ 0 _ (Nat.lt_succ_self _) (by omega) (fun _ _ => rfl) (fun j hj => absurd hj (by omega))
            replace hF := zfr_1 hF (fun _ => rfl) hE4
            obtain ⟨i, rfl⟩ := Int.eq_ofNat_of_zero_le (show 0 ≤ i by omega)
            obtain ⟨hold, rfl⟩ := Int.eq_ofNat_of_zero_le (show 0 ≤ hold by omega)
            obtain ⟨L, rfl⟩ := Int.eq_ofNat_of_zero_le (show 0 ≤ L by omega)
            obtain ⟨d, hd⟩ := Int.eq_ofNat_of_zero_le (show 0 ≤ h0 89 29 by omega)
            have hS5 : zGs h0 (zup (zup h4 89 46 (hold : Int)) 89 45 (-1)) L hold (-1, fun _ => -1) := ⟨zfr_up (zfr_up hF rfl) rfl, zPm_0 (fun k hk => by rw [zup_row (by decide), zup_row (by decide), hE4 109 (by decide)]; exact hD3 k hk) hx2.2, fun g9 i9 q9 d9 a1 a2 a3 a4 => Or.inl (by rw [zup_row (by decide), zup_row (by decide), hE4 110 (by decide), hE3 110 (by decide)]; exact hD2 _ (zDi_b (by omega) (by omega) a3 a4)), rfl, fun x => absurd rfl x, rfl⟩
            refine z_al0 dX9_gain_128 (by first | decide | omega | assumption) ?_
            refine z_il3 dX9_gain_129 ?_
            refine z_putI zfX9_402 dX9_gain_130 (zkB hΓ rfl) rfl rfl ?_
            refine z_al0 dX9_gain_133 (by first | decide | omega | assumption) ?_
            refine z_iconst dX9_gain_134 (by decide) ?_
            refine z_putI zfX9_395 dX9_gain_135 (zkB hΓ rfl) rfl rfl ?_
            refine z_al0 dX9_gain_138 (by first | decide | omega | assumption) ?_
            refine z_iconst dX9_gain_139 (by decide) ?_
            refine z_il4 dX9_gain_140 ?_
            refine z_il1 dX9_gain_142 ?_
            refine z_al0 dX9_gain_143 (by first | decide | omega | assumption) ?_
            refine z_getI zfX9_288 dX9_gain_144 (zkB hΓ rfl) rfl ?_
            rw [hS5.1 89 29 rfl, hd]
            try simp only [zup_ap, zup_row, ne_eq, not_false_eq_true, zres, Int.toNat_natCast, reduceIte, Nat.reduceEqDiff, Nat.reduceAdd, and_self, and_true, true_and, and_false, false_and]
            refine z_il2 dX9_gain_147 ?_
            refine z_iconst dX9_gain_148 (by decide) ?_
            refine z_iconst dX9_gain_149 (by decide) ?_
            refine zcv7 dX9_gain_150 zkX9_405 ziX9_goLeg zsX9_goLeg (zkB hΓ rfl) (by decide) rfl (Nat.le_of_ble_eq_true rfl) (by decide) (by first | decide | omega) ⟨Nat.le_refl _, Nat.le_refl _⟩ (X9_goLeg_top (g := 0) (R := fun _ => -1) hI (by omega) (by omega) hg1.2 (by omega) (by omega) hS5 (fun h9 hS9 _ => ?_))
            try simp only [zup_ap, zup_row, ne_eq, not_false_eq_true, zres, Int.toNat_natCast, reduceIte, Nat.reduceEqDiff, Nat.reduceAdd, and_self, and_true, true_and, and_false, false_and]
            have hge : -1 ≤ _ := zLg_ge (h := h0) (hold := hold) (L := L) L i d m 0 0 (fun _ => -1) (-1, fun _ => -1)
            refine z_al0 dX9_gain_153 (by first | decide | omega | assumption) ?_
            refine z_getI zfX9_395 dX9_gain_154 (zkB hΓ rfl) rfl ?_
            rw [hS9.2.2.2.1]
            try simp only [zup_ap, zup_row, ne_eq, not_false_eq_true, zres, Int.toNat_natCast, reduceIte, Nat.reduceEqDiff, Nat.reduceAdd, and_self, and_true, true_and, and_false, false_and]
            refine z_iconst dX9_gain_157 (by decide) ?_
            refine z_icmp_ne (t := 167) dX9_gain_158 (by rfl) (fun ht158 => ?_) (fun hf158 => ?_)
            · refine z_il5 dX9_gain_167 ?_
              refine z_iconst dX9_gain_169 (by decide) ?_
              refine z_icmp_ne (t := 182) dX9_gain_170 (by rfl) (fun ht170 => ?_) (fun hf170 => ?_)
              · refine z_al0 dX9_gain_182 (by first | decide | omega | assumption) ?_
                refine z_getR zfX9_101 dX9_gain_183 (zkB hΓ rfl) rfl (zsB hΓ rfl) (zvB hΓ (by decide)) ?_
                refine z_il5 dX9_gain_186 ?_
                refine z_iald dX9_gain_188 (zkB hΓ rfl) (by omega) (by omega) ?_
                rw [hS9.2.2.2.2.1 (by omega) _ (by omega)]
                try simp only [zup_ap, zup_row, ne_eq, not_false_eq_true, zres, Int.toNat_natCast, reduceIte, Nat.reduceEqDiff, Nat.reduceAdd, and_self, and_true, true_and, and_false, false_and]
                refine z_iret dX9_gain_189 rfl (Nat.le_refl _) (Nat.le_refl _) (zext_rf _) (fun hrr => ?_)
                have hw9 := hQ _ hS9.1
                unfold zvGain at hw9
                rw [if_pos (by omega), Int.toNat_natCast, Int.toNat_natCast, Int.toNat_natCast, hd, Int.toNat_natCast] at hw9
                first
                | (rw [if_pos (by omega)] at hw9; exact hw9)
                | (rw [if_neg (by omega), if_pos (by omega)] at hw9; exact hw9)
                | (rw [if_neg (by omega), if_neg (by omega)] at hw9; exact hw9)
              · refine z_al0 dX9_gain_173 (by first | decide | omega | assumption) ?_
                refine z_getI zfX9_395 dX9_gain_174 (zkB hΓ rfl) rfl ?_
                rw [hS9.2.2.2.1]
                try simp only [zup_ap, zup_row, ne_eq, not_false_eq_true, zres, Int.toNat_natCast, reduceIte, Nat.reduceEqDiff, Nat.reduceAdd, and_self, and_true, true_and, and_false, false_and]
                refine zrngS (fun hr176 => ?_)
                refine z_il2 dX9_gain_177 ?_
                refine z_isub dX9_gain_178 (by omega) ?_
                refine z_goto (t := 189) dX9_gain_179 (by rfl) ?_
                refine z_iret dX9_gain_189 rfl (Nat.le_refl _) (Nat.le_refl _) (zext_rf _) (fun hrr => ?_)
                have hw9 := hQ _ hS9.1
                unfold zvGain at hw9
                rw [if_pos (by omega), Int.toNat_natCast, Int.toNat_natCast, Int.toNat_natCast, hd, Int.toNat_natCast] at hw9
                first
                | (rw [if_pos (by omega)] at hw9; exact hw9)
                | (rw [if_neg (by omega), if_pos (by omega)] at hw9; exact hw9)
                | (rw [if_neg (by omega), if_neg (by omega)] at hw9; exact hw9)
            · refine z_ldcw (x := -1000000) dX9_gain_161 zqX9_411 (by decide) ?_
              refine z_goto (t := 189) dX9_gain_164 (by rfl) ?_
              refine z_iret dX9_gain_189 rfl (Nat.le_refl _) (Nat.le_refl _) (zext_rf _) (fun hrr => ?_)
              have hw9 := hQ _ hS9.1
              unfold zvGain at hw9
              rw [if_pos (by omega), Int.toNat_natCast, Int.toNat_natCast, Int.toNat_natCast, hd, Int.toNat_natCast] at hw9
              first
              | (rw [if_pos (by omega)] at hw9; exact hw9)
              | (rw [if_neg (by omega), if_pos (by omega)] at hw9; exact hw9)
              | (rw [if_neg (by omega), if_neg (by omega)] at hw9; exact hw9)
