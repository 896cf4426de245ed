/-! rows copied; GOODS, deals: class and reference -/
set_option maxRecDepth 40000 in
theorem zcpN : Cond.native arraycopyName ∈ zTB := ztb 524 (by rfl) (by decide +kernel)
set_option maxRecDepth 40000 in
theorem zcpS : Cond.static arraycopyName ∈ zTB := ztb 523 (by rfl) (by decide +kernel)
set_option maxRecDepth 40000 in
theorem zcpI : Cond.initialized "java/lang/System" ∈ zTB := ztb 112 (by rfl) (by decide +kernel)
set_option maxRecDepth 40000 in
theorem zcpyX0_39 : Cond.methodLink RX0 39 arraycopyName ∈ zTB := ztb 522 (by rfl) (by decide +kernel)
set_option maxRecDepth 40000 in
theorem zcpyJ7_150 : Cond.methodLink RJ7 150 arraycopyName ∈ zTB := ztb 557 (by rfl) (by decide +kernel)
set_option maxRecDepth 40000 in
theorem zcpyX6_157 : Cond.methodLink RX6 157 arraycopyName ∈ zTB := ztb 869 (by rfl) (by decide +kernel)
set_option maxRecDepth 40000 in
theorem zcpyX3_40 : Cond.methodLink RX3 40 arraycopyName ∈ zTB := ztb 1012 (by rfl) (by decide +kernel)
def zcpy (h : zM) (r0 r1 n : Nat) : zM := fun a b => if a = r1 ∧ b < n then h r0 b else h a b
theorem zcpy_row {h : zM} {r0 r1 n a : Nat} (ha : a ≠ r1) : zcpy h r0 r1 n a = h a := by
  funext b
  simp [zcpy, ha]
theorem zcpy_at (h : zM) (r0 r1 n : Nat) {j : Nat} (hj : j < n) : zcpy h r0 r1 n r1 j = h r0 j := if_pos ⟨rfl, hj⟩
theorem zws_st {Γ : zC} {h h' : zM} {r : Nat} {q : zK} (hk : zkd Γ r = some q) (he : ∀ a, a ≠ r → h' a = h a) : zws Γ h' = (zws Γ h).set (r - 1) (zad Γ r, zcell Γ r (h' r) q) := by
  cases r with
  | zero => cases hk
  | succ k =>
    have hk' : (zks Γ)[k]? = some q := hk
    have hlt : k < (zks Γ).length := (List.getElem?_eq_some_iff.mp hk').1
    apply List.ext_getElem?
    intro i
    show _ = ((zws Γ h).set k _)[i]?
    rw [List.getElem?_set]
    by_cases hik : k = i
    · subst hik
      have hl : k < (zws Γ h).length := by unfold zws; simp; exact hlt
      simp only [if_true, hl]
      have := zws_at h' (r := k + 1) hk
      exact this
    · simp only [hik, if_false]
      unfold zws
      rw [List.getElem?_map, List.getElem?_map]
      by_cases hil : i < (zks Γ).length
      · rw [List.getElem?_range hil]
        simp only [Option.map_some]
        rw [he _ (by omega)]
      · rw [List.getElem?_eq_none (by simp; omega)]
        rfl
theorem zom_st {Γ : zC} {h h' : zM} {r : Nat} {q : zK} (hm : zom Γ h) (hk : zkd Γ r = some q) (he : ∀ a, a ≠ r → h' a = h a) (hq : zoc Γ (h' r) q) : zom Γ h' := by
  intro k p hp
  by_cases hr : k + 1 = r
  · subst hr
    have hk' : (zks Γ)[k]? = some q := hk
    rw [hk'] at hp
    cases hp
    exact hq
  · rw [he _ hr]
    exact hm k p hp
theorem z_copy {F : zF} {k n : Nat} {Γ : zC} {h : zM} {pc : Nat} {ls : List (Option zV)} {st : List zV} {idx r0 r1 n0 n1 : Nat} {N : Int} (hd : decode F.2.1.2.1 pc = .ok (.invokestatic idx, 3)) (hL : Cond.methodLink F.2.1.1.cls idx arraycopyName ∈ zTB) (hk0 : zkd Γ r0 = some (.inr (0, n0))) (hk1 : zkd Γ r1 = some (.inr (0, n1))) (h0 : 0 ≤ N) (h1 : N ≤ n0) (h2 : N ≤ n1) (hfr : 1 ≤ F.2.2.1.frames) (hlc : 40 ≤ F.2.2.1.locals) (hcat : (st.map zct).sum ≤ 8)
    (kk : zG F k n Γ (zcpy h r0 r1 N.toNat) (pc + 3) ls st) : zG F k n Γ h pc ls (zI N :: zI 0 :: zR r1 :: zI 0 :: zR r0 :: st) := by
  intro p e s m args below meth c H locs lsr hB hl hlv hst hW hS hA
  rw [List.map_cons, List.map_cons, List.map_cons, List.map_cons, List.map_cons, zref hk0, zref hk1]
  have hN : zo32 N := zvh hst
  have hts := hB.2.2.2.2.2.1
  have e1 := z32cl hN
  have e0 : (Int32.ofInt 0).toNatClampNeg = 0 := by decide
  have ew : nativeFrameWords "java/lang/System" "arraycopy" 5 = 7 := by decide
  refine va_copyi hB.1 hB.2.1 (hB.2.2.2.1.trans hl.1.symm) hB.2.2.2.2.1 (hts _ hL) (hts _ zcpN) (hts _ zcpS) (hts _ zcpI) hW.2.2.1 hW.2.1 hW.2.2.2 hS (r0 - 1) (r1 - 1) 0 0 (zws_at h hk0) (zws_at h hk1) (zty_at (by decide)) (zty_at (by decide)) rfl (sp := Int32.ofInt 0) (dp := Int32.ofInt 0) (n := Int32.ofInt N) (by decide) (by decide) (by rw [show (0 : Int32) = Int32.ofInt 0 from rfl, z32lt hN (by decide)]; omega) (by rw [e0, e1]; omega) (by rw [e0, e1]; omega) (fun i hi => rfl) hfr (by rw [zct_s, ew]; omega) hd (fun H1 locs1 hP1 hD1 hS1 => ?_)
  have e2 : zws Γ (zcpy h r0 r1 N.toNat) = (zws Γ h).set (r1 - 1) (zad Γ r1, .inl (zcA Γ 0, n1, .inl (va_cpy (fun j => Int32.ofInt (h r0 j)) (fun j => Int32.ofInt (h r1 j)) (Int32.ofInt 0).toNatClampNeg (Int32.ofInt 0).toNatClampNeg (Int32.ofInt N).toNatClampNeg))) := by
    rw [zws_st hk1 (fun a ha => zcpy_row ha)]
    congr 1
    unfold zcell
    simp only [show (0 : Nat) ≤ 2 by decide, if_true]
    congr 5
    funext j
    rw [e0, e1]
    unfold va_cpy zcpy
    by_cases hj : j < N.toNat
    · rw [if_pos ⟨rfl, hj⟩, if_pos ⟨Nat.zero_le _, by omega⟩, Nat.zero_add, Nat.sub_zero]
    · rw [if_neg (fun x => hj x.2), if_neg (fun x => hj (by have := x.2; omega))]
  have hom : zom Γ (zcpy h r0 r1 N.toNat) := zom_st hW.1 hk1 (fun a ha => zcpy_row ha) ⟨(zom_at hW.1 hk1).1, fun j hj => by
    show zo32 (zcpy h r0 r1 N.toNat r1 j)
    unfold zcpy
    split
    · exact zom_a hW.1 hk0 (j := j) (by omega)
    · exact zom_a hW.1 hk1 hj⟩
  exact kk p e s m args below meth c H1 locs1 lsr hB hl hlv (zvt (zvt (zvt (zvt (zvt hst))))) ⟨hom, by rw [e2]; exact hP1, hW.2.2.1, by rw [e2]; exact hD1⟩ hS1 hA
/-! rows of bits in an int -/
theorem z32n {v : Int32} {n : Nat} (h : v.toBitVec.toNat = n) (hn : n < 2 ^ 31) : v.toInt = (n : Int) := by
  show v.toBitVec.toInt = _
  rw [BitVec.toInt_eq_toNat_of_lt (by omega), h]
theorem z32b {n : Nat} (hn : n < 2 ^ 31) : (Int32.ofInt (n : Int)).toBitVec.toNat = n := by
  rw [Int32.toBitVec_ofInt, BitVec.ofInt_natCast, BitVec.toNat_ofNat]
  exact Nat.mod_eq_of_lt (by omega)
theorem zior_n {a b : Nat} (ha : a < 2 ^ 18) (hb : b < 2 ^ 18) : zf_ior (a : Int) (b : Int) = ((a ||| b : Nat) : Int) := by
  unfold zf_ior
  have h9 : a ||| b < 2 ^ 18 := Nat.or_lt_two_pow ha hb
  refine z32n ?_ (by omega)
  rw [Int32.toBitVec_or, BitVec.toNat_or, z32b (by omega), z32b (by omega)]
theorem ziand_n {a b : Nat} (ha : a < 2 ^ 31) (hb : b < 2 ^ 31) : zf_iand (a : Int) (b : Int) = ((a &&& b : Nat) : Int) := by
  unfold zf_iand
  have h9 : a &&& b ≤ a := Nat.and_le_left
  refine z32n ?_ (by omega)
  rw [Int32.toBitVec_and, BitVec.toNat_and, z32b (by omega), z32b (by omega)]
theorem zishl_1 {k : Nat} (hk : k < 18) : zf_ishl 1 (k : Int) = ((2 ^ k : Nat) : Int) := by
  have key : ∀ b : Fin 18, zf_ishl 1 (b.val : Int) = ((2 ^ b.val : Nat) : Int) := by decide +kernel
  exact key ⟨k, hk⟩
theorem z2k {k : Nat} (hk : k < 18) : 2 ^ k < 2 ^ 18 := Nat.pow_lt_pow_right (by decide) hk
def zDb (x : Int) (f : Nat → Bool) : Prop := ∃ b : Nat, x = (b : Int) ∧ b < 2 ^ 18 ∧ ∀ k, k < 18 → b.testBit k = f k
theorem zDb_0 : zDb 0 (fun _ => false) := ⟨0, rfl, by decide, fun k _ => Nat.zero_testBit k⟩
theorem zDb_cg {x : Int} {f g : Nat → Bool} (h : zDb x f) (e : ∀ k, k < 18 → f k = g k) : zDb x g := by
  obtain ⟨b, h1, h2, h3⟩ := h
  exact ⟨b, h1, h2, fun k hk => (h3 k hk).trans (e k hk)⟩
theorem zDb_or {x : Int} {f : Nat → Bool} {k : Nat} (h : zDb x f) (hk : k < 18) : zDb (zf_ior x ((2 ^ k : Nat) : Int)) (fun j => f j || decide (j = k)) := by
  obtain ⟨a, rfl, ha, hf⟩ := h
  refine ⟨a ||| 2 ^ k, zior_n ha (z2k hk), Nat.or_lt_two_pow ha (z2k hk), fun j hj => ?_⟩
  rw [Nat.testBit_or, hf j hj, Nat.testBit_two_pow]
  congr 1
  by_cases e : j = k
  · subst e; simp
  · rw [decide_eq_false e, decide_eq_false (fun x => e x.symm)]
theorem zDb_at {x : Int} {f : Nat → Bool} {k : Nat} (h : zDb x f) (hk : k < 18) : zf_iand x ((2 ^ k : Nat) : Int) = 0 ↔ f k = false := by
  obtain ⟨a, rfl, ha, hf⟩ := h
  rw [ziand_n (by omega) (by have := z2k hk; omega), ← hf k hk]
  constructor
  · intro e
    have e2 : a &&& 2 ^ k = 0 := by omega
    have e3 : (a &&& 2 ^ k).testBit k = false := by rw [e2]; exact Nat.zero_testBit k
    rw [Nat.testBit_and, Nat.testBit_two_pow_self, Bool.and_true] at e3
    exact e3
  · intro e
    have e2 : a &&& 2 ^ k = 0 := by
      apply Nat.eq_of_testBit_eq
      intro j
      rw [Nat.testBit_and, Nat.testBit_two_pow, Nat.zero_testBit]
      by_cases c : k = j
      · subst c; rw [e]; rfl
      · rw [decide_eq_false c, Bool.and_false]
    rw [e2]; rfl
/-! what may be bought and sold -/
def zdl (h : zM) (g i q : Nat) (d : Int) : Bool := decide (zFo h (i : Int) (q : Int) d = 0) && (decide ((q : Int) * h 107 (6 * g + i) ≤ 200) && zpd (zbF h (i : Int) d) 3 (h 89 32).toNat ((q : Int) * h 107 (6 * g + i)).toNat)
def zdF2 (h : zM) (i : Nat) (d : Int) (m : Nat) : Nat → Bool := fun k => decide (k < m) && zdl h (k / 6) i (k % 6 + 1) d
theorem zpd_f {b : Nat → Int} {hd s : Nat} (h : zpd b 3 hd s = true) : b s = 0 := by
  unfold zpd at h
  have h1 := of_decide_eq_true h
  rcases zlf_b (fun k => zcm b 3 hd k s && zco b 3 k) 60 1 with e | ⟨e1, e2, e3⟩
  · exact absurd e h1
  · generalize hk : (zlf (fun k => zcm b 3 hd k s && zco b 3 k) 60 1).toNat = k at e3
    have hk1 : 1 ≤ k := by omega
    simp only [Bool.and_eq_true] at e3
    obtain ⟨k, rfl⟩ : ∃ j, k = j + 1 := ⟨k - 1, by omega⟩
    have e4 := e3.1
    unfold zcm at e4
    rw [Bool.and_eq_true] at e4
    have e5 := e4.1
    simp only [zto, Bool.or_eq_true, decide_eq_true_eq] at e5
    omega
theorem zks79 {Γ : zC} (hΓ : zBase Γ) {j : Nat} (h : j < 3) : zkd Γ (79 + j) = some (.inr (0, 6)) := by
  have key : ∀ k : Fin 3, zkb0 (79 + k.val) = some (.inr (0, 6)) := by decide +kernel
  exact zkB hΓ (key ⟨j, h⟩)
theorem zsr78 {Γ : zC} (hΓ : zBase Γ) {j : Nat} (h : j < 3) : zsr Γ 78 j = some (79 + j) := by
  rw [hΓ.1]; unfold zsrG
  rw [if_neg (by decide), if_neg (by decide), if_neg (by decide), if_pos rfl, if_pos h]
theorem zSS79 {j : Nat} (h : j < 3) (q : Nat) : zSS (79 + j) q = false := by
  rcases (show j = 0 ∨ j = 1 ∨ j = 2 by omega) with rfl | rfl | rfl <;> rfl
theorem zmq {q : Nat} {p : Int} (hq : q ≤ 6) (h0 : 1 ≤ p) (h9 : p ≤ 99) : 0 ≤ (q : Int) * p ∧ (q : Int) * p ≤ 594 ∧ (1 ≤ q → 1 ≤ (q : Int) * p) := by
  rcases (show q = 0 ∨ q = 1 ∨ q = 2 ∨ q = 3 ∨ q = 4 ∨ q = 5 ∨ q = 6 by omega) with rfl | rfl | rfl | rfl | rfl | rfl | rfl <;> omega
set_option maxRecDepth 4000 in
theorem X6_dealBit_ct {l : Launch} {Γ : zC} {h : zM} {Q : Option zV → zC → zM → Prop} {g q : Nat} (hg : g < 3) (hq : 1 ≤ q ∧ q ≤ 6) (hQ : Q (some (zI ((2 ^ (6 * g + q - 1) : Nat) : Int))) Γ h) : zCT l mX6_dealBit 0 0 0 Γ [zI (g : Int), zI (q : Int)] h Q := by
  refine zCT_of (by decide) (Nat.le_of_ble_eq_true rfl) (ls := [some (zI (g : Int)), some (zI (q : Int))]) rfl ?_
  refine z_iconst dX6_dealBit_0 (by decide) ?_
  refine z_il0 dX6_dealBit_1 ?_
  refine z_bipush (x := 6) dX6_dealBit_2 (by rfl) (by decide) ?_
  refine z_imul dX6_dealBit_4 (by omega) ?_
  refine z_il1 dX6_dealBit_5 ?_
  refine z_iadd dX6_dealBit_6 (by omega) ?_
  refine z_iconst dX6_dealBit_7 (by decide) ?_
  refine z_isub dX6_dealBit_8 (by omega) ?_
  rw [show (g : Int) * 6 + (q : Int) - 1 = ((6 * g + q - 1 : Nat) : Int) by omega]
  refine z_ishl dX6_dealBit_9 ?_
  rw [zishl_1 (by omega)]
  refine z_iret dX6_dealBit_10 rfl (Nat.le_refl _) (Nat.le_refl _) (zext_rf _) (fun hrr => ?_)
  exact hQ
set_option maxRecDepth 4000 in
theorem X6_allows_ct {l : Launch} {Γ : zC} {h : zM} {Q : Option zV → zC → zM → Prop} {x : Int} {f : Nat → Bool} {g q : Nat} (hD : zDb x f) (hg : g < 3) (hq : 1 ≤ q ∧ q ≤ 6) (hQ0 : f (6 * g + q - 1) = false → Q (some (zI 0)) Γ h) (hQ1 : f (6 * g + q - 1) = true → Q (some (zI 1)) Γ h) : zCT l mX6_allows 1 0 0 Γ [zI x, zI (g : Int), zI (q : Int)] h Q := by
  refine zCT_of (by decide) (Nat.le_of_ble_eq_true rfl) (ls := [some (zI x), some (zI (g : Int)), some (zI (q : Int))]) rfl ?_
  refine z_il0 dX6_allows_0 ?_
  refine z_il1 dX6_allows_1 ?_
  refine z_il2 dX6_allows_2 ?_
  refine zcs2 dX6_allows_3 zkX6_77 ztX6_dealBit (Nat.le_of_ble_eq_true rfl) (by decide) (by first | decide | omega) ⟨Nat.le_refl _, Nat.le_refl _⟩ (X6_dealBit_ct hg hq (fun _ => ?_))
  try simp only [zup_ap, zup_row, ne_eq, not_false_eq_true, zres, Int.toNat_natCast, reduceIte, Nat.reduceEqDiff, Nat.reduceAdd, and_self, and_true, true_and, and_false, false_and]
  refine z_iand dX6_allows_6 ?_
  refine z_if_eq (t := 14) dX6_allows_7 (by rfl) (fun ht7 => ?_) (fun hf7 => ?_)
  · refine z_iconst dX6_allows_14 (by decide) ?_
    refine z_zret dX6_allows_15 rfl (Nat.le_refl _) (Nat.le_refl _) (zext_rf _) (by first | exact Or.inl rfl | exact Or.inr rfl | omega) ?_
    have h9 := zDb_at (k := 6 * g + q - 1) hD (by omega)
    cases hf : f (6 * g + q - 1) with
    | false =>
      first
      | exact hQ0 hf
      | (exfalso; have := h9.2 hf; omega)
    | true =>
      first
      | exact hQ1 hf
      | (exfalso
         have h8 := h9.1 (by omega)
         rw [hf] at h8; cases h8)
  · refine z_iconst dX6_allows_10 (by decide) ?_
    refine z_goto (t := 15) dX6_allows_11 (by rfl) ?_
    refine z_zret dX6_allows_15 rfl (Nat.le_refl _) (Nat.le_refl _) (zext_rf _) (by first | exact Or.inl rfl | exact Or.inr rfl | omega) ?_
    have h9 := zDb_at (k := 6 * g + q - 1) hD (by omega)
    cases hf : f (6 * g + q - 1) with
    | false =>
      first
      | exact hQ0 hf
      | (exfalso; have := h9.2 hf; omega)
    | true =>
      first
      | exact hQ1 hf
      | (exfalso
         have h8 := h9.1 (by omega)
         rw [hf] at h8; cases h8)
def zfL (h h' : zM) : Prop := ∀ q, q ≠ 41 → q ≠ 42 → q ≠ 43 → (q < 122 ∨ q % 3 ≠ 1) → h' q = h q
set_option maxRecDepth 4000 in
theorem X6_lD_q {l : Launch} {Γ : zC} {h0 h : zM} {Q : Option zV → zC → zM → Prop} {i g hd : Nat} {d : Int} (hI : zIv Γ h0) (hF : zfr zSS h0 h) (hv : (i : Int) < h0 89 22) (hg : (g : Int) < h0 89 39) (hhd : h0 89 32 = (hd : Int)) (hP : zPu h (zbF h0 (i : Int) d) 3 hd) (hC : zCf h (zbF h0 (i : Int) d) 3 hd) (hK : ∀ x : Int, zDb x (zdF2 h0 i d (6 * g + 7 - 1)) → zG (zFn l mX6_lawfulDeals 4 0 0 Γ Q) 0 0 Γ h 118 [some (zR 77), some (zI (i : Int)), some (zI d), some (zI (hd : Int)), some (zI x), some (zI (g : Int)), some (zI ((7 : Nat) : Int))] []) : ∀ (m : Nat) (q : Nat) (x : Int), 7 - q < m → (1 ≤ q ∧ q ≤ 7) → zDb x (zdF2 h0 i d (6 * g + q - 1)) → zG (zFn l mX6_lawfulDeals 4 0 0 Γ Q) 0 0 Γ h 59 [some (zR 77), some (zI (i : Int)), some (zI d), some (zI (hd : Int)), some (zI x), some (zI (g : Int)), some (zI (q : Int))] [] := by
  have hΓ := hI.base
  have hx2 := hI.isl
  have hx7 := hI.gds
  intro m
  induction m with
  | zero => intros; omega
  | succ m ih =>
    intro q x hm hq hD
    refine z_il6 dX6_lawfulDeals_59 ?_
    refine z_bipush (x := 6) dX6_lawfulDeals_61 (by rfl) (by decide) ?_
    refine z_icmp_gt (t := 118) dX6_lawfulDeals_63 (by rfl) (fun ht63 => ?_) (fun hf63 => ?_)
    · have eq9 : q = 7 := by omega
      subst eq9
      exact hK _ hD
    · refine z_al0 dX6_lawfulDeals_66 (by first | decide | omega | assumption) ?_
      refine z_getR zfX6_15 dX6_lawfulDeals_67 (zkB hΓ rfl) rfl (zsB hΓ rfl) (zvB hΓ (by decide)) ?_
      refine z_il6 dX6_lawfulDeals_70 ?_
      refine zcv1 dX6_lawfulDeals_72 zkX6_70 ziX4_isBarred zsX4_isBarred (zkB hΓ rfl) (by decide) rfl (Nat.le_of_ble_eq_true rfl) (by decide) (by first | decide | omega) ⟨Nat.le_refl _, Nat.le_refl _⟩ (X4_isBarred_ct hΓ hP (n := q) (by omega) (fun hb9 _ => ?_) (fun hb9 _ => ?_))
      · try simp only [zup_ap, zup_row, ne_eq, not_false_eq_true, zres, Int.toNat_natCast, reduceIte, Nat.reduceEqDiff, Nat.reduceAdd, and_self, and_true, true_and, and_false, false_and]
        refine z_if_ne (t := 112) dX6_lawfulDeals_75 (by rfl) (fun hx => absurd hx (by decide)) (fun _ => ?_)
        refine z_al0 dX6_lawfulDeals_78 (by first | decide | omega | assumption) ?_
        refine z_getR zfX6_15 dX6_lawfulDeals_79 (zkB hΓ rfl) rfl (zsB hΓ rfl) (zvB hΓ (by decide)) ?_
        refine z_il6 dX6_lawfulDeals_82 ?_
        refine z_al0 dX6_lawfulDeals_84 (by first | decide | omega | assumption) ?_
        refine z_getR zfX6_21 dX6_lawfulDeals_85 (zkB hΓ rfl) rfl (zsB hΓ rfl) (zvB hΓ (by decide)) ?_
        refine z_il5 dX6_lawfulDeals_88 ?_
        refine z_aald dX6_lawfulDeals_90 (zkB hΓ rfl) (Or.inl rfl) (by omega) (by omega) (q := 79 + g) (by rw [show (g : Int).toNat = g from Int.toNat_natCast g, zsr78 hΓ (by omega)]; rfl) (fun _ => zvB hΓ (Or.inl (by omega))) ?_
        refine z_il1 dX6_lawfulDeals_91 ?_
        refine z_iald dX6_lawfulDeals_92 (zks79 hΓ (by omega)) (by omega) (by omega) ?_
        try simp only [zup_ap, zup_row, ne_eq, not_false_eq_true, zres, Int.toNat_natCast, reduceIte, Nat.reduceEqDiff, Nat.reduceAdd, and_self, and_true, true_and, and_false, false_and]
        rw [hF (79 + g) _ (zSS79 (by omega) _), (hI.prc g i (by omega) (by omega)).1]
        have hp9 := (hI.prc g i (by omega) (by omega)).2
        have hm9 := zmq (q := q) (p := h0 107 (6 * g + i)) (by omega) hp9.1 hp9.2
        refine z_imul dX6_lawfulDeals_93 (by omega) ?_
        refine zcv1 dX6_lawfulDeals_94 zkX6_74 ziX4_isPaid zsX4_isPaid (zkB hΓ rfl) (by decide) rfl (Nat.le_of_ble_eq_true rfl) (by decide) (by first | decide | omega) ⟨Nat.le_refl _, Nat.le_refl _⟩ (X4_isPaid_ct hΓ hP hC (fun hi9 _ => ?_) (fun hi9 _ => ?_))
        · try simp only [zup_ap, zup_row, ne_eq, not_false_eq_true, zres, Int.toNat_natCast, reduceIte, Nat.reduceEqDiff, Nat.reduceAdd, and_self, and_true, true_and, and_false, false_and]
          refine z_if_eq (t := 112) dX6_lawfulDeals_97 (by rfl) (fun _ => ?_) (fun hx => absurd hx (by decide))
          refine z_ii6 dX6_lawfulDeals_112 (by omega) (Nat.le_of_ble_eq_true rfl) rfl ?_
          refine z_goto (t := 59) dX6_lawfulDeals_115 (by rfl) ?_
          first
          | (refine ih (q + 1) _ (by omega) (by omega) (zDb_cg hD (fun k hk => ?_))
             show (decide (k < 6 * g + q - 1) && _) = (decide (k < 6 * g + (q + 1) - 1) && _)
             by_cases ek : k = 6 * g + q - 1
             · have hz9 : zdl h0 (k / 6) i (k % 6 + 1) d = false := by
                 rw [show k / 6 = g by omega, show k % 6 + 1 = q by omega]
                 unfold zdl
                 first
                 | (rw [decide_eq_false (show ¬ zFo h0 (i : Int) (q : Int) d = 0 from hb9)]; rfl)
                 | (by_cases e2 : (q : Int) * h0 107 (6 * g + i) ≤ 200
                    · cases e3 : zpd (zbF h0 (i : Int) d) 3 (h0 89 32).toNat ((q : Int) * h0 107 (6 * g + i)).toNat with
                      | false => rw [Bool.and_false, Bool.and_false]
                      | true => rw [hhd, Int.toNat_natCast] at e3; exact absurd ⟨by omega, e2, e3⟩ hi9
                    · rw [decide_eq_false e2]; rw [Bool.false_and, Bool.and_false])
               rw [hz9, Bool.and_false, Bool.and_false]
             · rw [show decide (k < 6 * g + q - 1) = decide (k < 6 * g + (q + 1) - 1) by by_cases e4 : k < 6 * g + q - 1; rw [decide_eq_true e4, decide_eq_true (by omega)]; rw [decide_eq_false e4, decide_eq_false (by omega)]])
          | (refine ih (q + 1) _ (by omega) (by omega) (zDb_cg (zDb_or (k := 6 * g + q - 1) hD (by omega)) (fun k hk => ?_))
             show ((decide (k < 6 * g + q - 1) && _) || _) = (decide (k < 6 * g + (q + 1) - 1) && _)
             by_cases ek : k = 6 * g + q - 1
             · have hz9 : zdl h0 (k / 6) i (k % 6 + 1) d = true := by
                 rw [show k / 6 = g by omega, show k % 6 + 1 = q by omega]
                 unfold zdl
                 rw [decide_eq_true (show zFo h0 (i : Int) (q : Int) d = 0 from hb9), decide_eq_true hi9.2.1, hhd, Int.toNat_natCast, hi9.2.2]; rfl
               rw [hz9, decide_eq_true ek, decide_eq_true (show k < 6 * g + (q + 1) - 1 by omega), Bool.or_true]; rfl
             · rw [show decide (k < 6 * g + q - 1) = decide (k < 6 * g + (q + 1) - 1) by by_cases e4 : k < 6 * g + q - 1; rw [decide_eq_true e4, decide_eq_true (by omega)]; rw [decide_eq_false e4, decide_eq_false (by omega)], decide_eq_false ek, Bool.or_false])
        · try simp only [zup_ap, zup_row, ne_eq, not_false_eq_true, zres, Int.toNat_natCast, reduceIte, Nat.reduceEqDiff, Nat.reduceAdd, and_self, and_true, true_and, and_false, false_and]
          refine z_if_eq (t := 112) dX6_lawfulDeals_97 (by rfl) (fun hx => absurd hx (by decide)) (fun _ => ?_)
          refine z_il4 dX6_lawfulDeals_100 ?_
          refine z_il5 dX6_lawfulDeals_102 ?_
          refine z_il6 dX6_lawfulDeals_104 ?_
          refine zcs2 dX6_lawfulDeals_106 zkX6_77 ztX6_dealBit (Nat.le_of_ble_eq_true rfl) (by decide) (by first | decide | omega) ⟨Nat.le_refl _, Nat.le_refl _⟩ (X6_dealBit_ct (g := g) (q := q) (by omega) (by omega) (fun _ => ?_))
          try simp only [zup_ap, zup_row, ne_eq, not_false_eq_true, zres, Int.toNat_natCast, reduceIte, Nat.reduceEqDiff, Nat.reduceAdd, and_self, and_true, true_and, and_false, false_and]
          refine z_ior dX6_lawfulDeals_109 ?_
          refine z_is4 dX6_lawfulDeals_110 (Nat.le_of_ble_eq_true rfl) rfl ?_
          refine z_ii6 dX6_lawfulDeals_112 (by omega) (Nat.le_of_ble_eq_true rfl) rfl ?_
          refine z_goto (t := 59) dX6_lawfulDeals_115 (by rfl) ?_
          first
          | (refine ih (q + 1) _ (by omega) (by omega) (zDb_cg hD (fun k hk => ?_))
             show (decide (k < 6 * g + q - 1) && _) = (decide (k < 6 * g + (q + 1) - 1) && _)
             by_cases ek : k = 6 * g + q - 1
             · have hz9 : zdl h0 (k / 6) i (k % 6 + 1) d = false := by
                 rw [show k / 6 = g by omega, show k % 6 + 1 = q by omega]
                 unfold zdl
                 first
                 | (rw [decide_eq_false (show ¬ zFo h0 (i : Int) (q : Int) d = 0 from hb9)]; rfl)
                 | (by_cases e2 : (q : Int) * h0 107 (6 * g + i) ≤ 200
                    · cases e3 : zpd (zbF h0 (i : Int) d) 3 (h0 89 32).toNat ((q : Int) * h0 107 (6 * g + i)).toNat with
                      | false => rw [Bool.and_false, Bool.and_false]
                      | true => rw [hhd, Int.toNat_natCast] at e3; exact absurd ⟨by omega, e2, e3⟩ hi9
                    · rw [decide_eq_false e2]; rw [Bool.false_and, Bool.and_false])
               rw [hz9, Bool.and_false, Bool.and_false]
             · rw [show decide (k < 6 * g + q - 1) = decide (k < 6 * g + (q + 1) - 1) by by_cases e4 : k < 6 * g + q - 1; rw [decide_eq_true e4, decide_eq_true (by omega)]; rw [decide_eq_false e4, decide_eq_false (by omega)]])
          | (refine ih (q + 1) _ (by omega) (by omega) (zDb_cg (zDb_or (k := 6 * g + q - 1) hD (by omega)) (fun k hk => ?_))
             show ((decide (k < 6 * g + q - 1) && _) || _) = (decide (k < 6 * g + (q + 1) - 1) && _)
             by_cases ek : k = 6 * g + q - 1
             · have hz9 : zdl h0 (k / 6) i (k % 6 + 1) d = true := by
                 rw [show k / 6 = g by omega, show k % 6 + 1 = q by omega]
                 unfold zdl
                 rw [decide_eq_true (show zFo h0 (i : Int) (q : Int) d = 0 from hb9), decide_eq_true hi9.2.1, hhd, Int.toNat_natCast, hi9.2.2]; rfl
               rw [hz9, decide_eq_true ek, decide_eq_true (show k < 6 * g + (q + 1) - 1 by omega), Bool.or_true]; rfl
             · rw [show decide (k < 6 * g + q - 1) = decide (k < 6 * g + (q + 1) - 1) by by_cases e4 : k < 6 * g + q - 1; rw [decide_eq_true e4, decide_eq_true (by omega)]; rw [decide_eq_false e4, decide_eq_false (by omega)], decide_eq_false ek, Bool.or_false])
      · try simp only [zup_ap, zup_row, ne_eq, not_false_eq_true, zres, Int.toNat_natCast, reduceIte, Nat.reduceEqDiff, Nat.reduceAdd, and_self, and_true, true_and, and_false, false_and]
        refine z_if_ne (t := 112) dX6_lawfulDeals_75 (by rfl) (fun _ => ?_) (fun hx => absurd hx (by decide))
        refine z_ii6 dX6_lawfulDeals_112 (by omega) (Nat.le_of_ble_eq_true rfl) rfl ?_
        refine z_goto (t := 59) dX6_lawfulDeals_115 (by rfl) ?_
        first
        | (refine ih (q + 1) _ (by omega) (by omega) (zDb_cg hD (fun k hk => ?_))
           show (decide (k < 6 * g + q - 1) && _) = (decide (k < 6 * g + (q + 1) - 1) && _)
           by_cases ek : k = 6 * g + q - 1
           · have hz9 : zdl h0 (k / 6) i (k % 6 + 1) d = false := by
               rw [show k / 6 = g by omega, show k % 6 + 1 = q by omega]
               unfold zdl
               first
               | (rw [decide_eq_false (show ¬ zFo h0 (i : Int) (q : Int) d = 0 from hb9)]; rfl)
               | (by_cases e2 : (q : Int) * h0 107 (6 * g + i) ≤ 200
                  · cases e3 : zpd (zbF h0 (i : Int) d) 3 (h0 89 32).toNat ((q : Int) * h0 107 (6 * g + i)).toNat with
                    | false => rw [Bool.and_false, Bool.and_false]
                    | true => rw [hhd, Int.toNat_natCast] at e3; exact absurd ⟨by omega, e2, e3⟩ hi9
                  · rw [decide_eq_false e2]; rw [Bool.false_and, Bool.and_false])
             rw [hz9, Bool.and_false, Bool.and_false]
           · rw [show decide (k < 6 * g + q - 1) = decide (k < 6 * g + (q + 1) - 1) by by_cases e4 : k < 6 * g + q - 1; rw [decide_eq_true e4, decide_eq_true (by omega)]; rw [decide_eq_false e4, decide_eq_false (by omega)]])
        | (refine ih (q + 1) _ (by omega) (by omega) (zDb_cg (zDb_or (k := 6 * g + q - 1) hD (by omega)) (fun k hk => ?_))
           show ((decide (k < 6 * g + q - 1) && _) || _) = (decide (k < 6 * g + (q + 1) - 1) && _)
           by_cases ek : k = 6 * g + q - 1
           · have hz9 : zdl h0 (k / 6) i (k % 6 + 1) d = true := by
               rw [show k / 6 = g by omega, show k % 6 + 1 = q by omega]
               unfold zdl
               rw [decide_eq_true (show zFo h0 (i : Int) (q : Int) d = 0 from hb9), decide_eq_true hi9.2.1, hhd, Int.toNat_natCast, hi9.2.2]; rfl
             rw [hz9, decide_eq_true ek, decide_eq_true (show k < 6 * g + (q + 1) - 1 by omega), Bool.or_true]; rfl
           · rw [show decide (k < 6 * g + q - 1) = decide (k < 6 * g + (q + 1) - 1) by by_cases e4 : k < 6 * g + q - 1; rw [decide_eq_true e4, decide_eq_true (by omega)]; rw [decide_eq_false e4, decide_eq_false (by omega)], decide_eq_false ek, Bool.or_false])
set_option maxRecDepth 4000 in
theorem X6_lD_g {l : Launch} {Γ : zC} {h0 h : zM} {Q : Option zV → zC → zM → Prop} {i hd : Nat} {d : Int} (hI : zIv Γ h0) (hF : zfr zSS h0 h) (hv : (i : Int) < h0 89 22) (hhd : h0 89 32 = (hd : Int)) (hP : zPu h (zbF h0 (i : Int) d) 3 hd) (hC : zCf h (zbF h0 (i : Int) d) 3 hd) (hQ : ∀ x : Int, zDb x (zdF2 h0 i d (6 * (h0 89 39).toNat)) → Q (some (zI x)) Γ h) : ∀ (m : Nat) (g : Nat) (x : Int) (y : Option zV), 3 - g < m → (g : Int) ≤ h0 89 39 → zDb x (zdF2 h0 i d (6 * g)) → zG (zFn l mX6_lawfulDeals 4 0 0 Γ Q) 0 0 Γ h 47 [some (zR 77), some (zI (i : Int)), some (zI d), some (zI (hd : Int)), some (zI x), some (zI (g : Int)), y] [] := by
  have hΓ := hI.base
  have hx2 := hI.isl
  have hx7 := hI.gds
  intro m
  induction m with
  | zero => intros; omega
  | succ m ih =>
    intro g x y hm hg hD
    refine z_il5 dX6_lawfulDeals_47 ?_
    refine z_al0 dX6_lawfulDeals_49 (by first | decide | omega | assumption) ?_
    refine z_getI zfX6_37 dX6_lawfulDeals_50 (zkB hΓ rfl) rfl ?_
    rw [hF 77 2 rfl, hI.gds.1]
    try simp only [zup_ap, zup_row, ne_eq, not_false_eq_true, zres, Int.toNat_natCast, reduceIte, Nat.reduceEqDiff, Nat.reduceAdd, and_self, and_true, true_and, and_false, false_and]
    refine z_icmp_ge (t := 124) dX6_lawfulDeals_53 (by rfl) (fun ht53 => ?_) (fun hf53 => ?_)
    · refine z_il4 dX6_lawfulDeals_124 ?_
      refine z_iret dX6_lawfulDeals_126 rfl (Nat.le_refl _) (Nat.le_refl _) (zext_rf _) (fun hrr => ?_)
      have eg : (g : Int) = h0 89 39 := by omega
      rw [show 6 * g = 6 * (h0 89 39).toNat by omega] at hD
      exact hQ _ hD
    · refine z_iconst dX6_lawfulDeals_56 (by decide) ?_
      refine z_is6 dX6_lawfulDeals_57 (Nat.le_of_ble_eq_true rfl) rfl ?_
      refine X6_lD_q hI hF hv (by omega) hhd hP hC (fun x9 hD9 => ?_) _ 1 _ (Nat.lt_succ_self _) (by omega) (by rw [Nat.add_sub_cancel]; exact hD)
      refine z_ii5 dX6_lawfulDeals_118 (by omega) (Nat.le_of_ble_eq_true rfl) rfl ?_
      refine z_goto (t := 47) dX6_lawfulDeals_121 (by rfl) ?_
      exact ih (g + 1) _ _ (by omega) (by omega) (by rw [show 6 * (g + 1) = 6 * g + 7 - 1 by omega]; exact hD9)
set_option maxRecDepth 4000 in
theorem X6_lawfulDeals_ct {l : Launch} {Γ : zC} {h0 h : zM} {Q : Option zV → zC → zM → Prop} {i hd : Nat} {d : Int} (hI : zIv Γ h0) (hF : zfr zSS h0 h) (hO : h0 89 30 = -1) (hv : (i : Int) < h0 89 22) (hhd : h0 89 32 = (hd : Int)) (hQ : ∀ (x : Int) h9, zfr zSS h0 h9 → zfL h h9 → zDb x (zdF2 h0 i d (6 * (h0 89 39).toNat)) → Q (some (zI x)) Γ h9) : zCT l mX6_lawfulDeals 4 0 0 Γ [zR 77, zI (i : Int), zI d, zI (hd : Int)] h Q := by
  have hΓ := hI.base
  have hx2 := hI.isl
  have hx7 := hI.gds
  have hx3 := hI.hnd
  refine zCT_of (by decide) (Nat.le_of_ble_eq_true rfl) (ls := [some (zR 77), some (zI (i : Int)), some (zI d), some (zI (hd : Int)), none, none, none]) rfl ?_
  refine z_al0 dX6_lawfulDeals_0 (by first | decide | omega | assumption) ?_
  refine z_getR zfX6_15 dX6_lawfulDeals_1 (zkB hΓ rfl) rfl (zsB hΓ rfl) (zvB hΓ (by decide)) ?_
  refine z_il3 dX6_lawfulDeals_4 ?_
  refine z_iconst dX6_lawfulDeals_5 (by decide) ?_
  refine zcv2 dX6_lawfulDeals_6 zkX6_47 ziX4_open zsX4_open (zkB hΓ rfl) (by decide) rfl (Nat.le_of_ble_eq_true rfl) (by decide) (by first | decide | omega) ⟨Nat.le_refl _, Nat.le_refl _⟩ (X4_open_ct hΓ (fun _ => ?_))
  try simp only [zup_ap, zup_row, ne_eq, not_false_eq_true, zres, Int.toNat_natCast, reduceIte, Nat.reduceEqDiff, Nat.reduceAdd, and_self, and_true, true_and, and_false, false_and]
  have hF2 : zfr zSS h0 (zup (zup h 41 4 (hd : Int)) 41 5 3) := zfr_up (zfr_up hF rfl) rfl
  have hv2 : 0 ≤ (i : Int) ∧ (i : Int) < h0 89 22 := by omega
  refine z_al0 dX6_lawfulDeals_9 (by first | decide | omega | assumption) ?_
  refine z_getR zfX6_9 dX6_lawfulDeals_10 (zkB hΓ rfl) rfl (zsB hΓ rfl) (zvB hΓ (by decide)) ?_
  refine z_al0 dX6_lawfulDeals_13 (by first | decide | omega | assumption) ?_
  refine z_getR zfX6_15 dX6_lawfulDeals_14 (zkB hΓ rfl) rfl (zsB hΓ rfl) (zvB hΓ (by decide)) ?_
  refine z_getR zfX6_53 dX6_lawfulDeals_17 (zkB hΓ rfl) rfl (zsB hΓ rfl) (zvB hΓ (by decide)) ?_
  refine z_il1 dX6_lawfulDeals_20 ?_
  refine z_il2 dX6_lawfulDeals_21 ?_
  refine z_al0 dX6_lawfulDeals_22 (by first | decide | omega | assumption) ?_
  refine z_getR zfX6_9 dX6_lawfulDeals_23 (zkB hΓ rfl) rfl (zsB hΓ rfl) (zvB hΓ (by decide)) ?_
  refine z_il1 dX6_lawfulDeals_26 ?_
  refine z_il2 dX6_lawfulDeals_27 ?_
  refine zcv2 dX6_lawfulDeals_28 zkX6_57 ziX7_tabooOn zsX7_tabooOn (zkB hΓ rfl) (by decide) rfl (Nat.le_of_ble_eq_true rfl) (by decide) (by first | decide | omega) ⟨Nat.le_refl _, Nat.le_refl _⟩ (X7_tabooOn_ct hI hF2 hv2 (fun _ => ?_))
  try simp only [zup_ap, zup_row, ne_eq, not_false_eq_true, zres, Int.toNat_natCast, reduceIte, Nat.reduceEqDiff, Nat.reduceAdd, and_self, and_true, true_and, and_false, false_and]
  refine zcv4 dX6_lawfulDeals_31 zkX6_63 ziX7_bar zsX7_bar (zkB hΓ rfl) (by decide) rfl (Nat.le_of_ble_eq_true rfl) (by decide) (by first | decide | omega) ⟨Nat.le_refl _, Nat.le_refl _⟩ (X7_bar_ct hI hF2 hv2 (fun h3 hA hB _ => ?_))
  try simp only [zup_ap, zup_row, ne_eq, not_false_eq_true, zres, Int.toNat_natCast, reduceIte, Nat.reduceEqDiff, Nat.reduceAdd, and_self, and_true, true_and, and_false, false_and]
  have hF3 := zfr_A hF2 hA
  have hP : zPu h3 (zbF h0 (i : Int) d) 3 hd := ⟨fun n hn => by
    rw [hB n hn]
    unfold zbF zFo zTbR
    rw [if_neg (by omega)], by rw [hA 41 (by decide) (by decide)]; rfl, by rw [hA 41 (by decide) (by decide)]; rfl, by decide, by omega⟩
  refine z_al0 dX6_lawfulDeals_34 (by first | decide | omega | assumption) ?_
  refine z_getR zfX6_15 dX6_lawfulDeals_35 (zkB hΓ rfl) rfl (zsB hΓ rfl) (zvB hΓ (by decide)) ?_
  refine zcv0 dX6_lawfulDeals_38 zkX6_67 ziX4_countForward zsX4_countForward (zkB hΓ rfl) (by decide) rfl (Nat.le_of_ble_eq_true rfl) (by decide) (by first | decide | omega) ⟨Nat.le_refl _, Nat.le_refl _⟩ (X4_countForward_ct hΓ hP (fun h4 hE4 hC4 _ => ?_))
  try simp only [zup_ap, zup_row, ne_eq, not_false_eq_true, zres, Int.toNat_natCast, reduceIte, Nat.reduceEqDiff, Nat.reduceAdd, and_self, and_true, true_and, and_false, false_and]
  have hF4 := zfr_1 hF3 zs43 hE4
  have hL4 : zfL h h4 := fun q a1 a2 a3 a4 => by rw [hE4 q a3, hA q a2 a4, zup_row a1, zup_row a1]
  refine z_iconst dX6_lawfulDeals_41 (by decide) ?_
  refine z_is4 dX6_lawfulDeals_42 (Nat.le_of_ble_eq_true rfl) rfl ?_
  refine z_iconst dX6_lawfulDeals_44 (by decide) ?_
  refine z_is5 dX6_lawfulDeals_45 (Nat.le_of_ble_eq_true rfl) rfl ?_
  exact X6_lD_g hI hF4 hv hhd (zPu_cg hP (fun q a1 _ _ => hE4 q a1)) hC4 (fun x hD => hQ x h4 hF4 hL4 hD) _ 0 _ _ (Nat.lt_succ_self _) (by omega) (zDb_cg zDb_0 (fun k hk => by show false = (decide (k < 6 * 0) && _); rw [decide_eq_false (by omega)]; rfl))
set_option maxRecDepth 4000 in
theorem X6_isGood_ct {l : Launch} {Γ : zC} {h0 h : zM} {Q : Option zV → zC → zM → Prop} {g : Int} (hI : zIv Γ h0) (hF : zfr zSS h0 h) (hQ0 : ¬ (0 ≤ g ∧ g < h0 89 39) → Q (some (zI 0)) Γ h) (hQ1 : (0 ≤ g ∧ g < h0 89 39) → Q (some (zI 1)) Γ h) : zCT l mX6_isGood 0 0 0 Γ [zR 77, zI g] h Q := by
  have hΓ := hI.base
  have hx2 := hI.isl
  have hx7 := hI.gds
  refine zCT_of (by decide) (Nat.le_of_ble_eq_true rfl) (ls := [some (zR 77), some (zI g)]) rfl ?_
  refine z_il1 dX6_isGood_0 ?_
  refine z_if_lt (t := 21) dX6_isGood_1 (by rfl) (fun ht1 => ?_) (fun hf1 => ?_)
  · refine z_iconst dX6_isGood_21 (by decide) ?_
    refine z_zret dX6_isGood_22 rfl (Nat.le_refl _) (Nat.le_refl _) (zext_rf _) (by first | exact Or.inl rfl | exact Or.inr rfl | omega) ?_
    first | exact hQ0 (by omega) | exact hQ1 (by omega)
  · refine z_il1 dX6_isGood_4 ?_
    refine z_al0 dX6_isGood_5 (by first | decide | omega | assumption) ?_
    refine z_getI zfX6_37 dX6_isGood_6 (zkB hΓ rfl) rfl ?_
    rw [hF 77 2 rfl, hI.gds.1]
    try simp only [zup_ap, zup_row, ne_eq, not_false_eq_true, zres, Int.toNat_natCast, reduceIte, Nat.reduceEqDiff, Nat.reduceAdd, and_self, and_true, true_and, and_false, false_and]
    refine z_icmp_ge (t := 21) dX6_isGood_9 (by rfl) (fun ht9 => ?_) (fun hf9 => ?_)
    · refine z_iconst dX6_isGood_21 (by decide) ?_
      refine z_zret dX6_isGood_22 rfl (Nat.le_refl _) (Nat.le_refl _) (zext_rf _) (by first | exact Or.inl rfl | exact Or.inr rfl | omega) ?_
      first | exact hQ0 (by omega) | exact hQ1 (by omega)
    · refine z_il1 dX6_isGood_12 ?_
      refine z_iconst dX6_isGood_13 (by decide) ?_
      refine z_icmp_ge (t := 21) dX6_isGood_14 (by rfl) (fun ht14 => ?_) (fun hf14 => ?_)
      · refine z_iconst dX6_isGood_21 (by decide) ?_
        refine z_zret dX6_isGood_22 rfl (Nat.le_refl _) (Nat.le_refl _) (zext_rf _) (by first | exact Or.inl rfl | exact Or.inr rfl | omega) ?_
        first | exact hQ0 (by omega) | exact hQ1 (by omega)
      · refine z_iconst dX6_isGood_17 (by decide) ?_
        refine z_goto (t := 22) dX6_isGood_18 (by rfl) ?_
        refine z_zret dX6_isGood_22 rfl (Nat.le_refl _) (Nat.le_refl _) (zext_rf _) (by first | exact Or.inl rfl | exact Or.inr rfl | omega) ?_
        first | exact hQ0 (by omega) | exact hQ1 (by omega)
set_option maxRecDepth 4000 in
theorem X9_isGood_ct {l : Launch} {Γ : zC} {h0 h : zM} {Q : Option zV → zC → zM → Prop} {g : Int} (hI : zIv Γ h0) (hF : zfr zSS h0 h) (hQ0 : ¬ (0 ≤ g ∧ g < h0 89 39) → Q (some (zI 0)) Γ h) (hQ1 : (0 ≤ g ∧ g < h0 89 39) → Q (some (zI 1)) Γ h) : zCT l mX9_isGood 0 0 0 Γ [zR 89, zI g] h Q := by
  have hΓ := hI.base
  have hx2 := hI.isl
  have hx7 := hI.gds
  refine zCT_of (by decide) (Nat.le_of_ble_eq_true rfl) (ls := [some (zR 89), some (zI g)]) rfl ?_
  refine z_il1 dX9_isGood_0 ?_
  refine z_if_lt (t := 16) dX9_isGood_1 (by rfl) (fun ht1 => ?_) (fun hf1 => ?_)
  · refine z_iconst dX9_isGood_16 (by decide) ?_
    refine z_zret dX9_isGood_17 rfl (Nat.le_refl _) (Nat.le_refl _) (zext_rf _) (by first | exact Or.inl rfl | exact Or.inr rfl | omega) ?_
    first | exact hQ0 (by omega) | exact hQ1 (by omega)
  · refine z_il1 dX9_isGood_4 ?_
    refine z_al0 dX9_isGood_5 (by first | decide | omega | assumption) ?_
    refine z_getI zfX9_279 dX9_isGood_6 (zkB hΓ rfl) rfl ?_
    rw [hF 89 39 rfl]
    try simp only [zup_ap, zup_row, ne_eq, not_false_eq_true, zres, Int.toNat_natCast, reduceIte, Nat.reduceEqDiff, Nat.reduceAdd, and_self, and_true, true_and, and_false, false_and]
    refine z_icmp_ge (t := 16) dX9_isGood_9 (by rfl) (fun ht9 => ?_) (fun hf9 => ?_)
    · refine z_iconst dX9_isGood_16 (by decide) ?_
      refine z_zret dX9_isGood_17 rfl (Nat.le_refl _) (Nat.le_refl _) (zext_rf _) (by first | exact Or.inl rfl | exact Or.inr rfl | omega) ?_
      first | exact hQ0 (by omega) | exact hQ1 (by omega)
    · refine z_iconst dX9_isGood_12 (by decide) ?_
      refine z_goto (t := 17) dX9_isGood_13 (by rfl) ?_
      refine z_zret dX9_isGood_17 rfl (Nat.le_refl _) (Nat.le_refl _) (zext_rf _) (by first | exact Or.inl rfl | exact Or.inr rfl | omega) ?_
      first | exact hQ0 (by omega) | exact hQ1 (by omega)
def zvDeal (h : zM) (g i q d : Int) : Int := if ((0 ≤ g ∧ g < h 89 39) ∧ (0 ≤ i ∧ i < h 89 22)) ∧ (1 ≤ q ∧ q ≤ 6) ∧ (0 ≤ d ∧ d ≤ 99) then (if zdl h g.toNat i.toNat q.toNat d then 1 else 0) else -1
theorem zdF2_at {h : zM} {i g q m : Nat} {d : Int} (hg : g < m) (hq : 1 ≤ q ∧ q ≤ 6) : zdF2 h i d (6 * m) (6 * g + q - 1) = zdl h g i q d := by
  unfold zdF2
  rw [decide_eq_true (by omega), Bool.true_and, show (6 * g + q - 1) / 6 = g by omega, show (6 * g + q - 1) % 6 + 1 = q by omega]
set_option maxRecDepth 4000 in
theorem X8_deal_ct {l : Launch} {Γ : zC} {h0 h : zM} {Q : Option zV → zC → zM → Prop} {g i q d : Int} (hI : zIv Γ h0) (hF : zfr zSS h0 h) (hO : h0 89 30 = -1) (hQ : ∀ h9, zfr zSS h0 h9 → Q (some (zI (zvDeal h0 g i q d))) Γ h9) : zCT l mX8_deal 5 0 0 Γ [zR 1, zI g, zI i, zI q, zI d] h Q := by
  have hΓ := hI.base
  have hx2 := hI.isl
  have hx3 := hI.hnd
  obtain ⟨hd, hhd⟩ := Int.eq_ofNat_of_zero_le (show 0 ≤ h0 89 32 by omega)
  have hdn : (h0 89 32).toNat = hd := by omega
  have hnw := hI.now
  have hx7 := hI.gds
  refine zCT_of (by decide) (Nat.le_of_ble_eq_true rfl) (ls := [some (zR 1), some (zI g), some (zI i), some (zI q), some (zI d), none]) rfl ?_
  refine z_al0 dX8_deal_0 (by first | decide | omega | assumption) ?_
  refine z_getR zfX8_58 dX8_deal_1 (zkB hΓ rfl) rfl (zsB hΓ rfl) (zvB hΓ (by decide)) ?_
  refine z_il1 dX8_deal_4 ?_
  refine zcv1 dX8_deal_5 zkX8_216 ziX6_isGood zsX6_isGood (zkB hΓ rfl) (by decide) rfl (Nat.le_of_ble_eq_true rfl) (by decide) (by first | decide | omega) ⟨Nat.le_refl _, Nat.le_refl _⟩ (X6_isGood_ct hI hF (fun hg1 _ => ?_) (fun hg1 _ => ?_))
  · try simp only [zup_ap, zup_row, ne_eq, not_false_eq_true, zres, Int.toNat_natCast, reduceIte, Nat.reduceEqDiff, Nat.reduceAdd, and_self, and_true, true_and, and_false, false_and]
    refine z_if_eq (t := 41) dX8_deal_8 (by rfl) (fun _ => ?_) (fun hx => absurd hx (by decide))
    refine z_iconst dX8_deal_41 (by decide) ?_
    refine z_iret dX8_deal_42 rfl (Nat.le_refl _) (Nat.le_refl _) (zext_rf _) (fun hrr => ?_)
    have hw9 := hQ _ hF
    unfold zvDeal at hw9
    rw [if_neg (by omega)] at hw9
    exact hw9
  · try simp only [zup_ap, zup_row, ne_eq, not_false_eq_true, zres, Int.toNat_natCast, reduceIte, Nat.reduceEqDiff, Nat.reduceAdd, and_self, and_true, true_and, and_false, false_and]
    refine z_if_eq (t := 41) dX8_deal_8 (by rfl) (fun hx => absurd hx (by decide)) (fun _ => ?_)
    refine z_al0 dX8_deal_11 (by first | decide | omega | assumption) ?_
    refine z_getR zfX8_35 dX8_deal_12 (zkB hΓ rfl) rfl (zsB hΓ rfl) (zvB hΓ (by decide)) ?_
    refine z_il2 dX8_deal_15 ?_
    refine zcv1 dX8_deal_16 zkX8_114 ziX7_isIsle zsX7_isIsle (zkB hΓ rfl) (by decide) rfl (Nat.le_of_ble_eq_true rfl) (by decide) (by first | decide | omega) ⟨Nat.le_refl _, Nat.le_refl _⟩ (X7_isIsle_ct hI hF (fun hg2 _ => ?_) (fun hg2 _ => ?_))
    · try simp only [zup_ap, zup_row, ne_eq, not_false_eq_true, zres, Int.toNat_natCast, reduceIte, Nat.reduceEqDiff, Nat.reduceAdd, and_self, and_true, true_and, and_false, false_and]
      refine z_if_eq (t := 41) dX8_deal_19 (by rfl) (fun _ => ?_) (fun hx => absurd hx (by decide))
      refine z_iconst dX8_deal_41 (by decide) ?_
      refine z_iret dX8_deal_42 rfl (Nat.le_refl _) (Nat.le_refl _) (zext_rf _) (fun hrr => ?_)
      have hw9 := hQ _ hF
      unfold zvDeal at hw9
      rw [if_neg (by omega)] at hw9
      exact hw9
    · try simp only [zup_ap, zup_row, ne_eq, not_false_eq_true, zres, Int.toNat_natCast, reduceIte, Nat.reduceEqDiff, Nat.reduceAdd, and_self, and_true, true_and, and_false, false_and]
      refine z_if_eq (t := 41) dX8_deal_19 (by rfl) (fun hx => absurd hx (by decide)) (fun _ => ?_)
      refine z_il3 dX8_deal_22 ?_
      refine z_iconst dX8_deal_23 (by decide) ?_
      refine z_icmp_lt (t := 41) dX8_deal_24 (by rfl) (fun ht24 => ?_) (fun hf24 => ?_)
      · refine z_iconst dX8_deal_41 (by decide) ?_
        refine z_iret dX8_deal_42 rfl (Nat.le_refl _) (Nat.le_refl _) (zext_rf _) (fun hrr => ?_)
        have hw9 := hQ _ hF
        unfold zvDeal at hw9
        rw [if_neg (by omega)] at hw9
        exact hw9
      · refine z_il3 dX8_deal_27 ?_
        refine z_bipush (x := 6) dX8_deal_28 (by rfl) (by decide) ?_
        refine z_icmp_gt (t := 41) dX8_deal_30 (by rfl) (fun ht30 => ?_) (fun hf30 => ?_)
        · refine z_iconst dX8_deal_41 (by decide) ?_
          refine z_iret dX8_deal_42 rfl (Nat.le_refl _) (Nat.le_refl _) (zext_rf _) (fun hrr => ?_)
          have hw9 := hQ _ hF
          unfold zvDeal at hw9
          rw [if_neg (by omega)] at hw9
          exact hw9
        · refine z_il4 dX8_deal_33 ?_
          refine zcs1 dX8_deal_35 zkX8_118 ztX8_isDay (Nat.le_of_ble_eq_true rfl) (by decide) (by first | decide | omega) ⟨Nat.le_refl _, Nat.le_refl _⟩ (X8_isDay_ct (fun hg3 _ => ?_) (fun hg3 _ => ?_))
          · try simp only [zup_ap, zup_row, ne_eq, not_false_eq_true, zres, Int.toNat_natCast, reduceIte, Nat.reduceEqDiff, Nat.reduceAdd, and_self, and_true, true_and, and_false, false_and]
            refine z_if_ne (t := 43) dX8_deal_38 (by rfl) (fun hx => absurd hx (by decide)) (fun _ => ?_)
            refine z_iconst dX8_deal_41 (by decide) ?_
            refine z_iret dX8_deal_42 rfl (Nat.le_refl _) (Nat.le_refl _) (zext_rf _) (fun hrr => ?_)
            have hw9 := hQ _ hF
            unfold zvDeal at hw9
            rw [if_neg (by omega)] at hw9
            exact hw9
          · try simp only [zup_ap, zup_row, ne_eq, not_false_eq_true, zres, Int.toNat_natCast, reduceIte, Nat.reduceEqDiff, Nat.reduceAdd, and_self, and_true, true_and, and_false, false_and]
            refine z_if_ne (t := 43) dX8_deal_38 (by rfl) (fun _ => ?_) (fun hx => absurd hx (by decide))
            obtain ⟨g, rfl⟩ := Int.eq_ofNat_of_zero_le (show 0 ≤ g by omega)
            obtain ⟨i, rfl⟩ := Int.eq_ofNat_of_zero_le (show 0 ≤ i by omega)
            obtain ⟨q, rfl⟩ := Int.eq_ofNat_of_zero_le (show 0 ≤ q by omega)
            refine z_al0 dX8_deal_43 (by first | decide | omega | assumption) ?_
            refine z_getR zfX8_58 dX8_deal_44 (zkB hΓ rfl) rfl (zsB hΓ rfl) (zvB hΓ (by decide)) ?_
            refine z_il2 dX8_deal_47 ?_
            refine z_il4 dX8_deal_48 ?_
            refine z_al0 dX8_deal_50 (by first | decide | omega | assumption) ?_
            refine z_getI zfX8_79 dX8_deal_51 (zkB hΓ rfl) rfl ?_
            rw [hF 1 11 rfl, hI.hnd.1, hhd]
            try simp only [zup_ap, zup_row, ne_eq, not_false_eq_true, zres, Int.toNat_natCast, reduceIte, Nat.reduceEqDiff, Nat.reduceAdd, and_self, and_true, true_and, and_false, false_and]
            refine zcv3 dX8_deal_54 zkX8_222 ziX6_lawfulDeals zsX6_lawfulDeals (zkB hΓ rfl) (by decide) rfl (Nat.le_of_ble_eq_true rfl) (by decide) (by first | decide | omega) ⟨Nat.le_refl _, Nat.le_refl _⟩ (X6_lawfulDeals_ct hI hF hO hg2.2 hhd (fun x h2 hF2 hL2 hD2 _ => ?_))
            try simp only [zup_ap, zup_row, ne_eq, not_false_eq_true, zres, Int.toNat_natCast, reduceIte, Nat.reduceEqDiff, Nat.reduceAdd, and_self, and_true, true_and, and_false, false_and]
            refine z_is5 dX8_deal_57 (Nat.le_of_ble_eq_true rfl) rfl ?_
            refine z_il5 dX8_deal_59 ?_
            refine z_il1 dX8_deal_61 ?_
            refine z_il3 dX8_deal_62 ?_
            refine zcs3 dX8_deal_63 zkX8_225 ztX6_allows (Nat.le_of_ble_eq_true rfl) (by decide) (by first | decide | omega) ⟨Nat.le_refl _, Nat.le_refl _⟩ (X6_allows_ct (g := g) (q := q) hD2 (by omega) (by omega) (fun ha9 _ => ?_) (fun ha9 _ => ?_))
            · try simp only [zup_ap, zup_row, ne_eq, not_false_eq_true, zres, Int.toNat_natCast, reduceIte, Nat.reduceEqDiff, Nat.reduceAdd, and_self, and_true, true_and, and_false, false_and]
              refine z_if_eq (t := 73) dX8_deal_66 (by rfl) (fun _ => ?_) (fun hx => absurd hx (by decide))
              refine z_iconst dX8_deal_73 (by decide) ?_
              refine z_iret dX8_deal_74 rfl (Nat.le_refl _) (Nat.le_refl _) (zext_rf _) (fun hrr => ?_)
              rw [zdF2_at (by omega) (by omega)] at ha9
              have hw9 := hQ _ hF2
              unfold zvDeal at hw9
              rw [if_pos (by omega)] at hw9
              rw [Int.toNat_natCast, Int.toNat_natCast, Int.toNat_natCast, ha9] at hw9
              exact hw9
            · try simp only [zup_ap, zup_row, ne_eq, not_false_eq_true, zres, Int.toNat_natCast, reduceIte, Nat.reduceEqDiff, Nat.reduceAdd, and_self, and_true, true_and, and_false, false_and]
              refine z_if_eq (t := 73) dX8_deal_66 (by rfl) (fun hx => absurd hx (by decide)) (fun _ => ?_)
              refine z_iconst dX8_deal_69 (by decide) ?_
              refine z_goto (t := 74) dX8_deal_70 (by rfl) ?_
              refine z_iret dX8_deal_74 rfl (Nat.le_refl _) (Nat.le_refl _) (zext_rf _) (fun hrr => ?_)
              rw [zdF2_at (by omega) (by omega)] at ha9
              have hw9 := hQ _ hF2
              unfold zvDeal at hw9
              rw [if_pos (by omega)] at hw9
              rw [Int.toNat_natCast, Int.toNat_natCast, Int.toNat_natCast, ha9] at hw9
              exact hw9
def zfY (u : Nat) (h h' : zM) : Prop := (∀ r, r ≠ 89 → r ≠ 93 → ¬ (102 ≤ r ∧ r ≤ 103) → ¬ (108 ≤ r ∧ r ≤ u) → h' r = h r) ∧ ∀ j, zsMT j = false → h' 89 j = h 89 j
theorem zfY_rf (u : Nat) (h : zM) : zfY u h h := ⟨fun _ _ _ _ _ => rfl, fun _ _ => rfl⟩
theorem zfY_tr {u : Nat} {h0 h h' : zM} (H : zfY u h0 h) (H2 : zfY u h h') : zfY u h0 h' := ⟨fun r a b c d => (H2.1 r a b c d).trans (H.1 r a b c d), fun j a => (H2.2 j a).trans (H.2 j a)⟩
theorem zfY_M {u : Nat} {h h' : zM} (H : zfM h h') : zfY u h h' := ⟨fun r a b _ _ => H.1 r a b, H.2⟩
theorem zfY_1 {u q : Nat} {h h' : zM} (hq : 102 ≤ q ∧ q ≤ 103 ∨ 108 ≤ q ∧ q ≤ u) (H : ∀ r, r ≠ q → h' r = h r) : zfY u h h' := ⟨fun r _ _ c d => H r (by omega), fun j _ => by rw [H 89 (by omega)]⟩
theorem zfY_B {u q : Nat} {h h' : zM} (hq : 102 ≤ q ∧ q ≤ 103 ∨ 108 ≤ q ∧ q ≤ u) (H : zfB q h h') : zfY u h h' := ⟨fun r a b c d => H.1 r a b (by omega), H.2⟩
theorem zfY_le {u v : Nat} {h h' : zM} (huv : u ≤ v) (H : zfY u h h') : zfY v h h' := ⟨fun r a b c d => H.1 r a b c (by omega), H.2⟩
theorem zfr_Y {u : Nat} {h0 h h' : zM} (H : zfr zSS h0 h) (hu : u ≤ 110) (H2 : zfY u h h') : zfr zSS h0 h' := fun r j p => by
  by_cases hr : r = 89
  · subst hr
    rw [H2.2 j (zsMT_89 p)]
    exact H _ j p
  · by_cases h3 : r = 93
    · subst h3; cases p
    · by_cases h4 : 102 ≤ r ∧ r ≤ 103 ∨ 108 ≤ r ∧ r ≤ 110
      · rcases (show r = 102 ∨ r = 103 ∨ r = 108 ∨ r = 109 ∨ r = 110 by omega) with rfl | rfl | rfl | rfl | rfl <;> cases p
      · rw [H2.1 r hr h3 (by omega) (by omega)]; exact H r j p
theorem zi2b2 : zf_i2b 2 = 2 := by decide
theorem zi2b1 : zf_i2b 1 = 1 := by decide
/-- what is remembered of sums paid -/
def zPm (h0 h : zM) : Prop := ∀ i d : Nat, (i : Int) < h0 89 22 → d < 100 → h 109 (100 * i + d) = 1 → ∀ s, 1 ≤ s → s ≤ 200 → h 108 (201 * (100 * i + d) + s) = if zpd (zbF h0 (i : Int) (d : Int)) 3 (h0 89 32).toNat s then 1 else 0
theorem zPm_cg {h0 h h' : zM} (H : zPm h0 h) (e1 : h' 108 = h 108) (e2 : h' 109 = h 109) : zPm h0 h' := by
  unfold zPm; rw [e1, e2]; exact H
theorem zPm_0 {h0 h : zM} (H : ∀ k, k < 600 → h 109 k = 0) (hi : h0 89 22 ≤ 6) : zPm h0 h := fun i d a b c => by
  rw [H _ (by omega)] at c; exact absurd c (by decide)
set_option maxRecDepth 4000 in
theorem X9_forgetPaid_l {l : Launch} {Γ : zC} {h1 : zM} {Q : Option zV → zC → zM → Prop} (hΓ : zBase Γ) (hQ : ∀ h9, (∀ a, a ≠ 109 → h9 a = h1 a) → (∀ j, j < 600 → h9 109 j = 0) → Q none Γ h9) : ∀ (m : Nat) (k : Nat) (h : zM), 600 - k < m → k ≤ 600 → (∀ a, a ≠ 109 → h a = h1 a) → (∀ j, j < k → h 109 j = 0) → zG (zFn l mX9_forgetPaid 0 0 0 Γ Q) 0 0 Γ h 2 [some (zR 89), some (zI (k : Int))] [] := by
  intro m
  induction m with
  | zero => intros; omega
  | succ m ih =>
    intro k h hm hk hE hD
    refine z_il1 dX9_forgetPaid_2 ?_
    refine z_sipush (x := 600) dX9_forgetPaid_3 (by rfl) (by decide) ?_
    refine z_icmp_ge (t := 22) dX9_forgetPaid_6 (by rfl) (fun ht6 => ?_) (fun hf6 => ?_)
    · refine z_ret dX9_forgetPaid_22 rfl (Nat.le_refl _) (Nat.le_refl _) (zext_rf _) ?_
      exact hQ h hE (fun j hj => hD j (by omega))
    · refine z_al0 dX9_forgetPaid_9 (by first | decide | omega | assumption) ?_
      refine z_getR zfX9_92 dX9_forgetPaid_10 (zkB hΓ rfl) rfl (zsB hΓ rfl) (zvB hΓ (by decide)) ?_
      refine z_il1 dX9_forgetPaid_13 ?_
      refine z_iconst dX9_forgetPaid_14 (by decide) ?_
      refine z_zast dX9_forgetPaid_15 (zkB hΓ rfl) (by omega) (by omega) (by first | exact Or.inl rfl | exact Or.inr rfl | omega) ?_
      refine z_ii1 dX9_forgetPaid_16 (by omega) (Nat.le_of_ble_eq_true rfl) rfl ?_
      refine z_goto (t := 2) dX9_forgetPaid_19 (by rfl) ?_
      refine ih (k + 1) _ (by omega) (by omega) (fun a ha => (zup_row ha).trans (hE a ha)) (fun j hj => ?_)
      by_cases ej : j = k
      · subst ej; rw [zup_ap]; exact if_pos ⟨rfl, by omega⟩
      · rw [zup_ap, if_neg (fun e => ej (by have := e.2; omega))]
        exact hD j (by omega)
set_option maxRecDepth 4000 in
theorem X9_forgetPaid_ct {l : Launch} {Γ : zC} {h1 : zM} {Q : Option zV → zC → zM → Prop} (hΓ : zBase Γ) (hQ : ∀ h9, (∀ a, a ≠ 109 → h9 a = h1 a) → (∀ j, j < 600 → h9 109 j = 0) → Q none Γ h9) : zCT l mX9_forgetPaid 0 0 0 Γ [zR 89] h1 Q := by
  refine zCT_of (by decide) (Nat.le_of_ble_eq_true rfl) (ls := [some (zR 89), none]) rfl ?_
  refine z_iconst dX9_forgetPaid_0 (by decide) ?_
  refine z_is1 dX9_forgetPaid_1 (Nat.le_of_ble_eq_true rfl) rfl ?_
  exact X9_forgetPaid_l hΓ hQ _ 0 _ (Nat.lt_succ_self _) (by omega) (fun _ _ => rfl) (fun j hj => absurd hj (by omega))
set_option maxRecDepth 4000 in
theorem X9_lP_s {l : Launch} {Γ : zC} {h0 h1 : zM} {Q : Option zV → zC → zM → Prop} {i d hd : Nat} (hΓ : zBase Γ) (hid : i < 6 ∧ d < 100) (hB1 : ∀ n, n ≤ 200 → h1 102 n = (zbF h0 (i : Int) (d : Int)) n) (hC1 : ∀ k, k ≤ 60 → ∀ t, t ≤ 200 → h1 103 (201 * k + t) = if zcm (zbF h0 (i : Int) (d : Int)) 3 hd k t then 1 else 0) (hQ : ∀ h9, (∀ q, q ≠ 108 → h9 q = h1 q) → (∀ j, (j < 201 * (100 * i + d) + 1 ∨ 201 * (100 * i + d) + 201 ≤ j) → h9 108 j = h1 108 j) → (∀ s, 1 ≤ s → s ≤ 200 → h9 108 (201 * (100 * i + d) + s) = if zpd (zbF h0 (i : Int) (d : Int)) 3 hd s then 1 else 0) → Q none Γ h9) : ∀ (m : Nat) (s : Nat) (h : zM), 201 - s < m → (1 ≤ s ∧ s ≤ 201) → (∀ q, q ≠ 108 → h q = h1 q) → (∀ j, (j < 201 * (100 * i + d) + 1 ∨ 201 * (100 * i + d) + s ≤ j) → h 108 j = h1 108 j) → (∀ j, 1 ≤ j → j < s → h 108 (201 * (100 * i + d) + j) = if zpd (zbF h0 (i : Int) (d : Int)) 3 hd j then 1 else 0) → zG (zFn l mX9_layPaid 1682 0 0 Γ Q) 0 0 Γ h 38 [some (zR 89), some (zI (i : Int)), some (zI (d : Int)), some (zI ((100 * i + d : Nat) : Int)), some (zI (s : Int))] [] := by
  intro m
  induction m with
  | zero => intros; omega
  | succ m ih =>
    intro s h hm hs hE hU hD
    have hB : ∀ n, n ≤ 200 → h 102 n = (zbF h0 (i : Int) (d : Int)) n := fun n hn => by rw [hE 102 (by decide)]; exact hB1 n hn
    have hC : ∀ k, k ≤ 60 → ∀ t, t ≤ 200 → h 103 (201 * k + t) = if zcm (zbF h0 (i : Int) (d : Int)) 3 hd k t then 1 else 0 := fun k hk t ht => by rw [hE 103 (by decide)]; exact hC1 k hk t ht
    refine z_il4 dX9_layPaid_38 ?_
    refine z_sipush (x := 200) dX9_layPaid_40 (by rfl) (by decide) ?_
    refine z_icmp_gt (t := 72) dX9_layPaid_43 (by rfl) (fun ht43 => ?_) (fun hf43 => ?_)
    · refine z_ret dX9_layPaid_72 rfl (Nat.le_refl _) (Nat.le_refl _) (zext_rf _) ?_
      exact hQ h hE (fun j hj => hU j (by omega)) (fun j h1 h2 => hD j h1 (by omega))
    · refine z_al0 dX9_layPaid_46 (by first | decide | omega | assumption) ?_
      refine z_getR zfX9_89 dX9_layPaid_47 (zkB hΓ rfl) rfl (zsB hΓ rfl) (zvB hΓ (by decide)) ?_
      refine z_sipush (x := 201) dX9_layPaid_50 (by rfl) (by decide) ?_
      refine z_il3 dX9_layPaid_53 ?_
      refine z_imul dX9_layPaid_54 (by omega) ?_
      refine z_il4 dX9_layPaid_55 ?_
      refine z_iadd dX9_layPaid_57 (by omega) ?_
      rw [show (201 : Int) * ((100 * i + d : Nat) : Int) + (s : Int) = ((201 * (100 * i + d) + s : Nat) : Int) by omega]
      refine z_al0 dX9_layPaid_58 (by first | decide | omega | assumption) ?_
      refine z_il4 dX9_layPaid_59 ?_
      refine z_iconst dX9_layPaid_61 (by decide) ?_
      refine zcv2 dX9_layPaid_62 zkX9_356 ziX9_isPaid zsX9_isPaid (zkB hΓ rfl) (by decide) rfl (Nat.le_of_ble_eq_true rfl) (by decide) (by first | decide | omega) ⟨Nat.le_refl _, Nat.le_refl _⟩ (X9_isPaid_ct hΓ (by decide) hB (s := s) (by omega) hC (fun hp9 _ => ?_) (fun hp9 _ => ?_))
      · try simp only [zup_ap, zup_row, ne_eq, not_false_eq_true, zres, Int.toNat_natCast, reduceIte, Nat.reduceEqDiff, Nat.reduceAdd, and_self, and_true, true_and, and_false, false_and]
        refine z_zast dX9_layPaid_65 (zkB hΓ rfl) (by omega) (by omega) (by first | exact Or.inl rfl | exact Or.inr rfl | omega) ?_
        refine z_ii4 dX9_layPaid_66 (by omega) (Nat.le_of_ble_eq_true rfl) rfl ?_
        refine z_goto (t := 38) dX9_layPaid_69 (by rfl) ?_
        refine ih (s + 1) _ (by omega) (by omega) (fun q hq => (zup_row hq).trans (hE q hq)) (fun j hj => ?_) (fun j hj1 hj2 => ?_)
        · rw [zup_ap, if_neg (fun e => (by have := e.2; omega))]; exact hU j (by omega)
        · by_cases ej : j = s
          · subst ej; rw [zup_ap]
            refine (if_pos ⟨rfl, by omega⟩).trans ?_
            rw [hp9]; rfl
          · rw [zup_ap, if_neg (fun e => ej (by have := e.2; omega))]; exact hD j hj1 (by omega)
      · try simp only [zup_ap, zup_row, ne_eq, not_false_eq_true, zres, Int.toNat_natCast, reduceIte, Nat.reduceEqDiff, Nat.reduceAdd, and_self, and_true, true_and, and_false, false_and]
        refine z_zast dX9_layPaid_65 (zkB hΓ rfl) (by omega) (by omega) (by first | exact Or.inl rfl | exact Or.inr rfl | omega) ?_
        refine z_ii4 dX9_layPaid_66 (by omega) (Nat.le_of_ble_eq_true rfl) rfl ?_
        refine z_goto (t := 38) dX9_layPaid_69 (by rfl) ?_
        refine ih (s + 1) _ (by omega) (by omega) (fun q hq => (zup_row hq).trans (hE q hq)) (fun j hj => ?_) (fun j hj1 hj2 => ?_)
        · rw [zup_ap, if_neg (fun e => (by have := e.2; omega))]; exact hU j (by omega)
        · by_cases ej : j = s
          · subst ej; rw [zup_ap]
            refine (if_pos ⟨rfl, by omega⟩).trans ?_
            rw [hp9]; rfl
          · rw [zup_ap, if_neg (fun e => ej (by have := e.2; omega))]; exact hD j hj1 (by omega)
set_option maxRecDepth 4000 in
theorem X9_layPaid_ct {l : Launch} {Γ : zC} {h0 h : zM} {Q : Option zV → zC → zM → Prop} {i d : Nat} (hI : zIv Γ h0) (hF : zfr zSS h0 h) (hv : (i : Int) < h0 89 22) (hd9 : d < 100) (hM : zPm h0 h) (hQ : ∀ h9, zfY 109 h h9 → zPm h0 h9 → h9 109 (100 * i + d) = 1 → Q none Γ h9) : zCT l mX9_layPaid 1682 0 0 Γ [zR 89, zI (i : Int), zI (d : Int)] h Q := by
  have hΓ := hI.base
  have hx2 := hI.isl
  have hx3 := hI.hnd
  obtain ⟨hd, hhd⟩ := Int.eq_ofNat_of_zero_le (show 0 ≤ h0 89 32 by omega)
  have hdn : (h0 89 32).toNat = hd := by omega
  have hnw := hI.now
  refine zCT_of (by decide) (Nat.le_of_ble_eq_true rfl) (ls := [some (zR 89), some (zI (i : Int)), some (zI (d : Int)), none, none]) rfl ?_
  refine z_bipush (x := 100) dX9_layPaid_0 (by rfl) (by decide) ?_
  refine z_il1 dX9_layPaid_2 ?_
  refine z_imul dX9_layPaid_3 (by omega) ?_
  refine z_il2 dX9_layPaid_4 ?_
  refine z_iadd dX9_layPaid_5 (by omega) ?_
  rw [show (100 : Int) * (i : Int) + (d : Int) = ((100 * i + d : Nat) : Int) by omega]
  refine z_is3 dX9_layPaid_6 (Nat.le_of_ble_eq_true rfl) rfl ?_
  refine z_al0 dX9_layPaid_7 (by first | decide | omega | assumption) ?_
  refine z_getR zfX9_92 dX9_layPaid_8 (zkB hΓ rfl) rfl (zsB hΓ rfl) (zvB hΓ (by decide)) ?_
  refine z_il3 dX9_layPaid_11 ?_
  refine z_zald dX9_layPaid_12 (zkB hΓ rfl) (by omega) (by omega) ?_
  try simp only [Int.toNat_natCast]
  try simp only [zup_ap, zup_row, ne_eq, not_false_eq_true, zres, Int.toNat_natCast, reduceIte, Nat.reduceEqDiff, Nat.reduceAdd, and_self, and_true, true_and, and_false, false_and]
  refine zrngM (fun hzm => ?_)
  have hB109 : h 109 (100 * i + d) = 0 ∨ h 109 (100 * i + d) = 1 := zom_a hzm (zkB hΓ (r := 109) (q := .inr (2, 600)) rfl) (j := 100 * i + d) (by omega)
  refine z_if_eq (t := 17) dX9_layPaid_13 (by rfl) (fun ht13 => ?_) (fun hf13 => ?_)
  · refine z_al0 dX9_layPaid_17 (by first | decide | omega | assumption) ?_
    refine z_getR zfX9_92 dX9_layPaid_18 (zkB hΓ rfl) rfl (zsB hΓ rfl) (zvB hΓ (by decide)) ?_
    refine z_il3 dX9_layPaid_21 ?_
    refine z_iconst dX9_layPaid_22 (by decide) ?_
    refine z_zast dX9_layPaid_23 (zkB hΓ rfl) (by omega) (by omega) (by first | exact Or.inl rfl | exact Or.inr rfl | omega) ?_
    replace hF := zfr_up (r := 109) (j := (100 * i + d)) (x := 1) hF rfl
    have hv2 : 0 ≤ (i : Int) ∧ (i : Int) < h0 89 22 := by omega
    refine z_al0 dX9_layPaid_24 (by first | decide | omega | assumption) ?_
    refine z_il1 dX9_layPaid_25 ?_
    refine z_il2 dX9_layPaid_26 ?_
    refine zcv2 dX9_layPaid_27 zkX9_337 ziX9_layBad zsX9_layBad (zkB hΓ rfl) (by decide) rfl (Nat.le_of_ble_eq_true rfl) (by decide) (by first | decide | omega) ⟨Nat.le_refl _, Nat.le_refl _⟩ (X9_layBad_ct hI hF hv2 (fun h2 hA2 hB2 _ => ?_))
    try simp only [zup_ap, zup_row, ne_eq, not_false_eq_true, zres, Int.toNat_natCast, reduceIte, Nat.reduceEqDiff, Nat.reduceAdd, and_self, and_true, true_and, and_false, false_and]
    replace hF := zfr_B hF zs102 hA2
    refine z_al0 dX9_layPaid_30 (by first | decide | omega | assumption) ?_
    refine z_iconst dX9_layPaid_31 (by decide) ?_
    refine zcv1 dX9_layPaid_32 zkX9_353 ziX9_layComes zsX9_layComes (zkB hΓ rfl) (by decide) rfl (Nat.le_of_ble_eq_true rfl) (by decide) (by first | decide | omega) ⟨Nat.le_refl _, Nat.le_refl _⟩ (X9_layComes_ct hI hF hhd (by decide) hB2 (fun h3 hE3 hC3 _ => ?_))
    try simp only [zup_ap, zup_row, ne_eq, not_false_eq_true, zres, Int.toNat_natCast, reduceIte, Nat.reduceEqDiff, Nat.reduceAdd, and_self, and_true, true_and, and_false, false_and]
    refine z_iconst dX9_layPaid_35 (by decide) ?_
    refine z_is4 dX9_layPaid_36 (Nat.le_of_ble_eq_true rfl) rfl ?_
    refine X9_lP_s (h0 := h0) (hd := hd) hΓ (by omega) (fun n hn => by rw [hE3 102 (by decide)]; exact hB2 n hn) hC3 (fun h4 hE4 hU4 hD4 => ?_) _ 1 _ (Nat.lt_succ_self _) (by omega) (fun _ _ => rfl) (fun _ _ => rfl) (fun j a b => absurd b (by omega))
    have hY : zfY 109 h h4 := zfY_tr (zfY_1 (q := 109) (by omega) (fun r hr => zup_row hr)) (zfY_tr (zfY_B (q := 102) (by omega) hA2) (zfY_tr (zfY_1 (q := 103) (by omega) hE3) (zfY_1 (q := 108) (by omega) hE4)))
    have e109 : h4 109 = zup h 109 (100 * i + d) 1 109 := by rw [hE4 109 (by decide), hE3 109 (by decide), hA2.1 109 (by decide) (by decide) (by decide)]; rfl
    have e108 : ∀ j, (j < 201 * (100 * i + d) + 1 ∨ 201 * (100 * i + d) + 201 ≤ j) → h4 108 j = h 108 j := fun j hj => by rw [hU4 j hj, hE3 108 (by decide), hA2.1 108 (by decide) (by decide) (by decide), zup_row (by decide)]
    refine hQ h4 hY (fun i9 d9 a1 a2 a3 s b1 b2 => ?_) (by rw [e109]; exact if_pos ⟨rfl, rfl⟩)
    by_cases e : 100 * i9 + d9 = 100 * i + d
    · have ei : i9 = i := by omega
      have ed : d9 = d := by omega
      subst ei; subst ed
      rw [hhd, Int.toNat_natCast]
      exact hD4 s b1 b2
    · rw [e109, zup_ap, if_neg (fun x => e x.2)] at a3
      rw [e108 _ (by omega)]
      exact hM i9 d9 a1 a2 a3 s b1 b2
  · refine z_ret dX9_layPaid_16 rfl (Nat.le_refl _) (Nat.le_refl _) (zext_rf _) ?_
    have h1 : h 109 (100 * i + d) = 0 ∨ h 109 (100 * i + d) = 1 := hB109
    exact hQ h (zfY_rf _ _) hM (by omega)
set_option maxRecDepth 4000 in
theorem X9_mayDeal_ct {l : Launch} {Γ : zC} {h0 h : zM} {Q : Option zV → zC → zM → Prop} {g i q d : Nat} (hI : zIv Γ h0) (hF : zfr zSS h0 h) (hg9 : (g : Int) < h0 89 39) (hv : (i : Int) < h0 89 22) (hq9 : 1 ≤ q ∧ q ≤ 6) (hd9 : d < 100) (hM : zPm h0 h) (hQ0 : zdl h0 g i q (d : Int) = false → ∀ h9, zfY 109 h h9 ∧ zPm h0 h9 → Q (some (zI 0)) Γ h9) (hQ1 : zdl h0 g i q (d : Int) = true → ∀ h9, zfY 109 h h9 ∧ zPm h0 h9 → Q (some (zI 1)) Γ h9) : zCT l mX9_mayDeal 1683 0 0 Γ [zR 89, zI (g : Int), zI (i : Int), zI (q : Int), zI (d : Int)] h Q := by
  have hΓ := hI.base
  have hx2 := hI.isl
  have hx3 := hI.hnd
  obtain ⟨hd, hhd⟩ := Int.eq_ofNat_of_zero_le (show 0 ≤ h0 89 32 by omega)
  have hdn : (h0 89 32).toNat = hd := by omega
  have hnw := hI.now
  have hx7 := hI.gds
  have hv2 : 0 ≤ (i : Int) ∧ (i : Int) < h0 89 22 := by omega
  refine zCT_of (by decide) (Nat.le_of_ble_eq_true rfl) (ls := [some (zR 89), some (zI (g : Int)), some (zI (i : Int)), some (zI (q : Int)), some (zI (d : Int)), none]) rfl ?_
  refine z_il3 dX9_mayDeal_0 ?_
  refine z_al0 dX9_mayDeal_1 (by first | decide | omega | assumption) ?_
  refine z_getR zfX9_85 dX9_mayDeal_2 (zkB hΓ rfl) rfl (zsB hΓ rfl) (zvB hΓ (by decide)) ?_
  refine z_bipush (x := 6) dX9_mayDeal_5 (by rfl) (by decide) ?_
  refine z_il1 dX9_mayDeal_7 ?_
  refine z_imul dX9_mayDeal_8 (by omega) ?_
  refine z_il2 dX9_mayDeal_9 ?_
  refine z_iadd dX9_mayDeal_10 (by omega) ?_
  refine z_iald dX9_mayDeal_11 (zkB hΓ rfl) (by omega) (by omega) ?_
  try simp only [Int.toNat_natCast]
  rw [hF 107 _ rfl, show ((6 : Int) * (g : Int) + (i : Int)).toNat = 6 * g + i by omega]
  have hp9 := (hI.prc g i (by omega) (by omega)).2
  have hm9 := zmq (q := q) (p := h0 107 (6 * g + i)) (by omega) hp9.1 hp9.2
  try simp only [zup_ap, zup_row, ne_eq, not_false_eq_true, zres, Int.toNat_natCast, reduceIte, Nat.reduceEqDiff, Nat.reduceAdd, and_self, and_true, true_and, and_false, false_and]
  refine z_imul dX9_mayDeal_12 (by omega) ?_
  refine z_is5 dX9_mayDeal_13 (Nat.le_of_ble_eq_true rfl) rfl ?_
  refine z_il5 dX9_mayDeal_15 ?_
  refine z_sipush (x := 200) dX9_mayDeal_17 (by rfl) (by decide) ?_
  refine z_icmp_gt (t := 46) dX9_mayDeal_20 (by rfl) (fun ht20 => ?_) (fun hf20 => ?_)
  · refine z_iconst dX9_mayDeal_46 (by decide) ?_
    refine z_zret dX9_mayDeal_47 rfl (Nat.le_refl _) (Nat.le_refl _) (zext_rf _) (by first | exact Or.inl rfl | exact Or.inr rfl | omega) ?_
    refine hQ0 ?_ _ ?_
    · unfold zdl
      first
      | (rw [decide_eq_false (show ¬ zFo h0 (i : Int) (q : Int) (d : Int) = 0 by omega)]; rfl)
      | (rw [decide_eq_false (show ¬ (q : Int) * h0 107 (6 * g + i) ≤ 200 by omega), Bool.false_and, Bool.and_false])
      | (cases e3 : zpd (zbF h0 (i : Int) (d : Int)) 3 (h0 89 32).toNat ((q : Int) * h0 107 (6 * g + i)).toNat with
         | false => rw [Bool.and_false, Bool.and_false]
         | true =>
           have e4 : zFo h0 (i : Int) (((q : Int) * h0 107 (6 * g + i)).toNat : Int) (d : Int) = 0 := zpd_f e3
           rw [show ((((q : Int) * h0 107 (6 * g + i)).toNat : Nat) : Int) = (q : Int) * h0 107 (6 * g + i) by omega] at e4
           exfalso; omega)
    · first
      | exact ⟨zfY_rf _ _, hM⟩
      | exact ⟨zfY_M hM2, zPm_cg hM (hM2.1 108 (by decide) (by decide)) (hM2.1 109 (by decide) (by decide))⟩
      | exact ⟨zfY_M (zfM_tr hM2 hM3), zPm_cg hM (by rw [hM3.1 108 (by decide) (by decide), hM2.1 108 (by decide) (by decide)]) (by rw [hM3.1 109 (by decide) (by decide), hM2.1 109 (by decide) (by decide)])⟩
  · refine z_al0 dX9_mayDeal_23 (by first | decide | omega | assumption) ?_
    refine z_il2 dX9_mayDeal_24 ?_
    refine z_il3 dX9_mayDeal_25 ?_
    refine z_il4 dX9_mayDeal_26 ?_
    refine zcv3 dX9_mayDeal_28 zkX9_311 ziX9_isForbidden zsX9_isForbidden (zkB hΓ rfl) (by decide) rfl (Nat.le_of_ble_eq_true rfl) (by decide) (by first | decide | omega) ⟨Nat.le_refl _, Nat.le_refl _⟩ (X9_isForbidden_ct hI hF hv2 (by omega) (fun h2 hM2 _ => ?_))
    try simp only [zup_ap, zup_row, ne_eq, not_false_eq_true, zres, Int.toNat_natCast, reduceIte, Nat.reduceEqDiff, Nat.reduceAdd, and_self, and_true, true_and, and_false, false_and]
    replace hF := zfr_M hF hM2
    refine z_if_ne (t := 46) dX9_mayDeal_31 (by rfl) (fun ht31 => ?_) (fun hf31 => ?_)
    · refine z_iconst dX9_mayDeal_46 (by decide) ?_
      refine z_zret dX9_mayDeal_47 rfl (Nat.le_refl _) (Nat.le_refl _) (zext_rf _) (by first | exact Or.inl rfl | exact Or.inr rfl | omega) ?_
      refine hQ0 ?_ _ ?_
      · unfold zdl
        first
        | (rw [decide_eq_false (show ¬ zFo h0 (i : Int) (q : Int) (d : Int) = 0 by omega)]; rfl)
        | (rw [decide_eq_false (show ¬ (q : Int) * h0 107 (6 * g + i) ≤ 200 by omega), Bool.false_and, Bool.and_false])
        | (cases e3 : zpd (zbF h0 (i : Int) (d : Int)) 3 (h0 89 32).toNat ((q : Int) * h0 107 (6 * g + i)).toNat with
           | false => rw [Bool.and_false, Bool.and_false]
           | true =>
             have e4 : zFo h0 (i : Int) (((q : Int) * h0 107 (6 * g + i)).toNat : Int) (d : Int) = 0 := zpd_f e3
             rw [show ((((q : Int) * h0 107 (6 * g + i)).toNat : Nat) : Int) = (q : Int) * h0 107 (6 * g + i) by omega] at e4
             exfalso; omega)
      · first
        | exact ⟨zfY_rf _ _, hM⟩
        | exact ⟨zfY_M hM2, zPm_cg hM (hM2.1 108 (by decide) (by decide)) (hM2.1 109 (by decide) (by decide))⟩
        | exact ⟨zfY_M (zfM_tr hM2 hM3), zPm_cg hM (by rw [hM3.1 108 (by decide) (by decide), hM2.1 108 (by decide) (by decide)]) (by rw [hM3.1 109 (by decide) (by decide), hM2.1 109 (by decide) (by decide)])⟩
    · refine z_al0 dX9_mayDeal_34 (by first | decide | omega | assumption) ?_
      refine z_il2 dX9_mayDeal_35 ?_
      refine z_il5 dX9_mayDeal_36 ?_
      refine z_il4 dX9_mayDeal_38 ?_
      refine zcv3 dX9_mayDeal_40 zkX9_311 ziX9_isForbidden zsX9_isForbidden (zkB hΓ rfl) (by decide) rfl (Nat.le_of_ble_eq_true rfl) (by decide) (by first | decide | omega) ⟨Nat.le_refl _, Nat.le_refl _⟩ (X9_isForbidden_ct hI hF hv2 (by omega) (fun h3 hM3 _ => ?_))
      try simp only [zup_ap, zup_row, ne_eq, not_false_eq_true, zres, Int.toNat_natCast, reduceIte, Nat.reduceEqDiff, Nat.reduceAdd, and_self, and_true, true_and, and_false, false_and]
      replace hF := zfr_M hF hM3
      refine z_if_eq (t := 48) dX9_mayDeal_43 (by rfl) (fun ht43 => ?_) (fun hf43 => ?_)
      · refine z_al0 dX9_mayDeal_48 (by first | decide | omega | assumption) ?_
        refine z_il2 dX9_mayDeal_49 ?_
        refine z_il4 dX9_mayDeal_50 ?_
        refine zcv2 dX9_mayDeal_52 zkX9_380 ziX9_layPaid zsX9_layPaid (zkB hΓ rfl) (by decide) rfl (Nat.le_of_ble_eq_true rfl) (by decide) (by first | decide | omega) ⟨Nat.le_refl _, Nat.le_refl _⟩ (X9_layPaid_ct hI hF hv hd9 (zPm_cg hM (by rw [hM3.1 108 (by decide) (by decide), hM2.1 108 (by decide) (by decide)]) (by rw [hM3.1 109 (by decide) (by decide), hM2.1 109 (by decide) (by decide)])) (fun h4 hY4 hP4 hA4 _ => ?_))
        try simp only [zup_ap, zup_row, ne_eq, not_false_eq_true, zres, Int.toNat_natCast, reduceIte, Nat.reduceEqDiff, Nat.reduceAdd, and_self, and_true, true_and, and_false, false_and]
        replace hF := zfr_Y hF (by decide) hY4
        have hY9 : zfY 109 h h4 := zfY_tr (zfY_M (zfM_tr hM2 hM3)) hY4
        obtain ⟨s, hs⟩ := Int.eq_ofNat_of_zero_le (show 0 ≤ (q : Int) * h0 107 (6 * g + i) by omega)
        simp only [hs] at hm9 hf20 ht43 ⊢
        refine z_al0 dX9_mayDeal_55 (by first | decide | omega | assumption) ?_
        refine z_getR zfX9_89 dX9_mayDeal_56 (zkB hΓ rfl) rfl (zsB hΓ rfl) (zvB hΓ (by decide)) ?_
        refine z_sipush (x := 201) dX9_mayDeal_59 (by rfl) (by decide) ?_
        refine z_bipush (x := 100) dX9_mayDeal_62 (by rfl) (by decide) ?_
        refine z_il2 dX9_mayDeal_64 ?_
        refine z_imul dX9_mayDeal_65 (by omega) ?_
        refine z_il4 dX9_mayDeal_66 ?_
        refine z_iadd dX9_mayDeal_68 (by omega) ?_
        refine z_imul dX9_mayDeal_69 (by omega) ?_
        refine z_il5 dX9_mayDeal_70 ?_
        refine z_iadd dX9_mayDeal_72 (by omega) ?_
        rw [show (201 : Int) * ((100 : Int) * (i : Int) + (d : Int)) + (s : Int) = ((201 * (100 * i + d) + s : Nat) : Int) by omega]
        refine z_zald dX9_mayDeal_73 (zkB hΓ rfl) (by omega) (by omega) ?_
        try simp only [Int.toNat_natCast]
        rw [hP4 i d hv hd9 hA4 s (by omega) (by omega)]
        try simp only [zup_ap, zup_row, ne_eq, not_false_eq_true, zres, Int.toNat_natCast, reduceIte, Nat.reduceEqDiff, Nat.reduceAdd, and_self, and_true, true_and, and_false, false_and]
        refine z_zret dX9_mayDeal_74 rfl (Nat.le_refl _) (Nat.le_refl _) (zext_rf _) (by split <;> first | exact Or.inl rfl | exact Or.inr rfl) ?_
        have hz9 : zdl h0 g i q (d : Int) = zpd (zbF h0 (i : Int) (d : Int)) 3 (h0 89 32).toNat s := by
          unfold zdl
          rw [hs, Int.toNat_natCast, decide_eq_true (show zFo h0 (i : Int) (q : Int) (d : Int) = 0 by omega), decide_eq_true (show (s : Int) ≤ 200 by omega), Bool.true_and, Bool.true_and]
        cases hzp : zpd (zbF h0 (i : Int) (d : Int)) 3 (h0 89 32).toNat s with
        | false => exact hQ0 (by rw [hz9, hzp]) _ ⟨hY9, hP4⟩
        | true => exact hQ1 (by rw [hz9, hzp]) _ ⟨hY9, hP4⟩
      · refine z_iconst dX9_mayDeal_46 (by decide) ?_
        refine z_zret dX9_mayDeal_47 rfl (Nat.le_refl _) (Nat.le_refl _) (zext_rf _) (by first | exact Or.inl rfl | exact Or.inr rfl | omega) ?_
        refine hQ0 ?_ _ ?_
        · unfold zdl
          first
          | (rw [decide_eq_false (show ¬ zFo h0 (i : Int) (q : Int) (d : Int) = 0 by omega)]; rfl)
          | (rw [decide_eq_false (show ¬ (q : Int) * h0 107 (6 * g + i) ≤ 200 by omega), Bool.false_and, Bool.and_false])
          | (cases e3 : zpd (zbF h0 (i : Int) (d : Int)) 3 (h0 89 32).toNat ((q : Int) * h0 107 (6 * g + i)).toNat with
             | false => rw [Bool.and_false, Bool.and_false]
             | true =>
               have e4 : zFo h0 (i : Int) (((q : Int) * h0 107 (6 * g + i)).toNat : Int) (d : Int) = 0 := zpd_f e3
               rw [show ((((q : Int) * h0 107 (6 * g + i)).toNat : Nat) : Int) = (q : Int) * h0 107 (6 * g + i) by omega] at e4
               exfalso; omega)
        · first
          | exact ⟨zfY_rf _ _, hM⟩
          | exact ⟨zfY_M hM2, zPm_cg hM (hM2.1 108 (by decide) (by decide)) (hM2.1 109 (by decide) (by decide))⟩
          | exact ⟨zfY_M (zfM_tr hM2 hM3), zPm_cg hM (by rw [hM3.1 108 (by decide) (by decide), hM2.1 108 (by decide) (by decide)]) (by rw [hM3.1 109 (by decide) (by decide), hM2.1 109 (by decide) (by decide)])⟩
set_option maxRecDepth 4000 in
theorem X9_deal_ct {l : Launch} {Γ : zC} {h0 h : zM} {Q : Option zV → zC → zM → Prop} {g i q d : Int} (hI : zIv Γ h0) (hF : zfr zSS h0 h) (hQ : ∀ h9, zfr zSS h0 h9 → Q (some (zI (zvDeal h0 g i q d))) Γ h9) : zCT l mX9_deal 1684 0 0 Γ [zR 89, zI g, zI i, zI q, zI d] h Q := by
  have hΓ := hI.base
  have hx2 := hI.isl
  have hx7 := hI.gds
  refine zCT_of (by decide) (Nat.le_of_ble_eq_true rfl) (ls := [some (zR 89), some (zI g), some (zI i), some (zI q), some (zI d)]) rfl ?_
  refine z_al0 dX9_deal_0 (by first | decide | omega | assumption) ?_
  refine z_iconst dX9_deal_1 (by decide) ?_
  refine z_putI zfX9_128 dX9_deal_2 (zkB hΓ rfl) rfl rfl ?_
  replace hF : zfr zSS h0 (zup h 89 0 0) := zfr_up hF rfl
  generalize zup h 89 0 0 = h at hF ⊢
  refine z_al0 dX9_deal_5 (by first | decide | omega | assumption) ?_
  refine zcv0 dX9_deal_6 zkX9_383 ziX9_forgetPaid zsX9_forgetPaid (zkB hΓ rfl) (by decide) rfl (Nat.le_of_ble_eq_true rfl) (by decide) (by first | decide | omega) ⟨Nat.le_refl _, Nat.le_refl _⟩ (X9_forgetPaid_ct hΓ (fun h2 hE2 hD2 _ => ?_))
  try simp only [zup_ap, zup_row, ne_eq, not_false_eq_true, zres, Int.toNat_natCast, reduceIte, Nat.reduceEqDiff, Nat.reduceAdd, and_self, and_true, true_and, and_false, false_and]
  replace hF := zfr_1 hF (fun _ => rfl) hE2
  refine z_al0 dX9_deal_9 (by first | decide | omega | assumption) ?_
  refine z_il1 dX9_deal_10 ?_
  refine zcv1 dX9_deal_11 zkX9_377 ziX9_isGood zsX9_isGood (zkB hΓ rfl) (by decide) rfl (Nat.le_of_ble_eq_true rfl) (by decide) (by first | decide | omega) ⟨Nat.le_refl _, Nat.le_refl _⟩ (X9_isGood_ct hI hF (fun hg1 _ => ?_) (fun hg1 _ => ?_))
  · try simp only [zup_ap, zup_row, ne_eq, not_false_eq_true, zres, Int.toNat_natCast, reduceIte, Nat.reduceEqDiff, Nat.reduceAdd, and_self, and_true, true_and, and_false, false_and]
    refine z_if_eq (t := 45) dX9_deal_14 (by rfl) (fun _ => ?_) (fun hx => absurd hx (by decide))
    refine z_iconst dX9_deal_45 (by decide) ?_
    refine z_goto (t := 66) dX9_deal_46 (by rfl) ?_
    refine z_iret dX9_deal_66 rfl (Nat.le_refl _) (Nat.le_refl _) (zext_rf _) (fun hrr => ?_)
    first
    | (have hw9 := hQ _ hF
       unfold zvDeal at hw9
       rw [if_neg (by omega)] at hw9
       exact hw9)
    | (have hw9 := hQ _ (zfr_Y hF (by decide) hY3.1)
       unfold zvDeal at hw9
       rw [if_pos (by omega)] at hw9
       rw [Int.toNat_natCast, Int.toNat_natCast, Int.toNat_natCast, hp9] at hw9
       exact hw9)
  · try simp only [zup_ap, zup_row, ne_eq, not_false_eq_true, zres, Int.toNat_natCast, reduceIte, Nat.reduceEqDiff, Nat.reduceAdd, and_self, and_true, true_and, and_false, false_and]
    refine z_if_eq (t := 45) dX9_deal_14 (by rfl) (fun hx => absurd hx (by decide)) (fun _ => ?_)
    refine z_al0 dX9_deal_17 (by first | decide | omega | assumption) ?_
    refine z_il2 dX9_deal_18 ?_
    refine zcv1 dX9_deal_19 zkX9_299 ziX9_isIsle zsX9_isIsle (zkB hΓ rfl) (by decide) rfl (Nat.le_of_ble_eq_true rfl) (by decide) (by first | decide | omega) ⟨Nat.le_refl _, Nat.le_refl _⟩ (X9_isIsle_ct hI hF (fun hg2 _ => ?_) (fun hg2 _ => ?_))
    · try simp only [zup_ap, zup_row, ne_eq, not_false_eq_true, zres, Int.toNat_natCast, reduceIte, Nat.reduceEqDiff, Nat.reduceAdd, and_self, and_true, true_and, and_false, false_and]
      refine z_if_eq (t := 45) dX9_deal_22 (by rfl) (fun _ => ?_) (fun hx => absurd hx (by decide))
      refine z_iconst dX9_deal_45 (by decide) ?_
      refine z_goto (t := 66) dX9_deal_46 (by rfl) ?_
      refine z_iret dX9_deal_66 rfl (Nat.le_refl _) (Nat.le_refl _) (zext_rf _) (fun hrr => ?_)
      first
      | (have hw9 := hQ _ hF
         unfold zvDeal at hw9
         rw [if_neg (by omega)] at hw9
         exact hw9)
      | (have hw9 := hQ _ (zfr_Y hF (by decide) hY3.1)
         unfold zvDeal at hw9
         rw [if_pos (by omega)] at hw9
         rw [Int.toNat_natCast, Int.toNat_natCast, Int.toNat_natCast, hp9] at hw9
         exact hw9)
    · try simp only [zup_ap, zup_row, ne_eq, not_false_eq_true, zres, Int.toNat_natCast, reduceIte, Nat.reduceEqDiff, Nat.reduceAdd, and_self, and_true, true_and, and_false, false_and]
      refine z_if_eq (t := 45) dX9_deal_22 (by rfl) (fun hx => absurd hx (by decide)) (fun _ => ?_)
      refine z_il3 dX9_deal_25 ?_
      refine z_i2l dX9_deal_26 ?_
      refine z_lconst (x := 1) dX9_deal_27 (by rfl) (by decide) ?_
      refine z_ldc2 (x := 6) dX9_deal_28 zqX9_386 (by decide) ?_
      refine zcs3 dX9_deal_31 zkX9_261 ztX9_isIn (Nat.le_of_ble_eq_true rfl) (by decide) (by first | decide | omega) ⟨Nat.le_refl _, Nat.le_refl _⟩ (X9_isIn_ct (fun hg3 _ => ?_) (fun hg3 _ => ?_))
      · try simp only [zup_ap, zup_row, ne_eq, not_false_eq_true, zres, Int.toNat_natCast, reduceIte, Nat.reduceEqDiff, Nat.reduceAdd, and_self, and_true, true_and, and_false, false_and]
        refine z_if_eq (t := 45) dX9_deal_34 (by rfl) (fun _ => ?_) (fun hx => absurd hx (by decide))
        refine z_iconst dX9_deal_45 (by decide) ?_
        refine z_goto (t := 66) dX9_deal_46 (by rfl) ?_
        refine z_iret dX9_deal_66 rfl (Nat.le_refl _) (Nat.le_refl _) (zext_rf _) (fun hrr => ?_)
        first
        | (have hw9 := hQ _ hF
           unfold zvDeal at hw9
           rw [if_neg (by omega)] at hw9
           exact hw9)
        | (have hw9 := hQ _ (zfr_Y hF (by decide) hY3.1)
           unfold zvDeal at hw9
           rw [if_pos (by omega)] at hw9
           rw [Int.toNat_natCast, Int.toNat_natCast, Int.toNat_natCast, hp9] at hw9
           exact hw9)
      · try simp only [zup_ap, zup_row, ne_eq, not_false_eq_true, zres, Int.toNat_natCast, reduceIte, Nat.reduceEqDiff, Nat.reduceAdd, and_self, and_true, true_and, and_false, false_and]
        refine z_if_eq (t := 45) dX9_deal_34 (by rfl) (fun hx => absurd hx (by decide)) (fun _ => ?_)
        refine z_il4 dX9_deal_37 ?_
        refine zcs1 dX9_deal_39 zkX9_302 ztX9_isDay (Nat.le_of_ble_eq_true rfl) (by decide) (by first | decide | omega) ⟨Nat.le_refl _, Nat.le_refl _⟩ (X9_isDay_ct (fun hg4 _ => ?_) (fun hg4 _ => ?_))
        · try simp only [zup_ap, zup_row, ne_eq, not_false_eq_true, zres, Int.toNat_natCast, reduceIte, Nat.reduceEqDiff, Nat.reduceAdd, and_self, and_true, true_and, and_false, false_and]
          refine z_if_ne (t := 49) dX9_deal_42 (by rfl) (fun hx => absurd hx (by decide)) (fun _ => ?_)
          refine z_iconst dX9_deal_45 (by decide) ?_
          refine z_goto (t := 66) dX9_deal_46 (by rfl) ?_
          refine z_iret dX9_deal_66 rfl (Nat.le_refl _) (Nat.le_refl _) (zext_rf _) (fun hrr => ?_)
          first
          | (have hw9 := hQ _ hF
             unfold zvDeal at hw9
             rw [if_neg (by omega)] at hw9
             exact hw9)
          | (have hw9 := hQ _ (zfr_Y hF (by decide) hY3.1)
             unfold zvDeal at hw9
             rw [if_pos (by omega)] at hw9
             rw [Int.toNat_natCast, Int.toNat_natCast, Int.toNat_natCast, hp9] at hw9
             exact hw9)
        · try simp only [zup_ap, zup_row, ne_eq, not_false_eq_true, zres, Int.toNat_natCast, reduceIte, Nat.reduceEqDiff, Nat.reduceAdd, and_self, and_true, true_and, and_false, false_and]
          refine z_if_ne (t := 49) dX9_deal_42 (by rfl) (fun _ => ?_) (fun hx => absurd hx (by decide))
          obtain ⟨g, rfl⟩ := Int.eq_ofNat_of_zero_le (show 0 ≤ g by omega)
          obtain ⟨i, rfl⟩ := Int.eq_ofNat_of_zero_le (show 0 ≤ i by omega)
          obtain ⟨q, rfl⟩ := Int.eq_ofNat_of_zero_le (show 0 ≤ q by omega)
          obtain ⟨d, rfl⟩ := Int.eq_ofNat_of_zero_le (show 0 ≤ d by omega)
          refine z_al0 dX9_deal_49 (by first | decide | omega | assumption) ?_
          refine z_il1 dX9_deal_50 ?_
          refine z_il2 dX9_deal_51 ?_
          refine z_il3 dX9_deal_52 ?_
          refine z_il4 dX9_deal_53 ?_
          refine zcv4 dX9_deal_55 zkX9_388 ziX9_mayDeal zsX9_mayDeal (zkB hΓ rfl) (by decide) rfl (Nat.le_of_ble_eq_true rfl) (by decide) (by first | decide | omega) ⟨Nat.le_refl _, Nat.le_refl _⟩ (X9_mayDeal_ct hI hF hg1.2 hg2.2 (by omega) (by omega) (zPm_0 hD2 hx2.2) (fun hp9 h3 hY3 _ => ?_) (fun hp9 h3 hY3 _ => ?_))
          · try simp only [zup_ap, zup_row, ne_eq, not_false_eq_true, zres, Int.toNat_natCast, reduceIte, Nat.reduceEqDiff, Nat.reduceAdd, and_self, and_true, true_and, and_false, false_and]
            refine z_if_eq (t := 65) dX9_deal_58 (by rfl) (fun _ => ?_) (fun hx => absurd hx (by decide))
            refine z_iconst dX9_deal_65 (by decide) ?_
            refine z_iret dX9_deal_66 rfl (Nat.le_refl _) (Nat.le_refl _) (zext_rf _) (fun hrr => ?_)
            first
            | (have hw9 := hQ _ hF
               unfold zvDeal at hw9
               rw [if_neg (by omega)] at hw9
               exact hw9)
            | (have hw9 := hQ _ (zfr_Y hF (by decide) hY3.1)
               unfold zvDeal at hw9
               rw [if_pos (by omega)] at hw9
               rw [Int.toNat_natCast, Int.toNat_natCast, Int.toNat_natCast, hp9] at hw9
               exact hw9)
          · try simp only [zup_ap, zup_row, ne_eq, not_false_eq_true, zres, Int.toNat_natCast, reduceIte, Nat.reduceEqDiff, Nat.reduceAdd, and_self, and_true, true_and, and_false, false_and]
            refine z_if_eq (t := 65) dX9_deal_58 (by rfl) (fun hx => absurd hx (by decide)) (fun _ => ?_)
            refine z_iconst dX9_deal_61 (by decide) ?_
            refine z_goto (t := 66) dX9_deal_62 (by rfl) ?_
            refine z_iret dX9_deal_66 rfl (Nat.le_refl _) (Nat.le_refl _) (zext_rf _) (fun hrr => ?_)
            first
            | (have hw9 := hQ _ hF
               unfold zvDeal at hw9
               rw [if_neg (by omega)] at hw9
               exact hw9)
            | (have hw9 := hQ _ (zfr_Y hF (by decide) hY3.1)
               unfold zvDeal at hw9
               rw [if_pos (by omega)] at hw9
               rw [Int.toNat_natCast, Int.toNat_natCast, Int.toNat_natCast, hp9] at hw9
               exact hw9)
/-- what is remembered of deals -/
def zDi (g i q d : Nat) : Nat := ((6 * g + i) * 7 + q) * 100 + d
def zDm (h0 h : zM) : Prop := ∀ g i q d : Nat, (g : Int) < h0 89 39 → (i : Int) < h0 89 22 → q ≤ 6 → d < 100 → h 110 (zDi g i q d) = 0 ∨ h 110 (zDi g i q d) = if zdl h0 g i q (d : Int) then 2 else 1
theorem zDm_cg {h0 h h' : zM} (H : zDm h0 h) (e : h' 110 = h 110) : zDm h0 h' := by
  unfold zDm; rw [e]; exact H
theorem zDi_b {g i q d : Nat} (hg : g < 3) (hi : i < 6) (hq : q ≤ 6) (hd : d < 100) : zDi g i q d < 12600 := by unfold zDi; omega
theorem zDi_j {g i q d g' i' q' d' : Nat} (hi : i < 6) (hq : q ≤ 6) (hd : d < 100) (hi' : i' < 6) (hq' : q' ≤ 6) (hd' : d' < 100) (e : zDi g i q d = zDi g' i' q' d') : g = g' ∧ i = i' ∧ q = q' ∧ d = d' := by
  unfold zDi at e
  have e1 : d = d' := by omega
  have e2 : (6 * g + i) * 7 + q = (6 * g' + i') * 7 + q' := by omega
  have e3 : q = q' := by omega
  have e4 : 6 * g + i = 6 * g' + i' := by omega
  exact ⟨by omega, by omega, e3, e1⟩
set_option maxRecDepth 4000 in
theorem X9_isDeal_ct {l : Launch} {Γ : zC} {h0 h : zM} {Q : Option zV → zC → zM → Prop} {g i q d : Nat} (hI : zIv Γ h0) (hF : zfr zSS h0 h) (hg9 : (g : Int) < h0 89 39) (hv : (i : Int) < h0 89 22) (hq9 : 1 ≤ q ∧ q ≤ 6) (hd9 : d < 100) (hM : zPm h0 h) (hD : zDm h0 h) (hQ0 : zdl h0 g i q (d : Int) = false → ∀ h9, zfY 110 h h9 ∧ zPm h0 h9 ∧ zDm h0 h9 → Q (some (zI 0)) Γ h9) (hQ1 : zdl h0 g i q (d : Int) = true → ∀ h9, zfY 110 h h9 ∧ zPm h0 h9 ∧ zDm h0 h9 → Q (some (zI 1)) Γ h9) : zCT l mX9_isDeal 1684 0 0 Γ [zR 89, zI (g : Int), zI (i : Int), zI (q : Int), zI (d : Int)] h Q := by
  have hΓ := hI.base
  have hx2 := hI.isl
  have hx7 := hI.gds
  refine zCT_of (by decide) (Nat.le_of_ble_eq_true rfl) (ls := [some (zR 89), some (zI (g : Int)), some (zI (i : Int)), some (zI (q : Int)), some (zI (d : Int)), none]) rfl ?_
  refine z_bipush (x := 6) dX9_isDeal_0 (by rfl) (by decide) ?_
  refine z_il1 dX9_isDeal_2 ?_
  refine z_imul dX9_isDeal_3 (by omega) ?_
  refine z_il2 dX9_isDeal_4 ?_
  refine z_iadd dX9_isDeal_5 (by omega) ?_
  refine z_bipush (x := 7) dX9_isDeal_6 (by rfl) (by decide) ?_
  refine z_imul dX9_isDeal_8 (by omega) ?_
  refine z_il3 dX9_isDeal_9 ?_
  refine z_iadd dX9_isDeal_10 (by omega) ?_
  refine z_bipush (x := 100) dX9_isDeal_11 (by rfl) (by decide) ?_
  refine z_imul dX9_isDeal_13 (by omega) ?_
  refine z_il4 dX9_isDeal_14 ?_
  refine z_iadd dX9_isDeal_16 (by omega) ?_
  rw [show (((6 : Int) * (g : Int) + (i : Int)) * 7 + (q : Int)) * 100 + (d : Int) = ((zDi g i q d : Nat) : Int) by unfold zDi; omega]
  have hib := zDi_b (g := g) (i := i) (q := q) (d := d) (by omega) (by omega) (by omega) hd9
  have hdm := hD g i q d hg9 hv (by omega) hd9
  refine z_is5 dX9_isDeal_17 (Nat.le_of_ble_eq_true rfl) rfl ?_
  refine z_al0 dX9_isDeal_19 (by first | decide | omega | assumption) ?_
  refine z_getR zfX9_95 dX9_isDeal_20 (zkB hΓ rfl) rfl (zsB hΓ rfl) (zvB hΓ (by decide)) ?_
  refine z_il5 dX9_isDeal_23 ?_
  refine z_bald dX9_isDeal_25 (zkB hΓ rfl) (by omega) (by omega) ?_
  try simp only [Int.toNat_natCast, and_self, if_true]
  try simp only [zup_ap, zup_row, ne_eq, not_false_eq_true, zres, Int.toNat_natCast, reduceIte, Nat.reduceEqDiff, Nat.reduceAdd, and_self, and_true, true_and, and_false, false_and]
  refine z_if_ne (t := 54) dX9_isDeal_26 (by rfl) (fun ht26 => ?_) (fun hf26 => ?_)
  · refine z_al0 dX9_isDeal_54 (by first | decide | omega | assumption) ?_
    refine z_getR zfX9_95 dX9_isDeal_55 (zkB hΓ rfl) rfl (zsB hΓ rfl) (zvB hΓ (by decide)) ?_
    refine z_il5 dX9_isDeal_58 ?_
    refine z_bald dX9_isDeal_60 (zkB hΓ rfl) (by omega) (by omega) ?_
    try simp only [Int.toNat_natCast, and_self, if_true]
    try simp only [zup_ap, zup_row, ne_eq, not_false_eq_true, zres, Int.toNat_natCast, reduceIte, Nat.reduceEqDiff, Nat.reduceAdd, and_self, and_true, true_and, and_false, false_and]
    refine z_iconst dX9_isDeal_61 (by decide) ?_
    refine z_icmp_ne (t := 69) dX9_isDeal_62 (by rfl) (fun ht62 => ?_) (fun hf62 => ?_)
    · refine z_iconst dX9_isDeal_69 (by decide) ?_
      refine z_zret dX9_isDeal_70 rfl (Nat.le_refl _) (Nat.le_refl _) (zext_rf _) (by first | exact Or.inl rfl | exact Or.inr rfl | omega) ?_
      first
      | (have hD9 : zDm h0 (zup h3 110 (zDi g i q d) 2) := fun g1 i1 q1 d1 a1 a2 a3 a4 => by
           by_cases e : zDi g1 i1 q1 d1 = zDi g i q d
           · obtain ⟨rfl, rfl, rfl, rfl⟩ := zDi_j (by omega) a3 a4 (by omega) (by omega) hd9 e
             rw [zup_ap]
             exact Or.inr ((if_pos ⟨rfl, rfl⟩).trans (by rw [hp9]; rfl))
           · rw [zup_ap, if_neg (fun x => e x.2), hY3.1.1 110 (by decide) (by decide) (by decide) (by decide)]
             exact hD g1 i1 q1 d1 a1 a2 a3 a4
         have hY9 : zfY 110 h (zup h3 110 (zDi g i q d) 2) := zfY_tr (zfY_le (by decide) hY3.1) (zfY_1 (q := 110) (by decide) (fun r hr => zup_row hr))
         have hM9 := zPm_cg hY3.2 (zup_row (h := h3) (r := 110) (j := zDi g i q d) (x := 2) (show 108 ≠ 110 by decide)) (zup_row (h := h3) (r := 110) (j := zDi g i q d) (x := 2) (show 109 ≠ 110 by decide))
         exact hQ1 hp9 _ ⟨hY9, hM9, hD9⟩)
      | (have hD9 : zDm h0 (zup h3 110 (zDi g i q d) 1) := fun g1 i1 q1 d1 a1 a2 a3 a4 => by
           by_cases e : zDi g1 i1 q1 d1 = zDi g i q d
           · obtain ⟨rfl, rfl, rfl, rfl⟩ := zDi_j (by omega) a3 a4 (by omega) (by omega) hd9 e
             rw [zup_ap]
             exact Or.inr ((if_pos ⟨rfl, rfl⟩).trans (by rw [hp9]; rfl))
           · rw [zup_ap, if_neg (fun x => e x.2), hY3.1.1 110 (by decide) (by decide) (by decide) (by decide)]
             exact hD g1 i1 q1 d1 a1 a2 a3 a4
         have hY9 : zfY 110 h (zup h3 110 (zDi g i q d) 1) := zfY_tr (zfY_le (by decide) hY3.1) (zfY_1 (q := 110) (by decide) (fun r hr => zup_row hr))
         have hM9 := zPm_cg hY3.2 (zup_row (h := h3) (r := 110) (j := zDi g i q d) (x := 1) (show 108 ≠ 110 by decide)) (zup_row (h := h3) (r := 110) (j := zDi g i q d) (x := 1) (show 109 ≠ 110 by decide))
         exact hQ0 hp9 _ ⟨hY9, hM9, hD9⟩)
      | (cases hz : zdl h0 g i q (d : Int) with
         | false =>
           rw [hz] at hdm
           first
           | exact hQ0 hz _ ⟨zfY_rf _ _, hM, hD⟩
           | (exfalso; have h9 : h 110 (zDi g i q d) = 0 ∨ h 110 (zDi g i q d) = 1 := hdm; omega)
         | true =>
           rw [hz] at hdm
           first
           | exact hQ1 hz _ ⟨zfY_rf _ _, hM, hD⟩
           | (exfalso; have h9 : h 110 (zDi g i q d) = 0 ∨ h 110 (zDi g i q d) = 2 := hdm; omega))
    · refine z_iconst dX9_isDeal_65 (by decide) ?_
      refine z_goto (t := 70) dX9_isDeal_66 (by rfl) ?_
      refine z_zret dX9_isDeal_70 rfl (Nat.le_refl _) (Nat.le_refl _) (zext_rf _) (by first | exact Or.inl rfl | exact Or.inr rfl | omega) ?_
      first
      | (have hD9 : zDm h0 (zup h3 110 (zDi g i q d) 2) := fun g1 i1 q1 d1 a1 a2 a3 a4 => by
           by_cases e : zDi g1 i1 q1 d1 = zDi g i q d
           · obtain ⟨rfl, rfl, rfl, rfl⟩ := zDi_j (by omega) a3 a4 (by omega) (by omega) hd9 e
             rw [zup_ap]
             exact Or.inr ((if_pos ⟨rfl, rfl⟩).trans (by rw [hp9]; rfl))
           · rw [zup_ap, if_neg (fun x => e x.2), hY3.1.1 110 (by decide) (by decide) (by decide) (by decide)]
             exact hD g1 i1 q1 d1 a1 a2 a3 a4
         have hY9 : zfY 110 h (zup h3 110 (zDi g i q d) 2) := zfY_tr (zfY_le (by decide) hY3.1) (zfY_1 (q := 110) (by decide) (fun r hr => zup_row hr))
         have hM9 := zPm_cg hY3.2 (zup_row (h := h3) (r := 110) (j := zDi g i q d) (x := 2) (show 108 ≠ 110 by decide)) (zup_row (h := h3) (r := 110) (j := zDi g i q d) (x := 2) (show 109 ≠ 110 by decide))
         exact hQ1 hp9 _ ⟨hY9, hM9, hD9⟩)
      | (have hD9 : zDm h0 (zup h3 110 (zDi g i q d) 1) := fun g1 i1 q1 d1 a1 a2 a3 a4 => by
           by_cases e : zDi g1 i1 q1 d1 = zDi g i q d
           · obtain ⟨rfl, rfl, rfl, rfl⟩ := zDi_j (by omega) a3 a4 (by omega) (by omega) hd9 e
             rw [zup_ap]
             exact Or.inr ((if_pos ⟨rfl, rfl⟩).trans (by rw [hp9]; rfl))
           · rw [zup_ap, if_neg (fun x => e x.2), hY3.1.1 110 (by decide) (by decide) (by decide) (by decide)]
             exact hD g1 i1 q1 d1 a1 a2 a3 a4
         have hY9 : zfY 110 h (zup h3 110 (zDi g i q d) 1) := zfY_tr (zfY_le (by decide) hY3.1) (zfY_1 (q := 110) (by decide) (fun r hr => zup_row hr))
         have hM9 := zPm_cg hY3.2 (zup_row (h := h3) (r := 110) (j := zDi g i q d) (x := 1) (show 108 ≠ 110 by decide)) (zup_row (h := h3) (r := 110) (j := zDi g i q d) (x := 1) (show 109 ≠ 110 by decide))
         exact hQ0 hp9 _ ⟨hY9, hM9, hD9⟩)
      | (cases hz : zdl h0 g i q (d : Int) with
         | false =>
           rw [hz] at hdm
           first
           | exact hQ0 hz _ ⟨zfY_rf _ _, hM, hD⟩
           | (exfalso; have h9 : h 110 (zDi g i q d) = 0 ∨ h 110 (zDi g i q d) = 1 := hdm; omega)
         | true =>
           rw [hz] at hdm
           first
           | exact hQ1 hz _ ⟨zfY_rf _ _, hM, hD⟩
           | (exfalso; have h9 : h 110 (zDi g i q d) = 0 ∨ h 110 (zDi g i q d) = 2 := hdm; omega))
  · refine z_al0 dX9_isDeal_29 (by first | decide | omega | assumption) ?_
    refine z_getR zfX9_95 dX9_isDeal_30 (zkB hΓ rfl) rfl (zsB hΓ rfl) (zvB hΓ (by decide)) ?_
    refine z_il5 dX9_isDeal_33 ?_
    refine z_al0 dX9_isDeal_35 (by first | decide | omega | assumption) ?_
    refine z_il1 dX9_isDeal_36 ?_
    refine z_il2 dX9_isDeal_37 ?_
    refine z_il3 dX9_isDeal_38 ?_
    refine z_il4 dX9_isDeal_39 ?_
    refine zcv4 dX9_isDeal_41 zkX9_388 ziX9_mayDeal zsX9_mayDeal (zkB hΓ rfl) (by decide) rfl (Nat.le_of_ble_eq_true rfl) (by decide) (by first | decide | omega) ⟨Nat.le_refl _, Nat.le_refl _⟩ (X9_mayDeal_ct hI hF hg9 hv hq9 hd9 hM (fun hp9 h3 hY3 _ => ?_) (fun hp9 h3 hY3 _ => ?_))
    · try simp only [zup_ap, zup_row, ne_eq, not_false_eq_true, zres, Int.toNat_natCast, reduceIte, Nat.reduceEqDiff, Nat.reduceAdd, and_self, and_true, true_and, and_false, false_and]
      refine z_if_eq (t := 51) dX9_isDeal_44 (by rfl) (fun _ => ?_) (fun hx => absurd hx (by decide))
      refine z_iconst dX9_isDeal_51 (by decide) ?_
      refine z_i2b dX9_isDeal_52 ?_
      try rw [zi2b2]
      try rw [zi2b1]
      refine z_bast dX9_isDeal_53 (zkB hΓ rfl) (by omega) (by omega) (by decide) ?_
      refine z_al0 dX9_isDeal_54 (by first | decide | omega | assumption) ?_
      refine z_getR zfX9_95 dX9_isDeal_55 (zkB hΓ rfl) rfl (zsB hΓ rfl) (zvB hΓ (by decide)) ?_
      refine z_il5 dX9_isDeal_58 ?_
      refine z_bald dX9_isDeal_60 (zkB hΓ rfl) (by omega) (by omega) ?_
      try simp only [Int.toNat_natCast, and_self, if_true]
      try simp only [zup_ap, zup_row, ne_eq, not_false_eq_true, zres, Int.toNat_natCast, reduceIte, Nat.reduceEqDiff, Nat.reduceAdd, and_self, and_true, true_and, and_false, false_and]
      refine z_iconst dX9_isDeal_61 (by decide) ?_
      refine z_icmp_ne (t := 69) dX9_isDeal_62 (by rfl) (fun ht62 => ?_) (fun hf62 => ?_)
      · refine z_iconst dX9_isDeal_69 (by decide) ?_
        refine z_zret dX9_isDeal_70 rfl (Nat.le_refl _) (Nat.le_refl _) (zext_rf _) (by first | exact Or.inl rfl | exact Or.inr rfl | omega) ?_
        first
        | (have hD9 : zDm h0 (zup h3 110 (zDi g i q d) 2) := fun g1 i1 q1 d1 a1 a2 a3 a4 => by
             by_cases e : zDi g1 i1 q1 d1 = zDi g i q d
             · obtain ⟨rfl, rfl, rfl, rfl⟩ := zDi_j (by omega) a3 a4 (by omega) (by omega) hd9 e
               rw [zup_ap]
               exact Or.inr ((if_pos ⟨rfl, rfl⟩).trans (by rw [hp9]; rfl))
             · rw [zup_ap, if_neg (fun x => e x.2), hY3.1.1 110 (by decide) (by decide) (by decide) (by decide)]
               exact hD g1 i1 q1 d1 a1 a2 a3 a4
           have hY9 : zfY 110 h (zup h3 110 (zDi g i q d) 2) := zfY_tr (zfY_le (by decide) hY3.1) (zfY_1 (q := 110) (by decide) (fun r hr => zup_row hr))
           have hM9 := zPm_cg hY3.2 (zup_row (h := h3) (r := 110) (j := zDi g i q d) (x := 2) (show 108 ≠ 110 by decide)) (zup_row (h := h3) (r := 110) (j := zDi g i q d) (x := 2) (show 109 ≠ 110 by decide))
           exact hQ1 hp9 _ ⟨hY9, hM9, hD9⟩)
        | (have hD9 : zDm h0 (zup h3 110 (zDi g i q d) 1) := fun g1 i1 q1 d1 a1 a2 a3 a4 => by
             by_cases e : zDi g1 i1 q1 d1 = zDi g i q d
             · obtain ⟨rfl, rfl, rfl, rfl⟩ := zDi_j (by omega) a3 a4 (by omega) (by omega) hd9 e
               rw [zup_ap]
               exact Or.inr ((if_pos ⟨rfl, rfl⟩).trans (by rw [hp9]; rfl))
             · rw [zup_ap, if_neg (fun x => e x.2), hY3.1.1 110 (by decide) (by decide) (by decide) (by decide)]
               exact hD g1 i1 q1 d1 a1 a2 a3 a4
           have hY9 : zfY 110 h (zup h3 110 (zDi g i q d) 1) := zfY_tr (zfY_le (by decide) hY3.1) (zfY_1 (q := 110) (by decide) (fun r hr => zup_row hr))
           have hM9 := zPm_cg hY3.2 (zup_row (h := h3) (r := 110) (j := zDi g i q d) (x := 1) (show 108 ≠ 110 by decide)) (zup_row (h := h3) (r := 110) (j := zDi g i q d) (x := 1) (show 109 ≠ 110 by decide))
           exact hQ0 hp9 _ ⟨hY9, hM9, hD9⟩)
        | (cases hz : zdl h0 g i q (d : Int) with
           | false =>
             rw [hz] at hdm
             first
             | exact hQ0 hz _ ⟨zfY_rf _ _, hM, hD⟩
             | (exfalso; have h9 : h 110 (zDi g i q d) = 0 ∨ h 110 (zDi g i q d) = 1 := hdm; omega)
           | true =>
             rw [hz] at hdm
             first
             | exact hQ1 hz _ ⟨zfY_rf _ _, hM, hD⟩
             | (exfalso; have h9 : h 110 (zDi g i q d) = 0 ∨ h 110 (zDi g i q d) = 2 := hdm; omega))
      · refine z_iconst dX9_isDeal_65 (by decide) ?_
        refine z_goto (t := 70) dX9_isDeal_66 (by rfl) ?_
        refine z_zret dX9_isDeal_70 rfl (Nat.le_refl _) (Nat.le_refl _) (zext_rf _) (by first | exact Or.inl rfl | exact Or.inr rfl | omega) ?_
        first
        | (have hD9 : zDm h0 (zup h3 110 (zDi g i q d) 2) := fun g1 i1 q1 d1 a1 a2 a3 a4 => by
             by_cases e : zDi g1 i1 q1 d1 = zDi g i q d
             · obtain ⟨rfl, rfl, rfl, rfl⟩ := zDi_j (by omega) a3 a4 (by omega) (by omega) hd9 e
               rw [zup_ap]
               exact Or.inr ((if_pos ⟨rfl, rfl⟩).trans (by rw [hp9]; rfl))
             · rw [zup_ap, if_neg (fun x => e x.2), hY3.1.1 110 (by decide) (by decide) (by decide) (by decide)]
               exact hD g1 i1 q1 d1 a1 a2 a3 a4
           have hY9 : zfY 110 h (zup h3 110 (zDi g i q d) 2) := zfY_tr (zfY_le (by decide) hY3.1) (zfY_1 (q := 110) (by decide) (fun r hr => zup_row hr))
           have hM9 := zPm_cg hY3.2 (zup_row (h := h3) (r := 110) (j := zDi g i q d) (x := 2) (show 108 ≠ 110 by decide)) (zup_row (h := h3) (r := 110) (j := zDi g i q d) (x := 2) (show 109 ≠ 110 by decide))
           exact hQ1 hp9 _ ⟨hY9, hM9, hD9⟩)
        | (have hD9 : zDm h0 (zup h3 110 (zDi g i q d) 1) := fun g1 i1 q1 d1 a1 a2 a3 a4 => by
             by_cases e : zDi g1 i1 q1 d1 = zDi g i q d
             · obtain ⟨rfl, rfl, rfl, rfl⟩ := zDi_j (by omega) a3 a4 (by omega) (by omega) hd9 e
               rw [zup_ap]
               exact Or.inr ((if_pos ⟨rfl, rfl⟩).trans (by rw [hp9]; rfl))
             · rw [zup_ap, if_neg (fun x => e x.2), hY3.1.1 110 (by decide) (by decide) (by decide) (by decide)]
               exact hD g1 i1 q1 d1 a1 a2 a3 a4
           have hY9 : zfY 110 h (zup h3 110 (zDi g i q d) 1) := zfY_tr (zfY_le (by decide) hY3.1) (zfY_1 (q := 110) (by decide) (fun r hr => zup_row hr))
           have hM9 := zPm_cg hY3.2 (zup_row (h := h3) (r := 110) (j := zDi g i q d) (x := 1) (show 108 ≠ 110 by decide)) (zup_row (h := h3) (r := 110) (j := zDi g i q d) (x := 1) (show 109 ≠ 110 by decide))
           exact hQ0 hp9 _ ⟨hY9, hM9, hD9⟩)
        | (cases hz : zdl h0 g i q (d : Int) with
           | false =>
             rw [hz] at hdm
             first
             | exact hQ0 hz _ ⟨zfY_rf _ _, hM, hD⟩
             | (exfalso; have h9 : h 110 (zDi g i q d) = 0 ∨ h 110 (zDi g i q d) = 1 := hdm; omega)
           | true =>
             rw [hz] at hdm
             first
             | exact hQ1 hz _ ⟨zfY_rf _ _, hM, hD⟩
             | (exfalso; have h9 : h 110 (zDi g i q d) = 0 ∨ h 110 (zDi g i q d) = 2 := hdm; omega))
    · try simp only [zup_ap, zup_row, ne_eq, not_false_eq_true, zres, Int.toNat_natCast, reduceIte, Nat.reduceEqDiff, Nat.reduceAdd, and_self, and_true, true_and, and_false, false_and]
      refine z_if_eq (t := 51) dX9_isDeal_44 (by rfl) (fun hx => absurd hx (by decide)) (fun _ => ?_)
      refine z_iconst dX9_isDeal_47 (by decide) ?_
      refine z_goto (t := 52) dX9_isDeal_48 (by rfl) ?_
      refine z_i2b dX9_isDeal_52 ?_
      try rw [zi2b2]
      try rw [zi2b1]
      refine z_bast dX9_isDeal_53 (zkB hΓ rfl) (by omega) (by omega) (by decide) ?_
      refine z_al0 dX9_isDeal_54 (by first | decide | omega | assumption) ?_
      refine z_getR zfX9_95 dX9_isDeal_55 (zkB hΓ rfl) rfl (zsB hΓ rfl) (zvB hΓ (by decide)) ?_
      refine z_il5 dX9_isDeal_58 ?_
      refine z_bald dX9_isDeal_60 (zkB hΓ rfl) (by omega) (by omega) ?_
      try simp only [Int.toNat_natCast, and_self, if_true]
      try simp only [zup_ap, zup_row, ne_eq, not_false_eq_true, zres, Int.toNat_natCast, reduceIte, Nat.reduceEqDiff, Nat.reduceAdd, and_self, and_true, true_and, and_false, false_and]
      refine z_iconst dX9_isDeal_61 (by decide) ?_
      refine z_icmp_ne (t := 69) dX9_isDeal_62 (by rfl) (fun ht62 => ?_) (fun hf62 => ?_)
      · refine z_iconst dX9_isDeal_69 (by decide) ?_
        refine z_zret dX9_isDeal_70 rfl (Nat.le_refl _) (Nat.le_refl _) (zext_rf _) (by first | exact Or.inl rfl | exact Or.inr rfl | omega) ?_
        first
        | (have hD9 : zDm h0 (zup h3 110 (zDi g i q d) 2) := fun g1 i1 q1 d1 a1 a2 a3 a4 => by
             by_cases e : zDi g1 i1 q1 d1 = zDi g i q d
             · obtain ⟨rfl, rfl, rfl, rfl⟩ := zDi_j (by omega) a3 a4 (by omega) (by omega) hd9 e
               rw [zup_ap]
               exact Or.inr ((if_pos ⟨rfl, rfl⟩).trans (by rw [hp9]; rfl))
             · rw [zup_ap, if_neg (fun x => e x.2), hY3.1.1 110 (by decide) (by decide) (by decide) (by decide)]
               exact hD g1 i1 q1 d1 a1 a2 a3 a4
           have hY9 : zfY 110 h (zup h3 110 (zDi g i q d) 2) := zfY_tr (zfY_le (by decide) hY3.1) (zfY_1 (q := 110) (by decide) (fun r hr => zup_row hr))
           have hM9 := zPm_cg hY3.2 (zup_row (h := h3) (r := 110) (j := zDi g i q d) (x := 2) (show 108 ≠ 110 by decide)) (zup_row (h := h3) (r := 110) (j := zDi g i q d) (x := 2) (show 109 ≠ 110 by decide))
           exact hQ1 hp9 _ ⟨hY9, hM9, hD9⟩)
        | (have hD9 : zDm h0 (zup h3 110 (zDi g i q d) 1) := fun g1 i1 q1 d1 a1 a2 a3 a4 => by
             by_cases e : zDi g1 i1 q1 d1 = zDi g i q d
             · obtain ⟨rfl, rfl, rfl, rfl⟩ := zDi_j (by omega) a3 a4 (by omega) (by omega) hd9 e
               rw [zup_ap]
               exact Or.inr ((if_pos ⟨rfl, rfl⟩).trans (by rw [hp9]; rfl))
             · rw [zup_ap, if_neg (fun x => e x.2), hY3.1.1 110 (by decide) (by decide) (by decide) (by decide)]
               exact hD g1 i1 q1 d1 a1 a2 a3 a4
           have hY9 : zfY 110 h (zup h3 110 (zDi g i q d) 1) := zfY_tr (zfY_le (by decide) hY3.1) (zfY_1 (q := 110) (by decide) (fun r hr => zup_row hr))
           have hM9 := zPm_cg hY3.2 (zup_row (h := h3) (r := 110) (j := zDi g i q d) (x := 1) (show 108 ≠ 110 by decide)) (zup_row (h := h3) (r := 110) (j := zDi g i q d) (x := 1) (show 109 ≠ 110 by decide))
           exact hQ0 hp9 _ ⟨hY9, hM9, hD9⟩)
        | (cases hz : zdl h0 g i q (d : Int) with
           | false =>
             rw [hz] at hdm
             first
             | exact hQ0 hz _ ⟨zfY_rf _ _, hM, hD⟩
             | (exfalso; have h9 : h 110 (zDi g i q d) = 0 ∨ h 110 (zDi g i q d) = 1 := hdm; omega)
           | true =>
             rw [hz] at hdm
             first
             | exact hQ1 hz _ ⟨zfY_rf _ _, hM, hD⟩
             | (exfalso; have h9 : h 110 (zDi g i q d) = 0 ∨ h 110 (zDi g i q d) = 2 := hdm; omega))
      · refine z_iconst dX9_isDeal_65 (by decide) ?_
        refine z_goto (t := 70) dX9_isDeal_66 (by rfl) ?_
        refine z_zret dX9_isDeal_70 rfl (Nat.le_refl _) (Nat.le_refl _) (zext_rf _) (by first | exact Or.inl rfl | exact Or.inr rfl | omega) ?_
        first
        | (have hD9 : zDm h0 (zup h3 110 (zDi g i q d) 2) := fun g1 i1 q1 d1 a1 a2 a3 a4 => by
             by_cases e : zDi g1 i1 q1 d1 = zDi g i q d
             · obtain ⟨rfl, rfl, rfl, rfl⟩ := zDi_j (by omega) a3 a4 (by omega) (by omega) hd9 e
               rw [zup_ap]
               exact Or.inr ((if_pos ⟨rfl, rfl⟩).trans (by rw [hp9]; rfl))
             · rw [zup_ap, if_neg (fun x => e x.2), hY3.1.1 110 (by decide) (by decide) (by decide) (by decide)]
               exact hD g1 i1 q1 d1 a1 a2 a3 a4
           have hY9 : zfY 110 h (zup h3 110 (zDi g i q d) 2) := zfY_tr (zfY_le (by decide) hY3.1) (zfY_1 (q := 110) (by decide) (fun r hr => zup_row hr))
           have hM9 := zPm_cg hY3.2 (zup_row (h := h3) (r := 110) (j := zDi g i q d) (x := 2) (show 108 ≠ 110 by decide)) (zup_row (h := h3) (r := 110) (j := zDi g i q d) (x := 2) (show 109 ≠ 110 by decide))
           exact hQ1 hp9 _ ⟨hY9, hM9, hD9⟩)
        | (have hD9 : zDm h0 (zup h3 110 (zDi g i q d) 1) := fun g1 i1 q1 d1 a1 a2 a3 a4 => by
             by_cases e : zDi g1 i1 q1 d1 = zDi g i q d
             · obtain ⟨rfl, rfl, rfl, rfl⟩ := zDi_j (by omega) a3 a4 (by omega) (by omega) hd9 e
               rw [zup_ap]
               exact Or.inr ((if_pos ⟨rfl, rfl⟩).trans (by rw [hp9]; rfl))
             · rw [zup_ap, if_neg (fun x => e x.2), hY3.1.1 110 (by decide) (by decide) (by decide) (by decide)]
               exact hD g1 i1 q1 d1 a1 a2 a3 a4
           have hY9 : zfY 110 h (zup h3 110 (zDi g i q d) 1) := zfY_tr (zfY_le (by decide) hY3.1) (zfY_1 (q := 110) (by decide) (fun r hr => zup_row hr))
           have hM9 := zPm_cg hY3.2 (zup_row (h := h3) (r := 110) (j := zDi g i q d) (x := 1) (show 108 ≠ 110 by decide)) (zup_row (h := h3) (r := 110) (j := zDi g i q d) (x := 1) (show 109 ≠ 110 by decide))
           exact hQ0 hp9 _ ⟨hY9, hM9, hD9⟩)
        | (cases hz : zdl h0 g i q (d : Int) with
           | false =>
             rw [hz] at hdm
             first
             | exact hQ0 hz _ ⟨zfY_rf _ _, hM, hD⟩
             | (exfalso; have h9 : h 110 (zDi g i q d) = 0 ∨ h 110 (zDi g i q d) = 1 := hdm; omega)
           | true =>
             rw [hz] at hdm
             first
             | exact hQ1 hz _ ⟨zfY_rf _ _, hM, hD⟩
             | (exfalso; have h9 : h 110 (zDi g i q d) = 0 ∨ h 110 (zDi g i q d) = 2 := hdm; omega))
