/-! String constants, statics and Math of the JDK -/
def zsl (i : Nat) : Nat := if i = 0 then 1 else 6
def zsby (i : Nat) : List Int := if i = 0 then [121] else [110, 116, 115, 108, 105, 100]
theorem zflat {aL : Array Value} {sL : State} (h : (Jvm.Cond.and given_1 narrow_1).before aL sL = true) {w : Cond} (hw : w ∈ flatC (Jvm.Cond.and given_1 narrow_1)) : w.before aL sL = true := flat_of_before _ h w hw
/-- what held of the old heap holds still -/
theorem zold_O {E : String} {t : Nat} {A : Nat → Prop} {sL s : State} (hv : sL.vm.Alike s.vm) (hq : ∀ q, q < sL.heap.size → ¬ A q ∧ s.heap[q]? = sL.heap[q]?) (h : va_O E t (fun q => sL.heap.size ≤ q) sL sL.heap) : va_O E t A s s.heap :=
  ((h.moved hv).narrow (B := A) (fun q hA => Nat.le_of_not_lt fun hl => (hq q hl).1 hA)).kept (fun a ha _ => (hq a ha).2)
theorem zold_OF {o n d : String} {v : Value} {t : Nat} {A : Nat → Prop} {sL s : State} (hv : sL.vm.Alike s.vm) (hq : ∀ q, q < sL.heap.size → ¬ A q ∧ s.heap[q]? = sL.heap[q]?) (h : va_OF o n d v t (fun q => sL.heap.size ≤ q) sL sL.heap) : va_OF o n d v t A s s.heap :=
  ((h.moved hv).narrow (B := A) (fun q hA => Nat.le_of_not_lt fun hl => (hq q hl).1 hA)).kept (fun a ha _ => (hq a ha).2)
theorem zold_T {ty : FieldType} {t N : Nat} {f : Nat → Value} {A : Nat → Prop} {sL s : State} (hv : sL.vm.Alike s.vm) (hq : ∀ q, q < sL.heap.size → ¬ A q ∧ s.heap[q]? = sL.heap[q]?) (h : va_T ty t N f (fun q => sL.heap.size ≤ q) sL sL.heap) : va_T ty t N f A s s.heap :=
  ((h.moved hv).narrow (B := A) (fun q hA => Nat.le_of_not_lt fun hl => (hq q hl).1 hA)).kept (fun a ha _ => (hq a ha).2)
theorem zold_Z {C n d : String} {v : Value} {A : Nat → Prop} {sL s : State} (hv : sL.vm.Alike s.vm) (hq : ∀ q, q < sL.heap.size → ¬ A q ∧ s.heap[q]? = sL.heap[q]?) (h : va_Z C n d v (fun q => sL.heap.size ≤ q) sL sL.heap) : va_Z C n d v A s s.heap :=
  ((h.moved hv).narrow (B := A) (fun q hA => Nat.le_of_not_lt fun hl => (hq q hl).1 hA)).kept (fun a ha _ => (hq a ha).2)
def zsT (i : Nat) : Term := if i = 0 then Term.string "TabooIslesModel" 26 else Term.string "TabooIslesModel" 32
set_option maxRecDepth 20000 in
theorem zsF_ex : ∀ i, i < 2 → Cond.exactly (zsT i) "java/lang/String" ∈ flatC (Jvm.Cond.and given_1 narrow_1) := by decide +kernel
set_option maxRecDepth 20000 in
theorem zsF_co : ∀ i, i < 2 → Cond.eq (.field (zsT i) "java/lang/String" "coder" "B") (.int 0) ∈ flatC (Jvm.Cond.and given_1 narrow_1) := by decide +kernel
set_option maxRecDepth 20000 in
theorem zsF_ar : ∀ i, i < 2 → Cond.arrayOf (.field (zsT i) "java/lang/String" "value" "[B") .byte ∈ flatC (Jvm.Cond.and given_1 narrow_1) := by decide +kernel
set_option maxRecDepth 20000 in
theorem zsF_le : ∀ i, i < 2 → Cond.eq (.length (.field (zsT i) "java/lang/String" "value" "[B")) (.int (Int32.ofNat (zsl i))) ∈ flatC (Jvm.Cond.and given_1 narrow_1) := by decide +kernel
set_option maxRecDepth 20000 in
theorem zsF_el : ∀ i, i < 2 → ∀ j, j < zsl i → Cond.eq (.elem (.field (zsT i) "java/lang/String" "value" "[B") (.int (Int32.ofNat j))) (.int (Int32.ofInt ((zsby i).getD j 0))) ∈ flatC (Jvm.Cond.and given_1 narrow_1) := by decide +kernel
set_option maxRecDepth 20000 in
theorem zsF_cs : Cond.eq (.static "java/lang/String" "COMPACT_STRINGS" "Z") (.int 1) ∈ flatC (Jvm.Cond.and given_1 narrow_1) := by decide +kernel
theorem zSt_str {Γ : zC} {A : Nat → Prop} {s : State} (h : zSt Γ A s) : ∀ i, i < 2 → va_O "java/lang/String" (zad Γ (1000000 + i)) A s s.heap ∧ va_OF "java/lang/String" "coder" "B" (.int 0) (zad Γ (1000000 + i)) A s s.heap ∧ va_OF "java/lang/String" "value" "[B" (.ref (zad Γ (2000000 + i))) (zad Γ (1000000 + i)) A s s.heap ∧ va_T .byte (zad Γ (2000000 + i)) (zsl i) (fun j => .int (Int32.ofInt ((zsby i).getD j 0))) A s s.heap := by
  intro i hi
  obtain ⟨sL, aL, a1, a2, a3, a4, a5, b1, b2, b3, b4, b5, b6⟩ := h
  have hT : (zsT i).eval aL sL none [] sL = some (.ref (zad Γ (1000000 + i))) := by
    rcases (show i = 0 ∨ i = 1 by omega) with rfl | rfl
    · exact b1
    · exact b2
  have hV : (Term.field (zsT i) "java/lang/String" "value" "[B").eval aL sL none [] sL = some (.ref (zad Γ (2000000 + i))) := by
    rcases (show i = 0 ∨ i = 1 by omega) with rfl | rfl
    · exact b4
    · exact b5
  have hA : ∀ a : Nat, a < sL.heap.size → ¬ (fun q => sL.heap.size ≤ q) a := fun a ha => Nat.not_le_of_lt ha
  have hv := a3.alike
  obtain ⟨a, c, cA, kA, q1, q2, q3, q4, q5, q6, -⟩ := Cond.exactly_spec (args := aL) (first := sL) (o := none) (s := sL) (idx := []) (t := zsT i) (cls := "java/lang/String") (zflat a1 (zsF_ex i hi))
  rw [hT] at q1
  cases q1
  obtain ⟨t, ht, hTt⟩ := va_Tof (f := fun j => .int (Int32.ofInt ((zsby i).getD j 0))) (A := fun q => sL.heap.size ≤ q) (by unfold zsl; split <;> decide) (zflat a1 (zsF_ar i hi)) (va_eqt (zflat a1 (zsF_le i hi))) (fun j hj => va_eqt (zflat a1 (zsF_el i hi j hj))) hA
  rw [hV] at ht
  cases ht
  exact ⟨zold_O hv a5 ⟨cA, q3, q5, by rw [q6]; exact q2, hA _ (Array.getElem?_eq_some_iff.mp q3).1⟩, zold_OF hv a5 (vk_OFof hT (va_eqt (zflat a1 (zsF_co i hi))) hA), zold_OF hv a5 (vk_OFof hT hV hA), zold_T hv a5 hTt⟩
set_option maxRecDepth 40000 in
theorem zsW_cs : Cond.laysStatic "java/lang/String" "COMPACT_STRINGS" "Z" ∈ lw_tbl ∧ Cond.initialized "java/lang/String" ∈ lw_tbl := ⟨List.mem_of_getElem? (i := 1370) (by rfl), List.mem_of_getElem? (i := 107) (by rfl)⟩
set_option maxRecDepth 40000 in
theorem zsW_fm : Cond.laysStatic "jdk/internal/util/Preconditions" "SIOOBE_FORMATTER" "Ljava/util/function/BiFunction;" ∈ lw_tbl ∧ Cond.initialized "jdk/internal/util/Preconditions" ∈ lw_tbl := ⟨List.mem_of_getElem? (i := 1386) (by rfl), List.mem_of_getElem? (i := 109) (by rfl)⟩
set_option maxRecDepth 40000 in
theorem zl_S9 : Cond.fieldLink "java/lang/String" 9 "java/lang/String" "value" "[B" ∈ zTB := ztb 1777 (by rfl) (by decide +kernel)
set_option maxRecDepth 40000 in
theorem zl_S15 : Cond.fieldLink "java/lang/String" 15 "java/lang/String" "coder" "B" ∈ zTB := ztb 1778 (by rfl) (by decide +kernel)
set_option maxRecDepth 40000 in
theorem zl_S38 : Cond.fieldLink "java/lang/String" 38 "java/lang/String" "COMPACT_STRINGS" "Z" ∈ zTB := ztb 1369 (by rfl) (by decide +kernel)
set_option maxRecDepth 40000 in
theorem zl_S1053 : Cond.fieldLink "java/lang/String" 1053 "jdk/internal/util/Preconditions" "SIOOBE_FORMATTER" "Ljava/util/function/BiFunction;" ∈ zTB := ztb 1385 (by rfl) (by decide +kernel)
set_option maxRecDepth 40000 in
theorem zW_str0 : Cond.stringRef "TabooIslesModel" 26 "y" ∈ lw_tbl := List.mem_of_getElem? (i := 1101) (by rfl)
theorem z_ldcS0 {F : zF} {k n : Nat} {Γ : zC} {h : zM} {pc : Nat} {ls : List (Option zV)} {st : List zV} (hd : decode F.2.1.2.1 pc = .ok (.ldc 26, 2)) (ho : F.2.1.1.cls = "TabooIslesModel") (kk : zG F k n Γ h (pc + 2) ls (zR 1000000 :: st)) : zG F k n Γ h pc ls st := by
  intro p e s m args below meth c H locs lsr hB hl hlv hst hW hS hA
  obtain ⟨sL, aL, a1, a2, a3, a4, a5, b1, b2, b3, b4, b5, b6⟩ := hA.2
  have hR : vk_R "TabooIslesModel" 26 "y" (zad Γ 1000000) s := vk_R.warm a3 (vk_R.of (a2 _ zW_str0) b1)
  exact va_ldcS hB.1 hB.2.1 (by rw [← ho]; exact hB.2.2.2.2.1) hR hd (kk p e s m args below meth c H locs lsr hB hl hlv (zv2 (show zvr Γ 1000000 from Or.inr (by decide)) hst) hW hS hA)
set_option maxRecDepth 40000 in
theorem zW_str1 : Cond.stringRef "TabooIslesModel" 32 "ntslid" ∈ lw_tbl := List.mem_of_getElem? (i := 1102) (by rfl)
theorem z_ldcS1 {F : zF} {k n : Nat} {Γ : zC} {h : zM} {pc : Nat} {ls : List (Option zV)} {st : List zV} (hd : decode F.2.1.2.1 pc = .ok (.ldc 32, 2)) (ho : F.2.1.1.cls = "TabooIslesModel") (kk : zG F k n Γ h (pc + 2) ls (zR 1000001 :: st)) : zG F k n Γ h pc ls st := by
  intro p e s m args below meth c H locs lsr hB hl hlv hst hW hS hA
  obtain ⟨sL, aL, a1, a2, a3, a4, a5, b1, b2, b3, b4, b5, b6⟩ := hA.2
  have hR : vk_R "TabooIslesModel" 32 "ntslid" (zad Γ 1000001) s := vk_R.warm a3 (vk_R.of (a2 _ zW_str1) b2)
  exact va_ldcS hB.1 hB.2.1 (by rw [← ho]; exact hB.2.2.2.2.1) hR hd (kk p e s m args below meth c H locs lsr hB hl hlv (zv2 (show zvr Γ 1000001 from Or.inr (by decide)) hst) hW hS hA)
set_option maxRecDepth 40000 in
theorem zW_str2 : Cond.stringRef "TabooIsles" 123 "no such isle or day" ∈ lw_tbl := List.mem_of_getElem? (i := 1068) (by rfl)
theorem z_ldcS2 {F : zF} {k n : Nat} {Γ : zC} {h : zM} {pc : Nat} {ls : List (Option zV)} {st : List zV} (hd : decode F.2.1.2.1 pc = .ok (.ldc 123, 2)) (ho : F.2.1.1.cls = "TabooIsles") (kk : zG F k n Γ h (pc + 2) ls (zR 1000002 :: st)) : zG F k n Γ h pc ls st := by
  intro p e s m args below meth c H locs lsr hB hl hlv hst hW hS hA
  obtain ⟨sL, aL, a1, a2, a3, a4, a5, b1, b2, b3, b4, b5, b6⟩ := hA.2
  have hR : vk_R "TabooIsles" 123 "no such isle or day" (zad Γ 1000002) s := vk_R.warm a3 (vk_R.of (a2 _ zW_str2) b3)
  exact va_ldcS hB.1 hB.2.1 (by rw [← ho]; exact hB.2.2.2.2.1) hR hd (kk p e s m args below meth c H locs lsr hB hl hlv (zv2 (show zvr Γ 1000002 from Or.inr (by decide)) hst) hW hS hA)
theorem z_sgetV {F : zF} {k n : Nat} {Γ : zC} {h : zM} {pc : Nat} {ls : List (Option zV)} {st : List zV} {i : Nat} (hi : i < 2) (hd : decode F.2.1.2.1 pc = .ok (.getfield 9, 3)) (ho : F.2.1.1.cls = "java/lang/String") (kk : zG F k n Γ h (pc + 3) ls (zR (2000000 + i) :: st)) : zG F k n Γ h pc ls (zR (1000000 + i) :: st) := by
  intro p e s m args below meth c H locs lsr hB hl hlv hst hW hS hA
  have kk' := kk p e s m args below meth c H locs lsr hB hl hlv (zv2 (show zvr Γ (2000000 + i) from Or.inr (by omega)) (zvt hst)) hW hS hA
  have e1 : zval Γ (zR (1000000 + i)) = .ref (zad Γ (1000000 + i)) := by show zrf Γ _ = _; unfold zrf; rw [if_neg (by omega)]
  have e2 : zval Γ (zR (2000000 + i)) = .ref (zad Γ (2000000 + i)) := by show zrf Γ _ = _; unfold zrf; rw [if_neg (by omega)]
  rw [List.map_cons, e2] at kk'
  rw [List.map_cons, e1]
  exact vk_getf hB.1 hB.2.1 (zSt_str hA.2 i hi).2.2.1 hS (by rw [← ho]; exact hB.2.2.2.2.1) (hB.2.2.2.2.2.1 _ zl_S9) (fun _ q => q) hd kk'
theorem z_sgetC {F : zF} {k n : Nat} {Γ : zC} {h : zM} {pc : Nat} {ls : List (Option zV)} {st : List zV} {i : Nat} (hi : i < 2) (hd : decode F.2.1.2.1 pc = .ok (.getfield 15, 3)) (ho : F.2.1.1.cls = "java/lang/String") (kk : zG F k n Γ h (pc + 3) ls (zI 0 :: st)) : zG F k n Γ h pc ls (zR (1000000 + i) :: st) := by
  intro p e s m args below meth c H locs lsr hB hl hlv hst hW hS hA
  have kk' := kk p e s m args below meth c H locs lsr hB hl hlv (zv2 (show zo32 0 by decide) (zvt hst)) hW hS hA
  have e1 : zval Γ (zR (1000000 + i)) = .ref (zad Γ (1000000 + i)) := by show zrf Γ _ = _; unfold zrf; rw [if_neg (by omega)]
  rw [List.map_cons, e1]
  exact vk_getf hB.1 hB.2.1 (zSt_str hA.2 i hi).2.1 hS (by rw [← ho]; exact hB.2.2.2.2.1) (hB.2.2.2.2.2.1 _ zl_S15) (fun _ q => q) hd kk'
theorem z_slen {F : zF} {k n : Nat} {Γ : zC} {h : zM} {pc : Nat} {ls : List (Option zV)} {st : List zV} {i : Nat} (hi : i < 2) (hd : decode F.2.1.2.1 pc = .ok (.arraylength, 1)) (kk : zG F k n Γ h (pc + 1) ls (zI (zsl i : Nat) :: st)) : zG F k n Γ h pc ls (zR (2000000 + i) :: st) := by
  intro p e s m args below meth c H locs lsr hB hl hlv hst hW hS hA
  have hr : zo32 ((zsl i : Nat) : Int) := by unfold zsl; split <;> decide
  have kk' := kk p e s m args below meth c H locs lsr hB hl hlv (zv2 hr (zvt hst)) hW hS hA
  have e1 : zval Γ (zR (2000000 + i)) = .ref (zad Γ (2000000 + i)) := by show zrf Γ _ = _; unfold zrf; rw [if_neg (by omega)]
  rw [List.map_cons, e1]
  obtain ⟨cell, h1, h2, h3, h4, h5, h6, h7⟩ := (zSt_str hA.2 i hi).2.2.2.kept hS.2.1
  exact W.alen hB.1 hB.2.1 h1 h2 h5 rfl rfl hd kk'
theorem z_sbald {F : zF} {k n : Nat} {Γ : zC} {h : zM} {pc : Nat} {ls : List (Option zV)} {st : List zV} {i : Nat} {j : Int} (hi : i < 2) (hd : decode F.2.1.2.1 pc = .ok (.baload, 1)) (h0 : 0 ≤ j) (h1 : j < (zsl i : Nat)) (kk : zG F k n Γ h (pc + 1) ls (zI ((zsby i).getD j.toNat 0) :: st)) : zG F k n Γ h pc ls (zI j :: zR (2000000 + i) :: st) := by
  intro p e s m args below meth c H locs lsr hB hl hlv hst hW hS hA
  have hr : zo32 ((zsby i).getD j.toNat 0) := by
    have key : ∀ i, i < 2 → ∀ a, a < zsl i → zo32 ((zsby i).getD a 0) := by decide
    exact key i hi _ (by omega)
  have kk' := kk p e s m args below meth c H locs lsr hB hl hlv (zv2 hr (zvt (zvt hst))) hW hS hA
  have e1 : zval Γ (zR (2000000 + i)) = .ref (zad Γ (2000000 + i)) := by show zrf Γ _ = _; unfold zrf; rw [if_neg (by omega)]
  rw [List.map_cons, List.map_cons, e1]
  obtain ⟨cell, g1, g2, g3, g4, g5, g6, g7⟩ := (zSt_str hA.2 i hi).2.2.2.kept hS.2.1
  have hin := zvpin (zvh hst) h0 h1
  exact W.bald hB.1 hB.2.1 g1 g2 g3 (fun q => by rcases q with q | q; exact hin (Or.inl q); exact hin (Or.inr (Nat.le_trans g4 q))) (by rw [z32cl (zvh hst)]; exact g6 j.toNat (by omega)) rfl rfl hd kk'
theorem z_csta {F : zF} {k n : Nat} {Γ : zC} {h : zM} {pc : Nat} {ls : List (Option zV)} {st : List zV} (hd : decode F.2.1.2.1 pc = .ok (.getstatic 38, 3)) (ho : F.2.1.1.cls = "java/lang/String") (kk : zG F k n Γ h (pc + 3) ls (zI 1 :: st)) : zG F k n Γ h pc ls st := by
  intro p e s m args below meth c H locs lsr hB hl hlv hst hW hS hA
  have kk' := kk p e s m args below meth c H locs lsr hB hl hlv (zv2 (show zo32 1 by decide) hst) hW hS hA
  obtain ⟨sL, aL, a1, a2, a3, a4, a5, a6⟩ := hA.2
  have hZ := zold_Z a3.alike a5 (va_Zof (A := fun q => sL.heap.size ≤ q) (a2 _ zsW_cs.1) (a2 _ zsW_cs.2) (va_eqt (zflat a1 zsF_cs)) (fun a ha => Nat.not_le_of_lt ha))
  exact va_gets hB.1 hB.2.1 hZ hS (by rw [← ho]; exact hB.2.2.2.2.1) (hB.2.2.2.2.2.1 _ zl_S38) (fun _ q => q) hd kk'
theorem z_fsta {F : zF} {k n : Nat} {Γ : zC} {h : zM} {pc : Nat} {ls : List (Option zV)} {st : List zV} (hd : decode F.2.1.2.1 pc = .ok (.getstatic 1053, 3)) (ho : F.2.1.1.cls = "java/lang/String") (kk : ∀ r, zG F k n Γ h (pc + 3) ls (zR r :: st)) : zG F k n Γ h pc ls st := by
  intro p e s m args below meth c H locs lsr hB hl hlv hst hW hS hA
  obtain ⟨sL, aL, a1, a2, a3, a4, a5, b1, b2, b3, b4, b5, b6⟩ := hA.2
  rcases b6 with b6 | b6
  · have kk' := kk 0 p e s m args below meth c H locs lsr hB hl hlv (zv2 (show zvr Γ 0 from Or.inl (Nat.zero_le _)) hst) hW hS hA
    have hZ := zold_Z a3.alike a5 (va_Zof (A := fun q => sL.heap.size ≤ q) (a2 _ zsW_fm.1) (a2 _ zsW_fm.2) b6 (fun a ha => Nat.not_le_of_lt ha))
    exact va_gets hB.1 hB.2.1 hZ hS (by rw [← ho]; exact hB.2.2.2.2.1) (hB.2.2.2.2.2.1 _ zl_S1053) (fun _ q => q) hd kk'
  · have kk' := kk 3000000 p e s m args below meth c H locs lsr hB hl hlv (zv2 (show zvr Γ 3000000 from Or.inr (by decide)) hst) hW hS hA
    have hZ := zold_Z a3.alike a5 (va_Zof (A := fun q => sL.heap.size ≤ q) (a2 _ zsW_fm.1) (a2 _ zsW_fm.2) b6 (fun a ha => Nat.not_le_of_lt ha))
    exact va_gets hB.1 hB.2.1 hZ hS (by rw [← ho]; exact hB.2.2.2.2.1) (hB.2.2.2.2.2.1 _ zl_S1053) (fun _ q => q) hd kk'
theorem z_aload0 {F : zF} {k n : Nat} {Γ : zC} {h : zM} {pc : Nat} {ls : List (Option zV)} {st : List zV} {r : Nat} {i : Nat} (hl : ls[i]? = some (some (zR r))) {j : Fin 4} (hd : decode F.2.1.2.1 pc = .ok (.aload_n j, 1)) (hj : (j : Nat) = i) (kk : zG F k n Γ h (pc + 1) ls (zR r :: st)) (hr : r ≠ 0) : zG F k n Γ h pc ls st := z_aload_n hd hj hl hr kk
theorem z_nret {l : Launch} {M : zMI} {d mc ms k n : Nat} {Γ0 Γ : zC} {Q : Option zV → zC → zM → Prop} {h : zM} {pc : Nat} {ls : List (Option zV)} {x : Int} {ty : FieldType} (hd : decode M.2.1 pc = .ok (.ireturn, 1)) (hr : M.2.2.2 = some ty) (hn9 : narrow ty (.int (Int32.ofInt x)) = .int (Int32.ofInt x)) (hk : k ≤ mc) (hn : n ≤ ms) (hx : zext Γ0 Γ) (hQ : Q (some (zI x)) Γ h) : zG (zFn l M d mc ms Γ0 Q) k n Γ h pc ls [zI x] := by
  intro p e s m args below meth c H locs lsr hB hl hlv hst hW hS hA
  refine W.widen hk hn ?_
  exact W.zret (v := Int32.ofInt x) hB.1 hB.2.1 (hB.2.2.1.trans hr) hn9 (fun t ht hv => ⟨⟨some (zI x), Γ, h, rfl, fun v q => by cases q; exact zvh hst, hQ, hx, zWd_t hW ht hv.alike⟩, hS.F ht⟩) hS.2.2 hd hB.2.2.2.2.2.2.1
theorem z_mmin {l : Launch} {M0 : zMI} {dd mc ms k n : Nat} {Γ0 Γ : zC} {Q0 : Option zV → zC → zM → Prop} {h : zM} {pc idx : Nat} {ls : List (Option zV)} {rest : List zV} {a b : Int} (hd : decode M0.2.1 pc = .ok (.invokestatic idx, 3)) (hL : zLnk M0.1.cls idx mJ9_min_7cf53 2) (hI : Cond.static yJ9_min_7cf53 ∈ zTB) (hcat : (rest.map zct).sum ≤ 8) (hdd : 1 ≤ dd) (hkn : k ≤ mc ∧ n ≤ ms)
    (kk : zG (zFn l M0 dd mc ms Γ0 Q0) k n Γ h (pc + 3) ls (zI (if b < a then b else a) :: rest)) : zG (zFn l M0 dd mc ms Γ0 Q0) k n Γ h pc ls (zI b :: zI a :: rest) := by
  intro p e s m args below meth c H locs lsr hB hl hlv hst hW hS hA
  have hr2 : zo32 b := hst (zI b) (by simp)
  have hr1 : zo32 a := hst (zI a) (by simp)
  have hr : zo32 (if b < a then b else a) := by split <;> assumption
  have kk' := kk p e s m args below meth c H locs lsr hB hl hlv (zv2 hr (zvt (zvt hst))) hW hS hA
  obtain ⟨hL1, hL2, hL3, -⟩ := hL
  have hts := hB.2.2.2.2.2.1
  have hlt := z32lt hr2 hr1
  refine va_mmin hB.1 hB.2.1 (hB.2.2.2.1.trans hl.1.symm) hB.2.2.2.2.1 (hts _ hL1) (hts _ hI) (hts _ hL2) (hts _ hL3) hdd (by rw [zct_s]; show _ ≤ 40 * dd; omega) hkn.1 hkn.2 hd ?_
  have e9 : (.int (if Int32.ofInt b < Int32.ofInt a then Int32.ofInt b else Int32.ofInt a) : Value) = zval Γ (zI (if b < a then b else a)) := by
    show Value.int _ = Value.int _
    congr 1
    by_cases q : b < a
    · rw [if_pos q, if_pos (hlt.mpr q)]
    · rw [if_neg q, if_neg (fun z => q (hlt.mp z))]
  rw [e9]
  exact kk'
theorem z_mmax {l : Launch} {M0 : zMI} {dd mc ms k n : Nat} {Γ0 Γ : zC} {Q0 : Option zV → zC → zM → Prop} {h : zM} {pc idx : Nat} {ls : List (Option zV)} {rest : List zV} {a b : Int} (hd : decode M0.2.1 pc = .ok (.invokestatic idx, 3)) (hL : zLnk M0.1.cls idx mJ9_max_7cf53 2) (hI : Cond.static yJ9_max_7cf53 ∈ zTB) (hcat : (rest.map zct).sum ≤ 8) (hdd : 1 ≤ dd) (hkn : k ≤ mc ∧ n ≤ ms)
    (kk : zG (zFn l M0 dd mc ms Γ0 Q0) k n Γ h (pc + 3) ls (zI (if a < b then b else a) :: rest)) : zG (zFn l M0 dd mc ms Γ0 Q0) k n Γ h pc ls (zI b :: zI a :: rest) := by
  intro p e s m args below meth c H locs lsr hB hl hlv hst hW hS hA
  have hr2 : zo32 b := hst (zI b) (by simp)
  have hr1 : zo32 a := hst (zI a) (by simp)
  have hr : zo32 (if a < b then b else a) := by split <;> assumption
  have kk' := kk p e s m args below meth c H locs lsr hB hl hlv (zv2 hr (zvt (zvt hst))) hW hS hA
  obtain ⟨hL1, hL2, hL3, -⟩ := hL
  have hts := hB.2.2.2.2.2.1
  have hlt := z32lt hr1 hr2
  refine va_mmax hB.1 hB.2.1 (hB.2.2.2.1.trans hl.1.symm) hB.2.2.2.2.1 (hts _ hL1) (hts _ hI) (hts _ hL2) (hts _ hL3) hdd (by rw [zct_s]; show _ ≤ 40 * dd; omega) hkn.1 hkn.2 hd ?_
  have e9 : (.int (if Int32.ofInt a < Int32.ofInt b then Int32.ofInt b else Int32.ofInt a) : Value) = zval Γ (zI (if a < b then b else a)) := by
    show Value.int _ = Value.int _
    congr 1
    by_cases q : a < b
    · rw [if_pos q, if_pos (hlt.mpr q)]
    · rw [if_neg q, if_neg (fun z => q (hlt.mp z))]
  rw [e9]
  exact kk'
theorem z_mminL {l : Launch} {M0 : zMI} {dd mc ms k n : Nat} {Γ0 Γ : zC} {Q0 : Option zV → zC → zM → Prop} {h : zM} {pc idx : Nat} {ls : List (Option zV)} {rest : List zV} {a b : Int} (hd : decode M0.2.1 pc = .ok (.invokestatic idx, 3)) (hL : zLnk M0.1.cls idx mJ9_min_f86c9 2) (hI : Cond.static yJ9_min_f86c9 ∈ zTB) (hcat : (rest.map zct).sum ≤ 8) (hdd : 1 ≤ dd) (hkn : k ≤ mc ∧ n ≤ ms)
    (kk : zG (zFn l M0 dd mc ms Γ0 Q0) k n Γ h (pc + 3) ls (zL (if b < a then b else a) :: rest)) : zG (zFn l M0 dd mc ms Γ0 Q0) k n Γ h pc ls (zL b :: zL a :: rest) := by
  intro p e s m args below meth c H locs lsr hB hl hlv hst hW hS hA
  have hr2 : zo64 b := hst (zL b) (by simp)
  have hr1 : zo64 a := hst (zL a) (by simp)
  have hr : zo64 (if b < a then b else a) := by split <;> assumption
  have kk' := kk p e s m args below meth c H locs lsr hB hl hlv (zv2 hr (zvt (zvt hst))) hW hS hA
  obtain ⟨hL1, hL2, hL3, -⟩ := hL
  have hts := hB.2.2.2.2.2.1
  have hlt := z64lt hr2 hr1
  refine va_mmin_long hB.1 hB.2.1 (hB.2.2.2.1.trans hl.1.symm) hB.2.2.2.2.1 (hts _ hL1) (hts _ hI) (hts _ hL2) (hts _ hL3) hdd (by rw [zct_s]; show _ ≤ 40 * dd; omega) hkn.1 hkn.2 hd ?_
  have e9 : (.long (if Int64.ofInt b < Int64.ofInt a then Int64.ofInt b else Int64.ofInt a) : Value) = zval Γ (zL (if b < a then b else a)) := by
    show Value.long _ = Value.long _
    congr 1
    by_cases q : b < a
    · rw [if_pos q, if_pos (hlt.mpr q)]
    · rw [if_neg q, if_neg (fun z => q (hlt.mp z))]
  rw [e9]
  exact kk'
theorem z_mmaxL {l : Launch} {M0 : zMI} {dd mc ms k n : Nat} {Γ0 Γ : zC} {Q0 : Option zV → zC → zM → Prop} {h : zM} {pc idx : Nat} {ls : List (Option zV)} {rest : List zV} {a b : Int} (hd : decode M0.2.1 pc = .ok (.invokestatic idx, 3)) (hL : zLnk M0.1.cls idx mJ9_max_f86c9 2) (hI : Cond.static yJ9_max_f86c9 ∈ zTB) (hcat : (rest.map zct).sum ≤ 8) (hdd : 1 ≤ dd) (hkn : k ≤ mc ∧ n ≤ ms)
    (kk : zG (zFn l M0 dd mc ms Γ0 Q0) k n Γ h (pc + 3) ls (zL (if b < a then a else b) :: rest)) : zG (zFn l M0 dd mc ms Γ0 Q0) k n Γ h pc ls (zL b :: zL a :: rest) := by
  intro p e s m args below meth c H locs lsr hB hl hlv hst hW hS hA
  have hr2 : zo64 b := hst (zL b) (by simp)
  have hr1 : zo64 a := hst (zL a) (by simp)
  have hr : zo64 (if b < a then a else b) := by split <;> assumption
  have kk' := kk p e s m args below meth c H locs lsr hB hl hlv (zv2 hr (zvt (zvt hst))) hW hS hA
  obtain ⟨hL1, hL2, hL3, -⟩ := hL
  have hts := hB.2.2.2.2.2.1
  have hlt := z64lt hr2 hr1
  refine va_mmax_long hB.1 hB.2.1 (hB.2.2.2.1.trans hl.1.symm) hB.2.2.2.2.1 (hts _ hL1) (hts _ hI) (hts _ hL2) (hts _ hL3) hdd (by rw [zct_s]; show _ ≤ 40 * dd; omega) hkn.1 hkn.2 hd ?_
  have e9 : (.long (if Int64.ofInt b < Int64.ofInt a then Int64.ofInt a else Int64.ofInt b) : Value) = zval Γ (zL (if b < a then a else b)) := by
    show Value.long _ = Value.long _
    congr 1
    by_cases q : b < a
    · rw [if_pos q, if_pos (hlt.mpr q)]
    · rw [if_neg q, if_neg (fun z => q (hlt.mp z))]
  rw [e9]
  exact kk'
set_option maxRecDepth 4000 in
theorem J0_coder_ct {l : Launch} {Γ : zC} {h : zM} {Q : Option zV → zC → zM → Prop} {i : Nat} (hi : i < 2) (hQ : Q (some (zI 0)) Γ h) : zCT l mJ0_coder_7d493 0 0 0 Γ [zR (1000000 + i)] h Q := by
  refine zCT_of (by decide) (Nat.le_of_ble_eq_true rfl) (ls := [some (zR (1000000 + i))]) rfl ?_
  refine z_csta dJ0_coder_7d493_0 rfl ?_
  refine z_if_eq (t := 13) dJ0_coder_7d493_3 (by rfl) (fun hx => absurd hx (by decide)) (fun _ => ?_)
  refine z_al0 dJ0_coder_7d493_6 (by first | decide | omega | assumption) ?_
  refine z_sgetC hi dJ0_coder_7d493_7 rfl ?_
  refine z_goto (t := 14) dJ0_coder_7d493_10 (by rfl) ?_
  refine z_nret dJ0_coder_7d493_14 rfl (by rfl) (Nat.le_refl _) (Nat.le_refl _) (zext_rf _) ?_
  exact hQ
theorem zjv {l : Launch} {M0 M : zMI} {d dd mc ms k n : Nat} {Γ0 Γ : zC} {Q0 : Option zV → zC → zM → Prop} {h : zM} {pc idx : Nat} {ls : List (Option zV)} {rest : List zV} {args : List zV} {na i : Nat} (hi : i < 2) (hd : decode M0.2.1 pc = .ok (.invokevirtual idx, 3)) (hL : zLnk M0.1.cls idx M na) (hI : Cond.instanceMethod M.1 ∈ zTB) (hsl : Cond.selects M.1.cls M.1 M.1 ∈ zTB) (hcn : M.1.cls = "java/lang/String") (hna : args.length = na) (hcat : (rest.map zct).sum ≤ 8) (hm : M.2.2.1 ≤ 21) (hdd : d < dd) (hkn : k ≤ mc ∧ n ≤ ms)
    (hC : zCT l M d 0 0 Γ (zR (1000000 + i) :: args) h (fun r' Γ' h' => zext Γ Γ' → zG (zFn l M0 dd mc ms Γ0 Q0) k n Γ' h' (pc + 3) ls (zres r' rest))) : zG (zFn l M0 dd mc ms Γ0 Q0) k n Γ h pc ls (args.reverse ++ zR (1000000 + i) :: rest) := by
  refine z_callg (F := zFn l M0 dd mc ms Γ0 Q0) (mc := 0) (ms := 0) (args := zR (1000000 + i) :: args) (rest := rest) ?_ (fun hst => ⟨zv2 (hst _ (by simp)) fun v hv => hst v (by simp [hv]), fun v hv => hst v (by simp [hv])⟩) hC (fun r' Γ' h' hx hq => hq hx)
  intro p e s m args9 below meth c H locs lsr hB hl hW hU9 hM T hT X
  obtain ⟨hL1, hL2, hL3, hL4, hL5, hL6⟩ := hL
  have hts := hB.2.2.2.2.2.1
  have er : zval Γ (zR (1000000 + i)) = .ref (zad Γ (1000000 + i)) := by show zrf Γ _ = _; unfold zrf; rw [if_neg (by omega)]
  obtain ⟨cell, c1, c2, c3, -⟩ := (zSt_str (hU9 T hT X.warmed) i hi).1
  rw [X.warmed.alike.findClass] at c3
  have hcw : CallW (zrm dd mc ms) s args9 M0.1.cls M.1.cls idx M.1 M.2.1 M.2.2.1 M.2.2.2 (zwm M) (zrm d 0 0) 0 0 na :=
    ⟨callB_of na hts (zGI hL3) rfl rfl rfl (hts _ hL2) (hts _ hL1) ⟨hL4, hL5, hL6⟩ ⟨by show d + 1 ≤ dd; omega, by show 8 + (M.2.2.1 + 11) + 40 * d ≤ 40 * dd; omega⟩, hts _ hI, hts _ hsl⟩
  have hrun := va_runV (p := p) (l := l) (e := e) (R := zrm dd mc ms) (s := s) (m := m) (args := args9) (below := below) (meth := meth) (c := c) (H := H) (locs := locs) (cells := k) (slots := n) (As := args.map (zval Γ)) (rest := rest.map (zval Γ)) (b := zad Γ (1000000 + i))
    ⟨hB.1, hB.2.1, hB.2.2.2.1, hB.2.2.2.2.1, hts⟩ hM hcw ⟨zPc_blind _ _ _ _, ⟨cell, by rw [← hT]; exact c1, c2, by rw [hcn]; exact c3⟩, fun U hU hw => by
      have h9 := zPc_at (args := zR (1000000 + i) :: args) hW hU9 U hU hw
      rw [List.map_cons, er] at h9
      exact h9⟩ (g := F0 m pc lsr ((args.reverse ++ zR (1000000 + i) :: rest).map (zval Γ))) rfl (by rw [List.length_map, hna]) hl.1 (by rw [List.map_append, List.map_cons, er, List.map_reverse]) (lv_room (by rw [zct_s]; exact hcat)) hd ⟨by show k + 0 ≤ mc; omega, by show n + 0 ≤ ms; omega⟩ T hT X
  rw [List.map_cons, er]
  exact hrun
set_option maxRecDepth 4000 in
theorem J0_length_ct {l : Launch} {Γ : zC} {h : zM} {Q : Option zV → zC → zM → Prop} {i : Nat} (hi : i < 2) (hQ : Q (some (zI (zsl i : Nat))) Γ h) : zCT l mJ0_length_8abf5 1 0 0 Γ [zR (1000000 + i)] h Q := by
  refine zCT_of (by decide) (Nat.le_of_ble_eq_true rfl) (ls := [some (zR (1000000 + i))]) rfl ?_
  refine z_al0 dJ0_length_8abf5_0 (by first | decide | omega | assumption) ?_
  refine z_sgetV hi dJ0_length_8abf5_1 rfl ?_
  refine z_slen hi dJ0_length_8abf5_4 ?_
  refine z_al0 dJ0_length_8abf5_5 (by first | decide | omega | assumption) ?_
  refine zjv (args := []) hi dJ0_length_8abf5_6 zkJ0_335 ziJ0_coder_7d493 zsJ0_coder_7d493 rfl rfl (Nat.le_of_ble_eq_true rfl) (by decide) (by first | decide | omega) ⟨Nat.le_refl _, Nat.le_refl _⟩ (J0_coder_ct hi (fun _ => ?_))
  try simp only [zup_ap, zup_row, ne_eq, not_false_eq_true, zres, Int.toNat_natCast, reduceIte, Nat.reduceEqDiff, Nat.reduceAdd, and_self, and_true, true_and, and_false, false_and]
  refine z_ishr dJ0_length_8abf5_9 ?_
  refine z_iret dJ0_length_8abf5_10 rfl (Nat.le_refl _) (Nat.le_refl _) (zext_rf _) (fun hrr => ?_)
  refine zQi hQ ?_ rfl
  have key : ∀ i, i < 2 → zf_ishr (zsl i : Nat) 0 = (zsl i : Nat) := by decide +kernel
  exact key i hi
set_option maxRecDepth 4000 in
theorem J0_isLatin1_ct {l : Launch} {Γ : zC} {h : zM} {Q : Option zV → zC → zM → Prop} {i : Nat} (hi : i < 2) (hQ : Q (some (zI 1)) Γ h) : zCT l mJ0_isLatin1_aae02 0 0 0 Γ [zR (1000000 + i)] h Q := by
  refine zCT_of (by decide) (Nat.le_of_ble_eq_true rfl) (ls := [some (zR (1000000 + i))]) rfl ?_
  refine z_csta dJ0_isLatin1_aae02_0 rfl ?_
  refine z_if_eq (t := 17) dJ0_isLatin1_aae02_3 (by rfl) (fun hx => absurd hx (by decide)) (fun _ => ?_)
  refine z_al0 dJ0_isLatin1_aae02_6 (by first | decide | omega | assumption) ?_
  refine z_sgetC hi dJ0_isLatin1_aae02_7 rfl ?_
  refine z_if_ne (t := 17) dJ0_isLatin1_aae02_10 (by rfl) (fun hx => absurd hx (by decide)) (fun _ => ?_)
  refine z_iconst dJ0_isLatin1_aae02_13 (by decide) ?_
  refine z_goto (t := 18) dJ0_isLatin1_aae02_14 (by rfl) ?_
  refine z_zret dJ0_isLatin1_aae02_18 rfl (Nat.le_refl _) (Nat.le_refl _) (zext_rf _) (by first | exact Or.inl rfl | exact Or.inr rfl | omega) ?_
  exact hQ
set_option maxRecDepth 4000 in
theorem J3_checkIndex_ct {l : Launch} {Γ : zC} {h : zM} {Q : Option zV → zC → zM → Prop} {a b : Int} {r : Nat} (h0 : 0 ≤ a) (h1 : a < b) (hQ : Q (some (zI a)) Γ h) : zCT l mJ3_checkIndex_8e157 0 0 0 Γ [zI a, zI b, zR r] h Q := by
  refine zCT_of (by decide) (Nat.le_of_ble_eq_true rfl) (ls := [some (zI a), some (zI b), some (zR r)]) rfl ?_
  refine z_il0 dJ3_checkIndex_8e157_0 ?_
  refine z_if_lt (t := 9) dJ3_checkIndex_8e157_1 (by rfl) (fun ht1 => ?_) (fun hf1 => ?_)
  · exfalso; omega --stop
  · refine z_il0 dJ3_checkIndex_8e157_4 ?_
    refine z_il1 dJ3_checkIndex_8e157_5 ?_
    refine z_icmp_lt (t := 16) dJ3_checkIndex_8e157_6 (by rfl) (fun ht6 => ?_) (fun hf6 => ?_)
    · refine z_il0 dJ3_checkIndex_8e157_16 ?_
      refine z_iret dJ3_checkIndex_8e157_17 rfl (Nat.le_refl _) (Nat.le_refl _) (zext_rf _) (fun hrr => ?_)
      exact hQ
    · exfalso; omega --stop
set_option maxRecDepth 4000 in
theorem J0_checkIndex_ct {l : Launch} {Γ : zC} {h : zM} {Q : Option zV → zC → zM → Prop} {a b : Int} (h0 : 0 ≤ a) (h1 : a < b) (hQ : Q none Γ h) : zCT l mJ0_checkIndex_df160 1 0 0 Γ [zI a, zI b] h Q := by
  refine zCT_of (by decide) (Nat.le_of_ble_eq_true rfl) (ls := [some (zI a), some (zI b)]) rfl ?_
  refine z_il0 dJ0_checkIndex_df160_0 ?_
  refine z_il1 dJ0_checkIndex_df160_1 ?_
  refine z_fsta dJ0_checkIndex_df160_2 rfl (fun r => ?_)
  refine zcs3 dJ0_checkIndex_df160_5 zkJ0_1059 ztJ3_checkIndex_8e157 (Nat.le_of_ble_eq_true rfl) (by decide) (by first | decide | omega) ⟨Nat.le_refl _, Nat.le_refl _⟩ (J3_checkIndex_ct h0 h1 (fun _ => ?_))
  try simp only [zup_ap, zup_row, ne_eq, not_false_eq_true, zres, Int.toNat_natCast, reduceIte, Nat.reduceEqDiff, Nat.reduceAdd, and_self, and_true, true_and, and_false, false_and]
  refine z_pop dJ0_checkIndex_df160_8 rfl ?_
  refine z_ret dJ0_checkIndex_df160_9 rfl (Nat.le_refl _) (Nat.le_refl _) (zext_rf _) ?_
  exact hQ
def zf_i2c (a : Int) : Int := ((Int32.ofInt a).toUInt32 % 65536).toInt32.toInt
theorem z_i2c {F : zF} {k n : Nat} {Γ : zC} {h : zM} {pc : Nat} {ls : List (Option zV)} {st : List zV} {a : Int} (hd : decode F.2.1.2.1 pc = .ok (.i2c, 1)) (kk : zG F k n Γ h (pc + 1) ls (zI (zf_i2c a) :: st)) : zG F k n Γ h pc ls (zI a :: st) :=
  zstk (st := zI a :: st) (st' := zI (zf_i2c a) :: st) (pc' := pc + 1) (fun hv => zv2 (z32r _) (zvt hv)) (fun p e s m args below meth c H locs lsr hB hv hl hm w => lv_i2c hB.1 hB.2.1 hd (z32o _).symm w) kk
theorem zchr : ∀ i, i < 2 → ∀ a, a < zsl i → narrow .char (.int (Int32.ofInt (zf_i2c (zf_iand ((zsby i).getD a 0) 255)))) = .int (Int32.ofInt (zf_i2c (zf_iand ((zsby i).getD a 0) 255))) := by
  intro i hi a ha
  rcases (show i = 0 ∨ i = 1 by omega) with rfl | rfl
  · rcases (show a = 0 by simp [zsl] at ha; omega) with rfl; rfl
  · have : a < 6 := by simpa [zsl] using ha
    rcases (show a = 0 ∨ a = 1 ∨ a = 2 ∨ a = 3 ∨ a = 4 ∨ a = 5 by omega) with rfl | rfl | rfl | rfl | rfl | rfl <;> rfl
theorem zchr2 : ∀ i, i < 2 → ∀ a, a < zsl i → zf_i2c (zf_iand ((zsby i).getD a 0) 255) = (zsby i).getD a 0 := by decide +kernel
set_option maxRecDepth 4000 in
theorem J1_charAt_ct {l : Launch} {Γ : zC} {h : zM} {Q : Option zV → zC → zM → Prop} {i : Nat} (hi : i < 2) {a : Int} (h0 : 0 ≤ a) (h1 : a < (zsl i : Nat)) (hQ : Q (some (zI ((zsby i).getD a.toNat 0))) Γ h) : zCT l mJ1_charAt_3b067 2 0 0 Γ [zR (2000000 + i), zI a] h Q := by
  refine zCT_of (by decide) (Nat.le_of_ble_eq_true rfl) (ls := [some (zR (2000000 + i)), some (zI a)]) rfl ?_
  refine z_il1 dJ1_charAt_3b067_0 ?_
  refine z_al0 dJ1_charAt_3b067_1 (by omega) ?_
  refine z_slen hi dJ1_charAt_3b067_2 ?_
  refine zcs2 dJ1_charAt_3b067_3 zkJ1_9 ztJ0_checkIndex_df160 (Nat.le_of_ble_eq_true rfl) (by decide) (by first | decide | omega) ⟨Nat.le_refl _, Nat.le_refl _⟩ (J0_checkIndex_ct h0 h1 (fun _ => ?_))
  try simp only [zup_ap, zup_row, ne_eq, not_false_eq_true, zres, Int.toNat_natCast, reduceIte, Nat.reduceEqDiff, Nat.reduceAdd, and_self, and_true, true_and, and_false, false_and]
  refine z_al0 dJ1_charAt_3b067_6 (by omega) ?_
  refine z_il1 dJ1_charAt_3b067_7 ?_
  refine z_sbald hi dJ1_charAt_3b067_8 h0 h1 ?_
  refine z_sipush (x := 255) dJ1_charAt_3b067_9 (by rfl) (by decide) ?_
  refine z_iand dJ1_charAt_3b067_12 ?_
  refine z_i2c dJ1_charAt_3b067_13 ?_
  refine z_nret dJ1_charAt_3b067_14 rfl (by exact zchr i hi _ (by omega)) (Nat.le_refl _) (Nat.le_refl _) (zext_rf _) ?_
  exact zQi hQ (zchr2 i hi _ (by omega)) rfl
theorem zchr3 : ∀ i, i < 2 → ∀ a, a < zsl i → narrow .char (.int (Int32.ofInt ((zsby i).getD a 0))) = .int (Int32.ofInt ((zsby i).getD a 0)) := fun i hi a ha => by
  have := zchr i hi a ha
  rw [zchr2 i hi a ha] at this
  exact this
set_option maxRecDepth 4000 in
theorem J0_charAt_ct {l : Launch} {Γ : zC} {h : zM} {Q : Option zV → zC → zM → Prop} {i : Nat} (hi : i < 2) {a : Int} (h0 : 0 ≤ a) (h1 : a < (zsl i : Nat)) (hQ : Q (some (zI ((zsby i).getD a.toNat 0))) Γ h) : zCT l mJ0_charAt_5068e 3 0 0 Γ [zR (1000000 + i), zI a] h Q := by
  refine zCT_of (by decide) (Nat.le_of_ble_eq_true rfl) (ls := [some (zR (1000000 + i)), some (zI a)]) rfl ?_
  refine z_al0 dJ0_charAt_5068e_0 (by omega) ?_
  refine zjv (args := []) hi dJ0_charAt_5068e_1 zkJ0_492 ziJ0_isLatin1_aae02 zsJ0_isLatin1_aae02 rfl rfl (Nat.le_of_ble_eq_true rfl) (by decide) (by first | decide | omega) ⟨Nat.le_refl _, Nat.le_refl _⟩ (J0_isLatin1_ct hi (fun _ => ?_))
  try simp only [zup_ap, zup_row, ne_eq, not_false_eq_true, zres, Int.toNat_natCast, reduceIte, Nat.reduceEqDiff, Nat.reduceAdd, and_self, and_true, true_and, and_false, false_and]
  refine z_if_eq (t := 16) dJ0_charAt_5068e_4 (by rfl) (fun hx => absurd hx (by decide)) (fun _ => ?_)
  refine z_al0 dJ0_charAt_5068e_7 (by omega) ?_
  refine z_sgetV hi dJ0_charAt_5068e_8 rfl ?_
  refine z_il1 dJ0_charAt_5068e_11 ?_
  refine zcs2 dJ0_charAt_5068e_12 zkJ0_495 ztJ1_charAt_3b067 (Nat.le_of_ble_eq_true rfl) (by decide) (by first | decide | omega) ⟨Nat.le_refl _, Nat.le_refl _⟩ (J1_charAt_ct hi h0 h1 (fun _ => ?_))
  try simp only [zup_ap, zup_row, ne_eq, not_false_eq_true, zres, Int.toNat_natCast, reduceIte, Nat.reduceEqDiff, Nat.reduceAdd, and_self, and_true, true_and, and_false, false_and]
  refine z_nret dJ0_charAt_5068e_15 rfl (by exact zchr3 i hi _ (by omega)) (Nat.le_refl _) (Nat.le_refl _) (zext_rf _) ?_
  exact hQ
theorem zslen : ∀ i, i < 2 → (zsby i).length = zsl i := by decide
theorem zdrop_mem (l : List Int) (k : Nat) (h : k < l.length) : l.getD k 0 ∈ l.drop k := by
  rw [List.getD_eq_getElem?_getD, List.getElem?_eq_getElem h, Option.getD_some, List.drop_eq_getElem_cons h]
  exact List.mem_cons_self
theorem zdrop_ne {l : List Int} {k : Nat} {x : Int} (h : k < l.length) (hx : ¬ l.getD k 0 = x) : x ∈ l.drop (k + 1) ↔ x ∈ l.drop k := by
  rw [List.getD_eq_getElem?_getD, List.getElem?_eq_getElem h, Option.getD_some] at hx
  rw [List.drop_eq_getElem_cons h, List.mem_cons]
  exact ⟨Or.inr, fun q => q.elim (fun e => absurd e.symm hx) id⟩
set_option maxRecDepth 4000 in
theorem X9_isAmong_l {l : Launch} {Γ : zC} {h : zM} {Q : Option zV → zC → zM → Prop} {i : Nat} (hi : i < 2) {x : Int} : ∀ (m k : Nat), zsl i - k < m → k ≤ zsl i → Q (some (zI (if x ∈ (zsby i).drop k then 1 else 0))) Γ h → zG (zFn l mX9_isAmong 4 0 0 Γ Q) 0 0 Γ h 2 [some (zR (1000000 + i)), some (zI x), some (zI (k : Nat))] [] := by
  intro m
  induction m with
  | zero => intros; omega
  | succ m ih =>
    intro k hm hk hQ
    have hsl : zsl i ≤ 6 := by unfold zsl; split <;> omega
    refine z_il2 dX9_isAmong_2 ?_
    refine z_al0 dX9_isAmong_3 (by omega) ?_
    refine zjv (args := []) hi dX9_isAmong_4 zkX9_131 ziJ0_length_8abf5 zsJ0_length_8abf5 rfl rfl (Nat.le_of_ble_eq_true rfl) (by decide) (by first | decide | omega) ⟨Nat.le_refl _, Nat.le_refl _⟩ (J0_length_ct hi (fun _ => ?_))
    try simp only [zup_ap, zup_row, ne_eq, not_false_eq_true, zres, Int.toNat_natCast, reduceIte, Nat.reduceEqDiff, Nat.reduceAdd, and_self, and_true, true_and, and_false, false_and]
    refine z_icmp_ge (t := 27) dX9_isAmong_7 (by rfl) (fun ht7 => ?_) (fun hf7 => ?_)
    · refine z_iconst dX9_isAmong_27 (by decide) ?_
      refine z_zret dX9_isAmong_28 rfl (Nat.le_refl _) (Nat.le_refl _) (zext_rf _) (by first | exact Or.inl rfl | exact Or.inr rfl | omega) ?_
      refine zQi hQ ?_ rfl
      rw [if_neg]
      rw [List.drop_of_length_le (by rw [zslen i hi]; omega)]
      exact List.not_mem_nil
    · refine z_al0 dX9_isAmong_10 (by omega) ?_
      refine z_il2 dX9_isAmong_11 ?_
      refine zjv (args := [_]) hi dX9_isAmong_12 zkX9_137 ziJ0_charAt_5068e zsJ0_charAt_5068e rfl rfl (Nat.le_of_ble_eq_true rfl) (by decide) (by first | decide | omega) ⟨Nat.le_refl _, Nat.le_refl _⟩ (J0_charAt_ct hi (by omega) (by omega) (fun _ => ?_))
      try simp only [zup_ap, zup_row, ne_eq, not_false_eq_true, zres, Int.toNat_natCast, reduceIte, Nat.reduceEqDiff, Nat.reduceAdd, and_self, and_true, true_and, and_false, false_and]
      refine z_il1 dX9_isAmong_15 ?_
      refine z_icmp_ne (t := 21) dX9_isAmong_16 (by rfl) (fun ht16 => ?_) (fun hf16 => ?_)
      · refine z_ii2 dX9_isAmong_21 (by omega) (Nat.le_of_ble_eq_true rfl) rfl ?_
        refine z_goto (t := 2) dX9_isAmong_24 (by rfl) ?_
        have e9 := zdrop_ne (by rw [zslen i hi]; omega) ht16
        simp only [← e9] at hQ
        exact ih (k + 1) (by omega) (by omega) hQ
      · refine z_iconst dX9_isAmong_19 (by decide) ?_
        refine z_zret dX9_isAmong_20 rfl (Nat.le_refl _) (Nat.le_refl _) (zext_rf _) (by first | exact Or.inl rfl | exact Or.inr rfl | omega) ?_
        refine zQi hQ ?_ rfl
        rw [if_pos]
        rw [← hf16]
        exact zdrop_mem _ _ (by rw [zslen i hi]; omega)
set_option maxRecDepth 4000 in
theorem X9_isAmong_ct {l : Launch} {Γ : zC} {h : zM} {Q : Option zV → zC → zM → Prop} {i : Nat} (hi : i < 2) {x : Int} (hQ : Q (some (zI (if x ∈ zsby i then 1 else 0))) Γ h) : zCT l mX9_isAmong 4 0 0 Γ [zR (1000000 + i), zI x] h Q := by
  refine zCT_of (by decide) (Nat.le_of_ble_eq_true rfl) (ls := [some (zR (1000000 + i)), some (zI x), none]) rfl ?_
  refine z_iconst dX9_isAmong_0 (by decide) ?_
  refine z_is2 dX9_isAmong_1 (Nat.le_of_ble_eq_true rfl) rfl ?_
  exact X9_isAmong_l hi (zsl i + 1) 0 (by omega) (by omega) hQ
