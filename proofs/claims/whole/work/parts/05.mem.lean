/-! fields and rows of the small machine -/
def zT : Nat → u_T := fun c => match c with
  | 0 => TX0 | 1 => TX1 | 2 => TX2 | 3 => TX3 | 4 => TX4 | 5 => TX5 | 6 => TX6 | 7 => TX7 | 8 => TX8 | _ => TX9
def zCn : Nat → String := fun c => match c with
  | 0 => RX0 | 1 => RX1 | 2 => RX2 | 3 => RX3 | 4 => RX4 | 5 => RX5 | 6 => RX6 | 7 => RX7 | 8 => RX8 | _ => RX9
theorem zdec10 {P : Nat → Prop} (h0 : P 0) (h1 : P 1) (h2 : P 2) (h3 : P 3) (h4 : P 4) (h5 : P 5) (h6 : P 6) (h7 : P 7) (h8 : P 8) (h9 : P 9) : ∀ c, c < 10 → P c
  | 0, _ => h0 | 1, _ => h1 | 2, _ => h2 | 3, _ => h3 | 4, _ => h4 | 5, _ => h5 | 6, _ => h6 | 7, _ => h7 | 8, _ => h8 | 9, _ => h9
theorem zcl_at : ∀ c, c < 10 → vwCl[c]? = some (zCn c, zT c, zN c) := zdec10 rfl rfl rfl rfl rfl rfl rfl rfl rfl rfl
theorem zty_ok : ∀ c, c < 10 → ∀ k, k < zN c → parseFieldDescriptor (zT c k).2.2.1 = some (zTy c k) := zdec10 tyX0_ok tyX1_ok tyX2_ok tyX3_ok tyX4_ok tyX5_ok tyX6_ok tyX7_ok tyX8_ok tyX9_ok
theorem znm_ok : ∀ c, c < 10 → ∀ a, a < zN c → ∀ b, b < zN c → a ≠ b → (zT c a).2.1 ≠ (zT c b).2.1 := zdec10 nmX0 nmX1 nmX2 nmX3 nmX4 nmX5 nmX6 nmX7 nmX8 nmX9
theorem ztb_of {w : Cond} (h : w ∈ lw_tbl) (hg : goodWord w = true) : w ∈ zTB := List.mem_filter.mpr ⟨h, hg⟩
theorem ztb (i : Nat) {w : Cond} (h : lw_tbl[i]? = some w) (hg : goodWord w = true) : w ∈ zTB := ztb_of (List.mem_of_getElem? h) hg
theorem zws_ok : ∀ c, c < 10 → ∀ w ∈ u_ws (zCn c) (zT c) (zN c), w ∈ zTB := by
  have key : ∀ c, c < 10 → ∀ w ∈ u_ws (zCn c) (zT c) (zN c), w ∈ lw_tbl ∧ goodWord w = true := by decide +kernel
  exact fun c hc w hw => ztb_of (key c hc w hw).1 (key c hc w hw).2
def zFld (own : String) (idx ci j : Nat) : Prop := ci < 10 ∧ j < zN ci ∧ Cond.fieldLink own idx (zT ci j).1 (zT ci j).2.1 (zT ci j).2.2.1 ∈ zTB
theorem zcell_f {Γ : zC} {r ci j : Nat} {f : Nat → Int} (hj : j < zN ci) : ((List.range (zN ci)).map fun j => zFV Γ (zTc (zTy ci j)) (f j) (zsr Γ r j))[j]? = some (zFV Γ (zTc (zTy ci j)) (f j) (zsr Γ r j)) := by
  rw [List.getElem?_map, List.getElem?_range hj]; rfl
theorem zget {F : zF} {k n : Nat} {Γ : zC} {h : zM} {pc : Nat} {ls : List (Option zV)} {st : List zV} {idx ci j r : Nat} {v : zV} (hf : zFld F.2.1.1.cls idx ci j) (hd : decode F.2.1.2.1 pc = .ok (.getfield idx, 3)) (hk : zkd Γ r = some (.inl ci))
    (hv : zFV Γ (zTc (zTy ci j)) (h r j) (zsr Γ r j) = zval Γ v) (ho : zom Γ h → zov Γ v) (kk : zG F k n Γ h (pc + 3) ls (v :: st)) : zG F k n Γ h pc ls (zR r :: st) := by
  intro p e s m args below meth c H locs lsr hB hl hlv hst hW hS hA
  have kk' := kk p e s m args below meth c H locs lsr hB hl hlv (zv2 (ho hW.1) (zvt hst)) hW hS hA
  rw [List.map_cons, zref hk]
  obtain ⟨hx, hb, -, -, hown, hts, -⟩ := hB
  exact va_get (D := zD Γ) (ci := ci) (C := zCn ci) (T := zT ci) (N := zN ci) hx hb hts (zws_ok ci hf.1) hown hW.2.2.1 hW.2.1 (r - 1) (zws_at h hk) (zcl_at ci hf.1) j hf.2.1 (hts _ hf.2.2) (fun _ q => q) (by rw [zcell_f hf.2.1, hv]) hd kk'
theorem z_getI {F : zF} {k n : Nat} {Γ : zC} {h : zM} {pc : Nat} {ls : List (Option zV)} {st : List zV} {idx ci j r : Nat} (hf : zFld F.2.1.1.cls idx ci j) (hd : decode F.2.1.2.1 pc = .ok (.getfield idx, 3)) (hk : zkd Γ r = some (.inl ci)) (hc : zTc (zTy ci j) = 0)
    (kk : zG F k n Γ h (pc + 3) ls (zI (h r j) :: st)) : zG F k n Γ h pc ls (zR r :: st) :=
  zget hf hd hk (by rw [hc]; rfl) (fun hm => by have h9 := zom_f hm hk j hf.2.1; rw [hc] at h9; exact h9) kk
theorem z_getZ {F : zF} {k n : Nat} {Γ : zC} {h : zM} {pc : Nat} {ls : List (Option zV)} {st : List zV} {idx ci j r : Nat} (hf : zFld F.2.1.1.cls idx ci j) (hd : decode F.2.1.2.1 pc = .ok (.getfield idx, 3)) (hk : zkd Γ r = some (.inl ci)) (hc : zTc (zTy ci j) = 2)
    (kk : zG F k n Γ h (pc + 3) ls (zI (h r j) :: st)) : zG F k n Γ h pc ls (zR r :: st) :=
  zget hf hd hk (by rw [hc]; rfl) (fun hm => by have h9 := zom_f hm hk j hf.2.1; rw [hc] at h9; rcases h9 with h9 | h9 <;> (rw [h9]; show zo32 _; decide)) kk
theorem z_getJ {F : zF} {k n : Nat} {Γ : zC} {h : zM} {pc : Nat} {ls : List (Option zV)} {st : List zV} {idx ci j r : Nat} (hf : zFld F.2.1.1.cls idx ci j) (hd : decode F.2.1.2.1 pc = .ok (.getfield idx, 3)) (hk : zkd Γ r = some (.inl ci)) (hc : zTc (zTy ci j) = 3)
    (kk : zG F k n Γ h (pc + 3) ls (zL (h r j) :: st)) : zG F k n Γ h pc ls (zR r :: st) :=
  zget hf hd hk (by rw [hc]; rfl) (fun hm => by have h9 := zom_f hm hk j hf.2.1; rw [hc] at h9; exact h9) kk
/-- a field that holds a known object for good -/
theorem z_getR {F : zF} {k n : Nat} {Γ : zC} {h : zM} {pc : Nat} {ls : List (Option zV)} {st : List zV} {idx ci j r q : Nat} (hf : zFld F.2.1.1.cls idx ci j) (hd : decode F.2.1.2.1 pc = .ok (.getfield idx, 3)) (hk : zkd Γ r = some (.inl ci)) (hc : zTc (zTy ci j) = 9) (hs : zsr Γ r j = some q) (hq : zvr Γ q)
    (kk : zG F k n Γ h (pc + 3) ls (zR q :: st)) : zG F k n Γ h pc ls (zR r :: st) :=
  zget (v := zR q) hf hd hk (by rw [hc, hs]; rfl) (fun _ => hq) kk
theorem z_getQ {F : zF} {k n : Nat} {Γ : zC} {h : zM} {pc : Nat} {ls : List (Option zV)} {st : List zV} {idx ci j r : Nat} (hf : zFld F.2.1.1.cls idx ci j) (hd : decode F.2.1.2.1 pc = .ok (.getfield idx, 3)) (hk : zkd Γ r = some (.inl ci)) (hc : zTc (zTy ci j) = 9) (hs : zsr Γ r j = none)
    (kk : zG F k n Γ h (pc + 3) ls (zR (h r j).toNat :: st)) : zG F k n Γ h pc ls (zR r :: st) :=
  zget hf hd hk (by rw [hc, hs]; rfl) (fun hm => by have h9 := zom_f hm hk j hf.2.1; rw [hc] at h9; exact h9.2) kk
theorem zcell_set {Γ : zC} {h : zM} {r ci j : Nat} {x : Int} (hs : zsr Γ r j = none ∨ zTc (zTy ci j) ≠ 9) : zcell Γ r (zup h r j x r) (.inl ci) = .inr (ci, ((List.range (zN ci)).map fun j => zFV Γ (zTc (zTy ci j)) (h r j) (zsr Γ r j)).set j (zFV Γ (zTc (zTy ci j)) x none)) := by
  refine congrArg (fun l => (Sum.inr (ci, l) : va_E)) ?_
  apply List.ext_getElem?
  intro i
  rw [List.getElem?_set, List.getElem?_map, List.getElem?_map]
  by_cases hi : i < zN ci
  · rw [List.getElem?_range hi]
    by_cases e : j = i
    · subst e
      have : j < ((List.range (zN ci)).map fun j => zFV Γ (zTc (zTy ci j)) (h r j) (zsr Γ r j)).length := by simpa using hi
      simp only [if_true, this, Option.map_some, zup, and_self]
      congr 1
      rcases hs with hs | hs
      · rw [hs]
      · unfold zFV; simp [hs]
    · simp only [e, if_false, Option.map_some]
      congr 2
      simp [zup, show ¬ i = j from fun q => e q.symm]
  · rw [List.getElem?_eq_none (by simp; omega)]
    by_cases e : j = i
    · subst e
      simp [hi]
    · simp [e]
def zfin (ci j : Nat) : Bool := (zT ci j).2.2.2
theorem zput {F : zF} {k n : Nat} {Γ : zC} {h : zM} {pc : Nat} {ls : List (Option zV)} {st : List zV} {idx ci j r : Nat} {v : zV} {x : Int} (hf : zFld F.2.1.1.cls idx ci j) (hd : decode F.2.1.2.1 pc = .ok (.putfield idx, 3)) (hk : zkd Γ r = some (.inl ci)) (hfin : zfin ci j = false) (hs : zsr Γ r j = none ∨ zTc (zTy ci j) ≠ 9)
    (hv : zFV Γ (zTc (zTy ci j)) x none = zval Γ v) (ho : zov Γ v → zokF Γ (zTc (zTy ci j)) x) (hn : narrow (zTy ci j) (zval Γ v) = zval Γ v) (hfit : fits (zTy ci j) (zval Γ v) = true) (kk : zG F k n Γ (zup h r j x) (pc + 3) ls st) : zG F k n Γ h pc ls (v :: zR r :: st) := by
  intro p e s m args below meth c H locs lsr hB hl hlv hst hW hS hA
  rw [List.map_cons, List.map_cons, zref hk]
  have hB0 := hB
  obtain ⟨hx, hb, -, -, hown, hts, -⟩ := hB
  obtain ⟨hm, hP, hK, hD⟩ := hW
  refine va_put (D := zD Γ) (ci := ci) (v := zval Γ v) (ty := zTy ci j) (C := zCn ci) (T := zT ci) (N := zN ci) hx hb hts (zws_ok ci hf.1) (zTy ci) (zty_ok ci hf.1) (znm_ok ci hf.1) hown hK hP hD hS (r - 1) (zws_at h hk) (zcl_at ci hf.1) j hf.2.1 (hts _ hf.2.2) (fun _ q => q) hfin (zty_ok ci hf.1 j hf.2.1) hn hfit (by simpa using hf.2.1) hd (fun H1 locs1 hP1 hD1 hS1 => ?_)
  have e1 : (zws Γ h).set (r - 1) (zad Γ r, .inr (ci, ((List.range (zN ci)).map fun j => zFV Γ (zTc (zTy ci j)) (h r j) (zsr Γ r j)).set j (zval Γ v))) = zws Γ (zup h r j x) := by
    rw [zws_set hk, zcell_set hs, hv]
  have hoc : zoc Γ (zup h r j x r) (.inl ci) := fun j' hj' => by
    by_cases e2 : j' = j
    · subst e2
      simp only [zup, and_self, if_true]
      exact ho (zvh hst)
    · simp only [zup, e2, and_false, if_false]
      exact zom_f hm hk j' hj'
  exact kk p e s m args below meth c H1 locs1 lsr hB0 hl hlv (zvt (zvt hst)) ⟨zom_up hm hk hoc, by rw [← e1]; exact hP1, hK, by rw [← e1]; exact hD1⟩ hS1 hA
theorem zTc0 {ty : FieldType} (h : zTc ty = 0) : ty = .int := by cases ty <;> simp_all [zTc]
theorem zTc2 {ty : FieldType} (h : zTc ty = 2) : ty = .boolean := by cases ty <;> simp_all [zTc]
theorem zTc3 {ty : FieldType} (h : zTc ty = 3) : ty = .long := by cases ty <;> simp_all [zTc]
theorem z_putI {F : zF} {k n : Nat} {Γ : zC} {h : zM} {pc : Nat} {ls : List (Option zV)} {st : List zV} {idx ci j r : Nat} {x : Int} (hf : zFld F.2.1.1.cls idx ci j) (hd : decode F.2.1.2.1 pc = .ok (.putfield idx, 3)) (hk : zkd Γ r = some (.inl ci)) (hc : zTc (zTy ci j) = 0) (hfin : zfin ci j = false)
    (kk : zG F k n Γ (zup h r j x) (pc + 3) ls st) : zG F k n Γ h pc ls (zI x :: zR r :: st) :=
  zput hf hd hk hfin (Or.inr (by rw [hc]; decide)) (by rw [hc]; rfl) (fun q => by rw [hc]; exact q) (by rw [zTc0 hc]; rfl) (by rw [zTc0 hc]; rfl) kk
theorem z_putZ {F : zF} {k n : Nat} {Γ : zC} {h : zM} {pc : Nat} {ls : List (Option zV)} {st : List zV} {idx ci j r : Nat} {x : Int} (hf : zFld F.2.1.1.cls idx ci j) (hd : decode F.2.1.2.1 pc = .ok (.putfield idx, 3)) (hk : zkd Γ r = some (.inl ci)) (hc : zTc (zTy ci j) = 2) (hfin : zfin ci j = false) (hx : x = 0 ∨ x = 1)
    (kk : zG F k n Γ (zup h r j x) (pc + 3) ls st) : zG F k n Γ h pc ls (zI x :: zR r :: st) :=
  zput hf hd hk hfin (Or.inr (by rw [hc]; decide)) (by rw [hc]; rfl) (fun q => by rw [hc]; exact hx) (by rw [zTc2 hc]; rcases hx with h | h <;> (rw [h]; rfl)) (by rw [zTc2 hc]; rcases hx with h | h <;> (rw [h]; rfl)) kk
theorem z_putJ {F : zF} {k n : Nat} {Γ : zC} {h : zM} {pc : Nat} {ls : List (Option zV)} {st : List zV} {idx ci j r : Nat} {x : Int} (hf : zFld F.2.1.1.cls idx ci j) (hd : decode F.2.1.2.1 pc = .ok (.putfield idx, 3)) (hk : zkd Γ r = some (.inl ci)) (hc : zTc (zTy ci j) = 3) (hfin : zfin ci j = false)
    (kk : zG F k n Γ (zup h r j x) (pc + 3) ls st) : zG F k n Γ h pc ls (zL x :: zR r :: st) :=
  zput hf hd hk hfin (Or.inr (by rw [hc]; decide)) (by rw [hc]; rfl) (fun q => by rw [hc]; exact q) (by rw [zTc3 hc]; rfl) (by rw [zTc3 hc]; rfl) kk
/-- rows -/
theorem zty_at {Γ : zC} {t : Nat} (ht : t < 6) : (ztys Γ)[t]? = some (zcA Γ t, zAT t) := by
  unfold ztys; rw [List.getElem?_map, List.getElem?_range ht]; rfl
theorem z_iald {F : zF} {k n : Nat} {Γ : zC} {h : zM} {pc : Nat} {ls : List (Option zV)} {st : List zV} {r len : Nat} {i : Int} (hd : decode F.2.1.2.1 pc = .ok (.iaload, 1)) (hk : zkd Γ r = some (.inr (0, len))) (h0 : 0 ≤ i) (h1 : i < len)
    (kk : zG F k n Γ h (pc + 1) ls (zI (h r i.toNat) :: st)) : zG F k n Γ h pc ls (zI i :: zR r :: st) := by
  intro p e s m args below meth c H locs lsr hB hl hlv hst hW hS hA
  have ho : zo32 (h r i.toNat) := zom_a hW.1 hk (j := i.toNat) (by omega)
  have kk' := kk p e s m args below meth c H locs lsr hB hl hlv (zv2 ho (zvt (zvt hst))) hW hS hA
  rw [List.map_cons, List.map_cons, zref hk]
  refine va_iald hB.1 hB.2.1 hW.2.2.1 hW.2.1 (r - 1) 0 (zws_at h hk) (zty_at (by decide)) (zvpin (zvh hst) h0 h1) hd ?_
  rw [z32cl (zvh hst)]; exact kk'
theorem z_bald {F : zF} {k n : Nat} {Γ : zC} {h : zM} {pc : Nat} {ls : List (Option zV)} {st : List zV} {r len : Nat} {i : Int} (hd : decode F.2.1.2.1 pc = .ok (.baload, 1)) (hk : zkd Γ r = some (.inr (1, len))) (h0 : 0 ≤ i) (h1 : i < len)
    (kk : zG F k n Γ h (pc + 1) ls (zI (h r i.toNat) :: st)) : zG F k n Γ h pc ls (zI i :: zR r :: st) := by
  intro p e s m args below meth c H locs lsr hB hl hlv hst hW hS hA
  have ho : -128 ≤ h r i.toNat ∧ h r i.toNat < 128 := zom_a hW.1 hk (j := i.toNat) (by omega)
  have kk' := kk p e s m args below meth c H locs lsr hB hl hlv (zv2 (show zo32 _ by omega) (zvt (zvt hst))) hW hS hA
  rw [List.map_cons, List.map_cons, zref hk]
  refine va_bald hB.1 hB.2.1 hW.2.2.1 hW.2.1 (r - 1) 1 (zws_at h hk) (zty_at (by decide)) (zvpin (zvh hst) h0 h1) hd ?_
  rw [z32cl (zvh hst)]; exact kk'
theorem z_zald {F : zF} {k n : Nat} {Γ : zC} {h : zM} {pc : Nat} {ls : List (Option zV)} {st : List zV} {r len : Nat} {i : Int} (hd : decode F.2.1.2.1 pc = .ok (.baload, 1)) (hk : zkd Γ r = some (.inr (2, len))) (h0 : 0 ≤ i) (h1 : i < len)
    (kk : zG F k n Γ h (pc + 1) ls (zI (h r i.toNat) :: st)) : zG F k n Γ h pc ls (zI i :: zR r :: st) := by
  intro p e s m args below meth c H locs lsr hB hl hlv hst hW hS hA
  have ho : h r i.toNat = 0 ∨ h r i.toNat = 1 := zom_a hW.1 hk (j := i.toNat) (by omega)
  have kk' := kk p e s m args below meth c H locs lsr hB hl hlv (zv2 (show zo32 _ by omega) (zvt (zvt hst))) hW hS hA
  rw [List.map_cons, List.map_cons, zref hk]
  refine va_zald hB.1 hB.2.1 hW.2.2.1 hW.2.1 (r - 1) 2 (zws_at h hk) (zty_at (by decide)) (zvpin (zvh hst) h0 h1) hd ?_
  rw [z32cl (zvh hst)]; exact kk'
theorem z_lald {F : zF} {k n : Nat} {Γ : zC} {h : zM} {pc : Nat} {ls : List (Option zV)} {st : List zV} {r len : Nat} {i : Int} (hd : decode F.2.1.2.1 pc = .ok (.laload, 1)) (hk : zkd Γ r = some (.inr (3, len))) (h0 : 0 ≤ i) (h1 : i < len)
    (kk : zG F k n Γ h (pc + 1) ls (zL (h r i.toNat) :: st)) : zG F k n Γ h pc ls (zI i :: zR r :: st) := by
  intro p e s m args below meth c H locs lsr hB hl hlv hst hW hS hA
  have ho : zo64 (h r i.toNat) := zom_a hW.1 hk (j := i.toNat) (by omega)
  have kk' := kk p e s m args below meth c H locs lsr hB hl hlv (zv2 ho (zvt (zvt hst))) hW hS hA
  rw [List.map_cons, List.map_cons, zref hk]
  refine va_lald hB.1 hB.2.1 hW.2.2.1 hW.2.1 (r - 1) 3 (zws_at h hk) (zty_at (by decide)) (zvpin (zvh hst) h0 h1) hd ?_
  rw [z32cl (zvh hst)]; exact kk'
theorem z_aald {F : zF} {k n : Nat} {Γ : zC} {h : zM} {pc : Nat} {ls : List (Option zV)} {st : List zV} {r len t : Nat} {i : Int} (hd : decode F.2.1.2.1 pc = .ok (.aaload, 1)) (hk : zkd Γ r = some (.inr (t, len))) (ht : t = 4 ∨ t = 5) (h0 : 0 ≤ i) (h1 : i < len) {q : Nat} (hq : (zsr Γ r i.toNat).getD (h r i.toNat).toNat = q) (hq2 : zom Γ h → zvr Γ q)
    (kk : zG F k n Γ h (pc + 1) ls (zR q :: st)) : zG F k n Γ h pc ls (zI i :: zR r :: st) := by
  intro p e s m args below meth c H locs lsr hB hl hlv hst hW hS hA
  subst hq
  have kk' := kk p e s m args below meth c H locs lsr hB hl hlv (zv2 (hq2 hW.1) (zvt (zvt hst))) hW hS hA
  rw [List.map_cons, List.map_cons, zref hk]
  have hin := zvpin (zvh hst) h0 h1
  have hlt : (Int32.ofInt i).toNatClampNeg < len := by rw [z32cl (zvh hst)]; omega
  have hc : H[zad Γ r]? = some (arrV (zcA Γ t) len (fun j => va_rf (zro Γ ((zsr Γ r j).getD (h r j).toNat)))) := by
    have h9 := hW.2.1 (r - 1) _ (zws_at h hk)
    rcases ht with rfl | rfl <;> exact h9
  have ha := (hW.2.2.1.2 t _ (zty_at (by omega))).1 len (fun j => va_rf (zro Γ ((zsr Γ r j).getD (h r j).toNat)))
  refine W.aald (v := zval Γ (zR ((zsr Γ r i.toNat).getD (h r i.toNat).toNat))) (ty := zAT t) hB.1 hB.2.1 hc ha (by rcases ht with rfl | rfl <;> rfl) (fun q => by cases q) (by show ¬ (_ ∨ (arrV _ _ _).slots.size ≤ _); rw [arrV_size]; exact hin) (by show (arrV _ _ _).slots[_]? = _; rw [arrV_read _ _ hlt, z32cl (zvh hst), zro_rf]; rfl) rfl rfl hd kk'
theorem z_alen {F : zF} {k n : Nat} {Γ : zC} {h : zM} {pc : Nat} {ls : List (Option zV)} {st : List zV} {r len t : Nat} (hd : decode F.2.1.2.1 pc = .ok (.arraylength, 1)) (hk : zkd Γ r = some (.inr (t, len))) (ht : t < 6)
    (kk : zG F k n Γ h (pc + 1) ls (zI (len : Int) :: st)) : zG F k n Γ h pc ls (zR r :: st) := by
  intro p e s m args below meth c H locs lsr hB hl hlv hst hW hS hA
  have hlen : len < 2147483648 := (zom_at hW.1 hk).1
  have kk' := kk p e s m args below meth c H locs lsr hB hl hlv (zv2 (show zo32 _ by omega) (zvt hst)) hW hS hA
  rw [List.map_cons, zref hk]
  exact va_alen hB.1 hB.2.1 hW.2.2.1 hW.2.1 (r - 1) t (zws_at h hk) (zty_at ht) (v := Int32.ofInt (len : Int)) rfl hd kk'
theorem zoc_st {Γ : zC} {h : zM} {r t len : Nat} (hm : zom Γ h) (hk : zkd Γ r = some (.inr (t, len))) (j : Nat) {x : Int} (hx : zokF Γ t x) : zom Γ (zup h r j x) := by
  refine zom_up hm hk ⟨(zom_at hm hk).1, fun j' hj' => ?_⟩
  by_cases e2 : j' = j
  · subst e2
    simp only [zup, and_self, if_true]
    exact hx
  · simp only [zup, e2, and_false, if_false]
    exact zom_a hm hk hj'
theorem zcell_a {Γ : zC} {h : zM} {r t len j : Nat} {x : Int} (ht : t ≤ 2) : (zad Γ r, zcell Γ r (zup h r j x r) (.inr (t, len))) = ((zad Γ r, .inl (zcA Γ t, len, .inl (upd (fun j => Int32.ofInt (h r j)) j (Int32.ofInt x)))) : Nat × va_E) := by
  unfold zcell
  simp only [ht, if_true]
  congr 5
  funext j'
  by_cases e : j' = j <;> simp [zup, upd, e]
theorem zcell_l {Γ : zC} {h : zM} {r len j : Nat} {x : Int} : (zad Γ r, zcell Γ r (zup h r j x r) (.inr (3, len))) = ((zad Γ r, .inl (zcA Γ 3, len, .inr (.inl (vp_updL (fun j => Int64.ofInt (h r j)) j (Int64.ofInt x))))) : Nat × va_E) := by
  unfold zcell
  simp only [show ¬ (3 : Nat) ≤ 2 by decide, if_false, if_true]
  congr 6
  funext j'
  by_cases e : j' = j <;> simp [zup, vp_updL, e]
theorem z_iast {F : zF} {k n : Nat} {Γ : zC} {h : zM} {pc : Nat} {ls : List (Option zV)} {st : List zV} {r len : Nat} {i x : Int} (hd : decode F.2.1.2.1 pc = .ok (.iastore, 1)) (hk : zkd Γ r = some (.inr (0, len))) (h0 : 0 ≤ i) (h1 : i < len)
    (kk : zG F k n Γ (zup h r i.toNat x) (pc + 1) ls st) : zG F k n Γ h pc ls (zI x :: zI i :: zR r :: st) := by
  intro p e s m args below meth c H locs lsr hB hl hlv hst hW hS hA
  rw [List.map_cons, List.map_cons, List.map_cons, zref hk]
  refine va_iast hB.1 hB.2.1 hW.2.2.1 hW.2.1 hW.2.2.2 hS (r - 1) 0 (zws_at h hk) (zty_at (by decide)) (zvpin (zvh (zvt hst)) h0 h1) hd (fun H1 locs1 hP1 hD1 hS1 => ?_)
  have e1 := zws_set (Γ := Γ) (h := h) (j := i.toNat) (x := x) hk
  rw [zcell_a (by decide), ← z32cl (zvh (zvt hst))] at e1
  exact kk p e s m args below meth c H1 locs1 lsr hB hl hlv (zvt (zvt (zvt hst))) ⟨zoc_st hW.1 hk _ (zvh hst), by rw [← z32cl (zvh (zvt hst)), e1]; exact hP1, hW.2.2.1, by rw [← z32cl (zvh (zvt hst)), e1]; exact hD1⟩ hS1 hA
theorem z_bast {F : zF} {k n : Nat} {Γ : zC} {h : zM} {pc : Nat} {ls : List (Option zV)} {st : List zV} {r len : Nat} {i x : Int} (hd : decode F.2.1.2.1 pc = .ok (.bastore, 1)) (hk : zkd Γ r = some (.inr (1, len))) (h0 : 0 ≤ i) (h1 : i < len) (hx : -128 ≤ x ∧ x < 128)
    (kk : zG F k n Γ (zup h r i.toNat x) (pc + 1) ls st) : zG F k n Γ h pc ls (zI x :: zI i :: zR r :: st) := by
  intro p e s m args below meth c H locs lsr hB hl hlv hst hW hS hA
  rw [List.map_cons, List.map_cons, List.map_cons, zref hk]
  refine va_bast hB.1 hB.2.1 hW.2.2.1 hW.2.1 hW.2.2.2 hS (r - 1) 1 (zws_at h hk) (zty_at (by decide)) (zvpin (zvh (zvt hst)) h0 h1) hd (fun H1 locs1 hP1 hD1 hS1 => ?_)
  have e2 : vp_nar .byte (Int32.ofInt x) = Int32.ofInt x := by
    rw [vp_nar_byte, ← Int32.toInt_inj, Int8.toInt_toInt32, Int32.toInt_toInt8, z32t (by omega)]
    exact Int.bmod_eq_of_le (by omega) (by omega)
  rw [e2] at hP1 hD1
  have e1 := zws_set (Γ := Γ) (h := h) (j := i.toNat) (x := x) hk
  rw [zcell_a (by decide), ← z32cl (zvh (zvt hst))] at e1
  exact kk p e s m args below meth c H1 locs1 lsr hB hl hlv (zvt (zvt (zvt hst))) ⟨zoc_st hW.1 hk _ hx, by rw [← z32cl (zvh (zvt hst)), e1]; exact hP1, hW.2.2.1, by rw [← z32cl (zvh (zvt hst)), e1]; exact hD1⟩ hS1 hA
theorem z_zast {F : zF} {k n : Nat} {Γ : zC} {h : zM} {pc : Nat} {ls : List (Option zV)} {st : List zV} {r len : Nat} {i x : Int} (hd : decode F.2.1.2.1 pc = .ok (.bastore, 1)) (hk : zkd Γ r = some (.inr (2, len))) (h0 : 0 ≤ i) (h1 : i < len) (hx : x = 0 ∨ x = 1)
    (kk : zG F k n Γ (zup h r i.toNat x) (pc + 1) ls st) : zG F k n Γ h pc ls (zI x :: zI i :: zR r :: st) := by
  intro p e s m args below meth c H locs lsr hB hl hlv hst hW hS hA
  rw [List.map_cons, List.map_cons, List.map_cons, zref hk]
  refine va_zast hB.1 hB.2.1 hW.2.2.1 hW.2.1 hW.2.2.2 hS (r - 1) 2 (zws_at h hk) (zty_at (by decide)) (zvpin (zvh (zvt hst)) h0 h1) hd (fun H1 locs1 hP1 hD1 hS1 => ?_)
  have e2 : vp_nar .boolean (Int32.ofInt x) = Int32.ofInt x := by
    rcases hx with rfl | rfl <;> decide +kernel
  rw [e2] at hP1 hD1
  have e1 := zws_set (Γ := Γ) (h := h) (j := i.toNat) (x := x) hk
  rw [zcell_a (by decide), ← z32cl (zvh (zvt hst))] at e1
  exact kk p e s m args below meth c H1 locs1 lsr hB hl hlv (zvt (zvt (zvt hst))) ⟨zoc_st hW.1 hk _ hx, by rw [← z32cl (zvh (zvt hst)), e1]; exact hP1, hW.2.2.1, by rw [← z32cl (zvh (zvt hst)), e1]; exact hD1⟩ hS1 hA
theorem z_last {F : zF} {k n : Nat} {Γ : zC} {h : zM} {pc : Nat} {ls : List (Option zV)} {st : List zV} {r len : Nat} {i x : Int} (hd : decode F.2.1.2.1 pc = .ok (.lastore, 1)) (hk : zkd Γ r = some (.inr (3, len))) (h0 : 0 ≤ i) (h1 : i < len)
    (kk : zG F k n Γ (zup h r i.toNat x) (pc + 1) ls st) : zG F k n Γ h pc ls (zL x :: zI i :: zR r :: st) := by
  intro p e s m args below meth c H locs lsr hB hl hlv hst hW hS hA
  rw [List.map_cons, List.map_cons, List.map_cons, zref hk]
  refine va_last hB.1 hB.2.1 hW.2.2.1 hW.2.1 hW.2.2.2 hS (r - 1) 3 (zws_at h hk) (zty_at (by decide)) (zvpin (zvh (zvt hst)) h0 h1) hd (fun H1 locs1 hP1 hD1 hS1 => ?_)
  have e1 := zws_set (Γ := Γ) (h := h) (j := i.toNat) (x := x) hk
  rw [zcell_l, ← z32cl (zvh (zvt hst))] at e1
  exact kk p e s m args below meth c H1 locs1 lsr hB hl hlv (zvt (zvt (zvt hst))) ⟨zoc_st hW.1 hk _ (zvh hst), by rw [← z32cl (zvh (zvt hst)), e1]; exact hP1, hW.2.2.1, by rw [← z32cl (zvh (zvt hst)), e1]; exact hD1⟩ hS1 hA
