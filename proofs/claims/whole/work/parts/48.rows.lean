/-! new objects: the rows -/
theorem zmv_loc {Γ Γ' : zC} (hx : zext Γ Γ') {lsr : Array Slot} {nL : Nat} {ls : List (Option zV)} (hl : zloc Γ lsr nL ls) (hlv : ∀ v, some v ∈ ls → zov Γ v) : zloc Γ' lsr nL ls := ⟨hl.1, hl.2.1, fun i v hi => by rw [(zext_v hx (hlv v (List.mem_of_getElem? hi))).1]; exact hl.2.2 i v hi⟩
theorem zmv_st {Γ Γ' : zC} (hx : zext Γ Γ') {A : Nat → Prop} {s : State} (h : zSt Γ A s) : zSt Γ' A s := by
  obtain ⟨sL, aL, a1, a2, a3, a4, a5, a6⟩ := h
  exact ⟨sL, aL, a1, a2, a3, a4, a5, zSs_ad (fun i hi => (hx.2.2 i (Or.inr hi)).1) a6⟩
theorem zpu_top {Γ : zC} {q : zK} {a : Nat} : zval (zpu Γ q a) (zR ((zks Γ).length + 1)) = .ref a := by
  rw [zref (zpu_kn Γ q a)]
  exact congrArg Value.ref (if_pos rfl)
theorem zpu_ov {Γ : zC} {q : zK} {a : Nat} : zov (zpu Γ q a) (zR ((zks Γ).length + 1)) := Or.inl (by rw [zpu_len]; omega)
/-- the step that lays one more object -/
theorem z_lay {F : zF} {k' n' : Nat} {Γ : zC} {h : zM} {pc' : Nat} {ls : List (Option zV)} {st : List zV} {q : zK} {a : Nat} {p : Program} {e : Env} {s : State} {m : MethodId} {args : Array Value} {below : List Frame} {meth : Method} {c : Code} {H1 : Heap} {locs : List Loc} {lsr : Array Slot} (hl9 : (zks Γ).length < 900000) (hsv : zsv Γ) (hf : zoc (zpu Γ q a) (fun _ => 0) q) (hB : zB F p s m args meth c) (hl : zloc Γ lsr F.2.1.2.2.1 ls) (hlv : ∀ v, some v ∈ ls → zov Γ v) (hst : ∀ v, v ∈ st → zov Γ v) (hom : zom Γ h) (hK : va_K (zD Γ) vwCl (ztys Γ) s) (hP : va_P (zD Γ) vwCl (zws Γ h ++ [(a, zcell (zpu Γ q a) ((zks Γ).length + 1) (fun _ => 0) q)]) H1) (hD : va_D (F.2.2.2.1 s) (zws Γ h ++ [(a, zcell (zpu Γ q a) ((zks Γ).length + 1) (fun _ => 0) q)])) (hS : va_S (F.2.2.2.1 s) s.heap H1 locs) (hA : (∀ q, s.heap.size ≤ q → F.2.2.2.1 s q) ∧ zSt Γ (F.2.2.2.1 s) s)
    (kk : zG F k' n' (zpu Γ q a) (zrw h ((zks Γ).length + 1) (fun _ => 0)) pc' ls (zR ((zks Γ).length + 1) :: st)) : W p F.1 e F.2.2.1 s m args below meth c H1 locs k' n' (F.2.2.2.2 s args below) (F0 m pc' lsr (.ref a :: st.map (zval Γ))) := by
  have hx : zext Γ (zpu Γ q a) := zpu_ext hl9
  obtain ⟨em, ho⟩ := zext_l hx hst
  have h9 := kk p e s m args below meth c H1 locs lsr hB (zmv_loc hx hl hlv) (fun v hv => (zext_v hx (hlv v hv)).2) (zv2 zpu_ov ho) (zWd_pu hl9 hsv hom hf hK hP hD) hS ⟨hA.1, zmv_st hx hA.2⟩
  rw [List.map_cons, zpu_top, em] at h9
  exact h9
theorem z_newg {F : zF} {k n : Nat} {Γ : zC} {h : zM} {pc : Nat} {ls : List (Option zV)} {st : List zV} {ty9 : ArrayType} {t : Nat} {N : Int} (hd : decode F.2.1.2.1 pc = .ok (.newarray ty9, 2)) (harr : Cond.arrayClass (newarray.typeOf ty9) ∈ zTB) (ht : t < 4) (hty : newarray.typeOf ty9 = zAT t) (h0 : 0 ≤ N ∧ N ≤ 200000) (hc : k + 1 ≤ F.2.2.1.cells) (hs : n + N.toNat ≤ F.2.2.1.slots) (hl9 : (zks Γ).length < 900000) (hsv : zsv Γ)
    (a0 : vp_A) (ha : ∀ cA : ClassId, vp_cell cA a0 = arrV cA N.toNat (fun _ => defaultValue (zAT t))) (hcell : ∀ q, zcell (zpu Γ (.inr (t, N.toNat)) q) ((zks Γ).length + 1) (fun _ => 0) (.inr (t, N.toNat)) = .inl (zcA Γ t, a0)) (hb : N.toNat * componentBytes (zAT t) ≤ 536870912)
    (kk : ∀ a, zG F (k + 1) (n + N.toNat) (zpu Γ (.inr (t, N.toNat)) a) (zrw h ((zks Γ).length + 1) (fun _ => 0)) (pc + 2) ls (zR ((zks Γ).length + 1) :: st)) : zG F k n Γ h pc ls (zI N :: st) := by
  intro p e s m args below meth c H locs lsr hB hl hlv hst hW hS hA
  have hts := hB.2.2.2.2.2.1
  have hN : zo32 N := zvh hst
  rw [List.map_cons]
  refine va_newa hB.1 hB.2.1 (hts _ harr) hty hW.2.2.1 hW.2.1 hW.2.2.2 hS hA.1 (n := Int32.ofInt N) (N' := N.toNat) (a0 := a0) ha (by rw [show (0 : Int32) = Int32.ofInt 0 from rfl, z32lt hN (by decide)]; omega) (z32cl hN) hb hc hs hd (fun q cA H1 hK hP hD hS1 => ?_)
  have e6 : (ztys Γ).length = 6 := by simp [ztys]
  have g1 := (hK.2 6 (cA, zAT t) (by rw [List.getElem?_append_right (by omega), e6]; rfl)).2
  have g2 := (hW.2.2.1.2 t _ (zty_at (by omega))).2
  have ecA : cA = zcA Γ t := by
    rcases (show t = 0 ∨ t = 1 ∨ t = 2 ∨ t = 3 by omega) with rfl | rfl | rfl | rfl
    · exact Option.some.inj ((show s.vm.findClass ("[" ++ (FieldType.int).toString) = some cA from g1).symm.trans g2)
    · exact Option.some.inj ((show s.vm.findClass ("[" ++ (FieldType.byte).toString) = some cA from g1).symm.trans g2)
    · exact Option.some.inj ((show s.vm.findClass ("[" ++ (FieldType.boolean).toString) = some cA from g1).symm.trans g2)
    · exact Option.some.inj ((show s.vm.findClass ("[" ++ (FieldType.long).toString) = some cA from g1).symm.trans g2)
  rw [ecA, ← hcell q] at hP hD
  refine z_lay (q := .inr (t, N.toNat)) hl9 hsv ⟨by show N.toNat < 2147483648; omega, fun j _ => ?_⟩ hB hl hlv (zvt hst) hW.1 hW.2.2.1 hP hD hS1 hA (kk q)
  rcases (show t = 0 ∨ t = 1 ∨ t = 2 ∨ t = 3 by omega) with rfl | rfl | rfl | rfl
  · exact (by decide : zo32 0)
  · exact ⟨(by decide : (-128 : Int) ≤ 0), (by decide : (0 : Int) < 128)⟩
  · exact Or.inl rfl
  · exact (by decide : zo64 0)
theorem zaI : Cond.arrayClass FieldType.int ∈ zTB := by
  exact (by decide +kernel : Cond.arrayClass FieldType.int ∈ zTB)
theorem zaZ : Cond.arrayClass FieldType.boolean ∈ zTB := by
  exact (by decide +kernel : Cond.arrayClass FieldType.boolean ∈ zTB)
theorem zaJ : Cond.arrayClass FieldType.long ∈ zTB := by
  exact (by decide +kernel : Cond.arrayClass FieldType.long ∈ zTB)
theorem zaB : Cond.arrayClass FieldType.byte ∈ zTB := by
  exact (by decide +kernel : Cond.arrayClass FieldType.byte ∈ zTB)
section ZNEW
variable {F : zF} {k n : Nat} {Γ : zC} {h : zM} {pc : Nat} {ls : List (Option zV)} {st : List zV} {N : Int}
theorem z_newI (hd : decode F.2.1.2.1 pc = .ok (.newarray .int, 2)) (h0 : 0 ≤ N ∧ N ≤ 200000) (hc : k + 1 ≤ F.2.2.1.cells) (hs : n + N.toNat ≤ F.2.2.1.slots) (hl9 : (zks Γ).length < 900000) (hsv : zsv Γ) (kk : ∀ a, zG F (k + 1) (n + N.toNat) (zpu Γ (.inr (0, N.toNat)) a) (zrw h ((zks Γ).length + 1) (fun _ => 0)) (pc + 2) ls (zR ((zks Γ).length + 1) :: st)) : zG F k n Γ h pc ls (zI N :: st) :=
  z_newg hd zaI (by decide) rfl h0 hc hs hl9 hsv (N.toNat, .inl fun _ => Int32.ofInt 0) (fun _ => rfl) (fun _ => rfl) (by show N.toNat * 4 ≤ _; omega) kk
theorem z_newZ (hd : decode F.2.1.2.1 pc = .ok (.newarray .boolean, 2)) (h0 : 0 ≤ N ∧ N ≤ 200000) (hc : k + 1 ≤ F.2.2.1.cells) (hs : n + N.toNat ≤ F.2.2.1.slots) (hl9 : (zks Γ).length < 900000) (hsv : zsv Γ) (kk : ∀ a, zG F (k + 1) (n + N.toNat) (zpu Γ (.inr (2, N.toNat)) a) (zrw h ((zks Γ).length + 1) (fun _ => 0)) (pc + 2) ls (zR ((zks Γ).length + 1) :: st)) : zG F k n Γ h pc ls (zI N :: st) :=
  z_newg hd zaZ (by decide) rfl h0 hc hs hl9 hsv (N.toNat, .inl fun _ => Int32.ofInt 0) (fun _ => rfl) (fun _ => rfl) (by show N.toNat * 1 ≤ _; omega) kk
theorem z_newB (hd : decode F.2.1.2.1 pc = .ok (.newarray .byte, 2)) (h0 : 0 ≤ N ∧ N ≤ 200000) (hc : k + 1 ≤ F.2.2.1.cells) (hs : n + N.toNat ≤ F.2.2.1.slots) (hl9 : (zks Γ).length < 900000) (hsv : zsv Γ) (kk : ∀ a, zG F (k + 1) (n + N.toNat) (zpu Γ (.inr (1, N.toNat)) a) (zrw h ((zks Γ).length + 1) (fun _ => 0)) (pc + 2) ls (zR ((zks Γ).length + 1) :: st)) : zG F k n Γ h pc ls (zI N :: st) :=
  z_newg hd zaB (by decide) rfl h0 hc hs hl9 hsv (N.toNat, .inl fun _ => Int32.ofInt 0) (fun _ => rfl) (fun _ => rfl) (by show N.toNat * 1 ≤ _; omega) kk
theorem z_newJ (hd : decode F.2.1.2.1 pc = .ok (.newarray .long, 2)) (h0 : 0 ≤ N ∧ N ≤ 200000) (hc : k + 1 ≤ F.2.2.1.cells) (hs : n + N.toNat ≤ F.2.2.1.slots) (hl9 : (zks Γ).length < 900000) (hsv : zsv Γ) (kk : ∀ a, zG F (k + 1) (n + N.toNat) (zpu Γ (.inr (3, N.toNat)) a) (zrw h ((zks Γ).length + 1) (fun _ => 0)) (pc + 2) ls (zR ((zks Γ).length + 1) :: st)) : zG F k n Γ h pc ls (zI N :: st) :=
  z_newg hd zaJ (by decide) rfl h0 hc hs hl9 hsv (N.toNat, .inr (.inl fun _ => Int64.ofInt 0)) (fun _ => rfl) (fun _ => rfl) (by show N.toNat * 8 ≤ _; omega) kk
end ZNEW
def zoT (ty : FieldType) : Bool := match ty with
  | .int => true | .byte => true | .boolean => true | .long => true | .object _ => true | .array _ => true | _ => false
theorem zoT_ok : ∀ c, c < 10 → ∀ j, j < zN c → zoT (zTy c j) = true := by decide +kernel
theorem zdef (Γ : zC) {ty : FieldType} (h : zoT ty = true) : defaultValue ty = zFV Γ (zTc ty) 0 none := by
  cases ty <;> first | rfl | cases h
theorem z_new {F : zF} {k n : Nat} {Γ : zC} {h : zM} {pc : Nat} {ls : List (Option zV)} {st : List zV} {ci idx : Nat} (hd : decode F.2.1.2.1 pc = .ok (.new idx, 3)) (hci : ci < 10) (hcl : Cond.classLink F.2.1.1.cls idx (zCn ci) ∈ zTB) (hins : Cond.instantiable (zCn ci) (zN ci) ∈ zTB) (hini : Cond.initialized (zCn ci) ∈ zTB) (hc : k + 1 ≤ F.2.2.1.cells) (hs : n + zN ci ≤ F.2.2.1.slots) (hl9 : (zks Γ).length < 900000) (hsv : zsv Γ)
    (kk : ∀ a, zG F (k + 1) (n + zN ci) (zpu Γ (.inl ci) a) (zrw h ((zks Γ).length + 1) (fun _ => 0)) (pc + 3) ls (zR ((zks Γ).length + 1) :: st)) : zG F k n Γ h pc ls st := by
  intro p e s m args below meth c H locs lsr hB hl hlv hst hW hS hA
  have hts := hB.2.2.2.2.2.1
  have hfs : ∀ j, j < zN ci → defaultValue (zTy ci j) = vp_V ((List.range (zN ci)).map fun j => zFV Γ (zTc (zTy ci j)) 0 none) j := fun j hj => by
    unfold vp_V
    rw [List.getD_eq_getElem?_getD, List.getElem?_map, List.getElem?_range hj]
    exact zdef Γ (zoT_ok ci hci j hj)
  refine va_new hB.1 hB.2.1 hts (zws_ok ci hci) (zTy ci) (zty_ok ci hci) hB.2.2.2.2.1 (hts _ hcl) (hts _ hins) (hts _ hini) hW.2.2.1 hW.2.1 hW.2.2.2 hS hA.1 (zcl_at ci hci) hfs hc hs hd (fun q H1 hP hD hS1 => ?_)
  have hcell : zcell (zpu Γ (.inl ci) q) ((zks Γ).length + 1) (fun _ => 0) (.inl ci) = .inr (ci, (List.range (zN ci)).map fun j => zFV Γ (zTc (zTy ci j)) 0 none) := by
    show Sum.inr (ci, (List.range (zN ci)).map fun j => zFV (zpu Γ (.inl ci) q) (zTc (zTy ci j)) 0 (zsr (zpu Γ (.inl ci) q) ((zks Γ).length + 1) j)) = _
    congr 2
    refine List.map_congr_left (fun j hj => ?_)
    rw [zpu_sn]
    unfold zFV
    split
    · rfl
    · split <;> rfl
  rw [← hcell] at hP hD
  refine z_lay (q := .inl ci) hl9 hsv (fun j hj => ?_) hB hl hlv hst hW.1 hW.2.2.1 hP hD hS1 hA (kk q)
  have hc9 : ∀ c, zokF (zpu Γ (.inl ci) q) c 0 := fun c => by
    match c with
    | 0 => exact (by decide : zo32 0)
    | 1 => exact ⟨by decide, by decide⟩
    | 2 => exact Or.inl rfl
    | 3 => exact (by decide : zo64 0)
    | c + 4 => exact ⟨Int.le_refl _, Or.inl (Nat.zero_le _)⟩
  exact hc9 _
theorem z_putRF {F : zF} {k n : Nat} {Γ : zC} {h : zM} {pc : Nat} {ls : List (Option zV)} {st : List zV} {idx ci j r : Nat} {x : Nat} (hf : zFld F.2.1.1.cls idx ci j) (hd : decode F.2.1.2.1 pc = .ok (.putfield idx, 3)) (hk : zkd Γ r = some (.inl ci)) (hty : (∃ n, zTy ci j = .object n) ∨ ∃ t, zTy ci j = .array t) (hc : zTc (zTy ci j) = 9) (hfin : zfin ci j = true) (hnm : F.2.1.1.name = "<init>") (hdec : (zT ci j).1 = F.2.1.1.cls) (hs : zsr Γ r j = none)
    (kk : zG F k n Γ (zup h r j (x : Nat)) (pc + 3) ls st) : zG F k n Γ h pc ls (zR x :: zR r :: st) := by
  intro p e s m args below meth c H locs lsr hB hl hlv hst hW hS hA
  rw [List.map_cons, List.map_cons, zref hk]
  have hB0 := hB
  obtain ⟨hx, hb, -, -, hown, hts, -, hname, -⟩ := hB
  obtain ⟨hm, hP, hK, hD⟩ := hW
  refine va_putF (D := zD Γ) (ci := ci) (v := zval Γ (zR x)) (ty := zTy ci j) (C := zCn ci) (T := zT ci) (N := zN ci) hx hb hts (zws_ok ci hf.1) (zTy ci) (zty_ok ci hf.1) (znm_ok ci hf.1) hown hK hP hD hS (r - 1) (zws_at h hk) (zcl_at ci hf.1) j hf.2.1 (hts _ hf.2.2) (fun _ q => q) hfin (hname.trans hnm) hdec (zty_ok ci hf.1 j hf.2.1) (znarR hty x).1 (znarR hty x).2 (by simpa using hf.2.1) hd (fun H1 locs1 hP1 hD1 hS1 => ?_)
  have hv : zFV Γ (zTc (zTy ci j)) (x : Nat) none = zval Γ (zR x) := by rw [hc]; rfl
  have e1 : (zws Γ h).set (r - 1) (zad Γ r, .inr (ci, ((List.range (zN ci)).map fun j => zFV Γ (zTc (zTy ci j)) (h r j) (zsr Γ r j)).set j (zval Γ (zR x)))) = zws Γ (zup h r j (x : Nat)) := by
    rw [zws_set hk, zcell_set (Or.inl hs), hv]
  have hoc : zoc Γ (zup h r j (x : Nat) r) (.inl ci) := fun j' hj' => by
    by_cases e2 : j' = j
    · subst e2
      simp only [zup, and_self, if_true]
      rw [hc]
      exact ⟨Int.natCast_nonneg _, by rw [Int.toNat_natCast]; exact zvh hst⟩
    · simp only [zup, e2, and_false, if_false]
      exact zom_at hm hk j' hj'
  rw [e1] at hP1 hD1
  exact kk p e s m args below meth c H1 locs1 lsr hB0 hl hlv (zvt (zvt hst)) ⟨zom_up hm hk hoc, hP1, hK, hD1⟩ hS1 hA
theorem zoi1 : Cond.instanceMethod Lib.objectInit ∈ zTB := by decide +kernel
theorem zoi2 : Cond.code Lib.objectInit ⟨#[0xb1]⟩ 1 none ∈ zTB := by decide +kernel
theorem z_objI {F : zF} {k n : Nat} {Γ : zC} {h : zM} {pc : Nat} {ls : List (Option zV)} {st : List zV} {idx r : Nat} {q : zK} (hd : decode F.2.1.2.1 pc = .ok (.invokespecial idx, 3)) (hL : Cond.methodLink F.2.1.1.cls idx Lib.objectInit ∈ zTB) (hk : zkd Γ r = some q) (hfr : 1 ≤ F.2.2.1.frames) (hlc : 40 ≤ F.2.2.1.locals) (hcat : (st.map zct).sum ≤ 8) (kk : zG F k n Γ h (pc + 3) ls st) : zG F k n Γ h pc ls (zR r :: st) := by
  intro p e s m args below meth c H locs lsr hB hl hlv hst hW hS hA
  have hts := hB.2.2.2.2.2.1
  rw [List.map_cons, zref hk]
  refine W.objInit hB.1 hB.2.1 hB.2.2.2.2.1 (hts _ hL) (hts _ zoi1) (hts _ zoi2) (g := F0 m pc lsr (.ref (zad Γ r) :: st.map (zval Γ))) rfl (hl.1.trans hB.2.2.2.1.symm) rfl hd hfr ?_ ?_
  · show 2 * 0 + _ + 12 ≤ _
    rw [zct_s]; omega
  · exact kk p e s m args below meth c H locs lsr hB hl hlv (zvt hst) hW hS hA
theorem z_aast {F : zF} {k n : Nat} {Γ : zC} {h : zM} {pc : Nat} {ls : List (Option zV)} {st : List zV} {r len x : Nat} {i : Int} (hd : decode F.2.1.2.1 pc = .ok (.aastore, 1)) (hk : zkd Γ r = some (.inr (5, len))) (hx : zkd Γ x = some (.inl 1)) (h0 : 0 ≤ i) (h1 : i < len) (hs : zsr Γ r i.toNat = none)
    (kk : zG F k n Γ (zup h r i.toNat (x : Nat)) (pc + 1) ls st) : zG F k n Γ h pc ls (zR x :: zI i :: zR r :: st) := by
  intro p e s m args below meth c H locs lsr hB hl hlv hst hW hS hA
  rw [List.map_cons, List.map_cons, List.map_cons, zref hk, zref hx]
  have hi : zo32 i := zvh (zvt hst)
  refine va_astq (cl := vwCl) (r := (zCn 1, zT 1, zN 1)) hB.1 hB.2.1 hW.2.2.1 hW.2.1 hW.2.2.2 hS (r - 1) 5 (x - 1) 1 (zws_at h hk) (zty_at (by decide)) (zws_at h hx) (zcl_at 1 (by decide)) (zvpin hi h0 h1) hd (fun H1 locs1 hP1 hD1 hS1 => ?_)
  have e1 : (zws Γ h).set (r - 1) (zad Γ r, .inl (zcA Γ 5, len, .inr (.inr (.inr (.inr (va_up (fun j => zro Γ ((zsr Γ r j).getD (h r j).toNat)) (Int32.ofInt i).toNatClampNeg (some (zad Γ x)))))))) = zws Γ (zup h r i.toNat (x : Nat)) := by
    rw [zws_set hk, z32cl hi]
    congr 2
    show _ = (Sum.inl (zcA Γ 5, len, Sum.inr (Sum.inr (Sum.inr (Sum.inr fun j => zro Γ ((zsr Γ r j).getD (zup h r i.toNat (x : Nat) r j).toNat))))) : va_E)
    congr 7
    funext j
    unfold va_up
    by_cases e : j = i.toNat
    · rw [if_pos e, e, hs, zup_rj]
      show some (zad Γ x) = zro Γ ((x : Int).toNat)
      rw [Int.toNat_natCast]
      unfold zro
      rw [if_neg (fun e0 => by rw [e0] at hx; cases hx)]
    · rw [if_neg e, zup_ap, if_neg (fun y => e y.2)]
  have hoc : zoc Γ (zup h r i.toNat (x : Nat) r) (.inr (5, len)) := ⟨(zom_at hW.1 hk).1, fun j hj => by
    rw [zup_ap]
    by_cases e : r = r ∧ j = i.toNat
    · rw [if_pos e]; exact ⟨Int.natCast_nonneg _, by rw [Int.toNat_natCast]; exact zvh hst⟩
    · rw [if_neg e]; exact zom_a hW.1 hk hj⟩
  rw [e1] at hP1 hD1
  exact kk p e s m args below meth c H1 locs1 lsr hB hl hlv (zvt (zvt (zvt hst))) ⟨zom_up hW.1 hk hoc, hP1, hW.2.2.1, hD1⟩ hS1 hA
/-- where an object lies for good may be told by what is held there -/
def zsw (Γ : zC) (S : Nat → Nat → Option Nat) : zC := (zD Γ, zcA Γ, zad Γ, zks Γ, S)
theorem zsw_cell {Γ : zC} {S : Nat → Nat → Option Nat} {r : Nat} {f : Nat → Int} (H : ∀ j, (S r j).getD (f j).toNat = (zsr Γ r j).getD (f j).toNat) (K : zK) : zcell (zsw Γ S) r f K = zcell Γ r f K := by
  cases K with
  | inl ci =>
    show Sum.inr (ci, (List.range (zN ci)).map fun j => zFV (zsw Γ S) (zTc (zTy ci j)) (f j) (S r j)) = Sum.inr (ci, (List.range (zN ci)).map fun j => zFV Γ (zTc (zTy ci j)) (f j) (zsr Γ r j))
    congr 2
    refine List.map_congr_left (fun j _ => ?_)
    unfold zFV
    split
    · rfl
    · split
      · rw [H j]; rfl
      · rfl
  | inr y =>
    obtain ⟨t, n⟩ := y
    show Sum.inl (zcA Γ t, n, if t ≤ 2 then _ else if t = 3 then _ else _) = Sum.inl (zcA Γ t, n, if t ≤ 2 then _ else if t = 3 then _ else _)
    congr 3
    split
    · rfl
    · split
      · rfl
      · congr 4
        funext j
        rw [show zsr (zsw Γ S) r j = S r j from rfl, H j]; rfl
theorem z_sr {F : zF} {k n : Nat} {Γ : zC} {h : zM} {pc : Nat} {ls : List (Option zV)} {st : List zV} {S : Nat → Nat → Option Nat} (H : ∀ r, 1 ≤ r → r ≤ (zks Γ).length → ∀ j, (S r j).getD (h r j).toNat = (zsr Γ r j).getD (h r j).toNat) (kk : zG F k n (zsw Γ S) h pc ls st) : zG F k n Γ h pc ls st := by
  intro p e s m args below meth c H0 locs lsr hB hl hlv hst hW hS hA
  have e1 : zws (zsw Γ S) h = zws Γ h := by
    unfold zws
    refine List.map_congr_left (fun i hi => ?_)
    have hi2 := List.mem_range.mp hi
    show (zad Γ (i + 1), zcell (zsw Γ S) (i + 1) (h (i + 1)) _) = _
    rw [zsw_cell (fun j => H (i + 1) (by omega) hi2 j)]
    rfl
  exact kk p e s m args below meth c H0 locs lsr hB hl hlv hst ⟨hW.1, by rw [e1]; exact hW.2.1, hW.2.2.1, by rw [e1]; exact hW.2.2.2⟩ hS hA
theorem zsw_ext (Γ : zC) (S : Nat → Nat → Option Nat) : zext Γ (zsw Γ S) := ⟨rfl, rfl, fun _ h => ⟨rfl, h⟩⟩
