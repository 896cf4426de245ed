/-! more objects at once -/
theorem zgr_cell {Γ Γ' : zC} {K : zK} {r : Nat} {f : Nat → Int} {b : Nat} {cl : List vw_C} {H : Heap} {D : va_G} (hcA : zcA Γ' = zcA Γ) (hsr : ∀ j, zsr Γ' r j = zsr Γ r j) (had : ∀ q, zvr Γ q → zad Γ' q = zad Γ q) (hr : r ≤ (zks Γ).length) (hsv : zsv Γ) (hoc : zoc Γ f K) (hv : va_at D cl (b, zcell Γ r f K) H) : va_at D cl (b, zcell Γ' r f K) H := by
  have hrv : ∀ (j : Nat) (x : Int), 0 ≤ x ∧ zvr Γ x.toNat → zvr Γ ((zsr Γ r j).getD x.toNat) := fun j x hx => by
    cases e : zsr Γ r j with
    | none => exact hx.2
    | some p => exact hsv r j p hr e
  have hrf : ∀ q, zvr Γ q → zrf Γ' q = zrf Γ q := fun q hq => by unfold zrf; rw [had q hq]
  cases K with
  | inl ci =>
    have e : zcell Γ' r f (.inl ci) = zcell Γ r f (.inl ci) := by
      show Sum.inr (ci, (List.range (zN ci)).map fun j => zFV Γ' (zTc (zTy ci j)) (f j) (zsr Γ' r j)) = Sum.inr (ci, (List.range (zN ci)).map fun j => zFV Γ (zTc (zTy ci j)) (f j) (zsr Γ r j))
      congr 2
      refine List.map_congr_left (fun j hj => ?_)
      have hj2 := List.mem_range.mp hj
      have h9 := hoc j hj2
      rw [hsr j]
      unfold zFV
      by_cases e3 : zTc (zTy ci j) = 3
      · rw [if_pos e3, if_pos e3]
      · rw [if_neg e3, if_neg e3]
        by_cases e9 : zTc (zTy ci j) = 9
        · rw [if_pos e9, if_pos e9]
          rw [e9] at h9
          exact hrf _ (hrv j _ h9)
        · rw [if_neg e9, if_neg e9]
    rw [e]; exact hv
  | inr y =>
    obtain ⟨t, n⟩ := y
    by_cases h2 : t ≤ 2
    · have e : zcell Γ' r f (.inr (t, n)) = zcell Γ r f (.inr (t, n)) := by
        show Sum.inl (zcA Γ' t, n, if t ≤ 2 then _ else _) = Sum.inl (zcA Γ t, n, if t ≤ 2 then _ else _)
        rw [if_pos h2, if_pos h2, hcA]
      rw [e]; exact hv
    · by_cases h3 : t = 3
      · have e : zcell Γ' r f (.inr (t, n)) = zcell Γ r f (.inr (t, n)) := by
          show Sum.inl (zcA Γ' t, n, if t ≤ 2 then _ else if t = 3 then _ else _) = Sum.inl (zcA Γ t, n, if t ≤ 2 then _ else if t = 3 then _ else _)
          rw [if_neg h2, if_neg h2, if_pos h3, if_pos h3, hcA]
        rw [e]; exact hv
      · unfold zcell at hv ⊢
        simp only [if_neg h2, if_neg h3] at hv ⊢
        have hv2 : H[b]? = some (arrV (zcA Γ t) n (fun j => va_rf (zro Γ ((zsr Γ r j).getD (f j).toNat)))) := hv
        show H[b]? = some (arrV (zcA Γ' t) n (fun j => va_rf (zro Γ' ((zsr Γ' r j).getD (f j).toNat))))
        rw [hv2, hcA]
        congr 1
        refine zarrV_cg (fun j hj => ?_)
        have h9 : 0 ≤ f j ∧ zvr Γ (f j).toNat := by
          have h8 := hoc.2 j hj
          match t, h2, h3, h8 with
          | 0, h2, _, _ => exact absurd (by decide) h2
          | 1, h2, _, _ => exact absurd (by decide) h2
          | 2, h2, _, _ => exact absurd (by decide) h2
          | 3, _, h3, _ => exact absurd rfl h3
          | t + 4, _, _, h8 => exact h8
        rw [hsr j, zro_rf, zro_rf, hrf _ (hrv j _ h9)]
theorem zgr_oc {Γ Γ' : zC} {K : zK} {f : Nat → Int} (hv : ∀ q, zvr Γ q → zvr Γ' q) (h : zoc Γ f K) : zoc Γ' f K := by
  have key : ∀ c x, zokF Γ c x → zokF Γ' c x := fun c x hx => by
    match c, hx with
    | 0, hx => exact hx
    | 1, hx => exact hx
    | 2, hx => exact hx
    | 3, hx => exact hx
    | c + 4, hx => exact ⟨hx.1, hv _ hx.2⟩
  cases K with
  | inl ci => exact fun j hj => key _ _ (h j hj)
  | inr y => exact ⟨h.1, fun j hj => key _ _ (h.2 j hj)⟩
theorem zWd_grow {Γ Γ' : zC} {h h' : zM} {A : Nat → Prop} {H1 : Heap} {s : State} {L : List zK} {B : Nat} (hx : zext Γ Γ') (hsv : zsv Γ) (hks : zks Γ' = zks Γ ++ L) (hsr : ∀ r j, r ≤ (zks Γ).length → zsr Γ' r j = zsr Γ r j) (hh : ∀ r, r ≤ (zks Γ).length → h' r = h r) (hom : zom Γ h) (hK : va_K (zD Γ) vwCl (ztys Γ) s) (hP : va_P (zD Γ) vwCl (zws Γ h) H1) (hD : va_D A (zws Γ h))
    (hn : ∀ i x, L[i]? = some x → zoc Γ' (h' ((zks Γ).length + 1 + i)) x ∧ va_at (zD Γ) vwCl (zad Γ' ((zks Γ).length + 1 + i), zcell Γ' ((zks Γ).length + 1 + i) (h' ((zks Γ).length + 1 + i)) x) H1 ∧ A (zad Γ' ((zks Γ).length + 1 + i)) ∧ zad Γ' ((zks Γ).length + 1 + i) = B + i)
    (hold : ∀ k, k < (zks Γ).length → zad Γ (k + 1) < B) : zWd Γ' h' A H1 s := by
  have hlen : (zks Γ').length = (zks Γ).length + L.length := by rw [hks, List.length_append]
  have hkO : ∀ k, k < (zks Γ).length → (zks Γ')[k]? = (zks Γ)[k]? := fun k hk => by rw [hks, List.getElem?_append_left hk]
  have hkN : ∀ i, (zks Γ')[(zks Γ).length + i]? = L[i]? := fun i => by rw [hks, List.getElem?_append_right (by omega), show (zks Γ).length + i - (zks Γ).length = i by omega]
  have hws : ∀ (k : Nat) (p : Nat × va_E), (zws Γ' h')[k]? = some p → ∃ x, (zks Γ')[k]? = some x ∧ p = (zad Γ' (k + 1), zcell Γ' (k + 1) (h' (k + 1)) x) := by
    intro k p hp
    have hk : k < (zks Γ').length := by
      have h9 := (List.getElem?_eq_some_iff.mp hp).1
      unfold zws at h9
      simpa using h9
    have hkk : (zks Γ')[k]? = some ((zks Γ')[k]) := List.getElem?_eq_getElem hk
    have h2 := zws_at h' (Γ := Γ') (r := k + 1) hkk
    rw [show k + 1 - 1 = k by omega, hp] at h2
    exact ⟨_, hkk, Option.some.inj h2⟩
  have hadO : ∀ k, k < (zks Γ).length → zad Γ' (k + 1) = zad Γ (k + 1) := fun k hk => (hx.2.2 (k + 1) (Or.inl hk)).1
  have hadN : ∀ k, (zks Γ).length ≤ k → k < (zks Γ').length → zad Γ' (k + 1) = B + (k - (zks Γ).length) := fun k h1 h2 => by
    have h3 := (hn (k - (zks Γ).length) _ (List.getElem?_eq_getElem (by omega))).2.2.2
    rw [show (zks Γ).length + 1 + (k - (zks Γ).length) = k + 1 by omega] at h3
    exact h3
  refine ⟨fun k x hxk => ?_, fun k p hp => ?_, ?_, ⟨fun i j p1 p2 h1 h2 e => ?_, fun k p hp => ?_⟩⟩
  · by_cases e : k < (zks Γ).length
    · rw [hkO k e] at hxk
      rw [hh (k + 1) e]
      exact zgr_oc (fun q hq => (hx.2.2 q hq).2) (hom k x hxk)
    · have e2 : k = (zks Γ).length + (k - (zks Γ).length) := by omega
      rw [e2, hkN] at hxk
      have h3 := (hn _ _ hxk).1
      rw [show (zks Γ).length + 1 + (k - (zks Γ).length) = k + 1 by omega] at h3
      exact h3
  · obtain ⟨x, hxk, rfl⟩ := hws k p hp
    rw [hx.1]
    by_cases e : k < (zks Γ).length
    · rw [hkO k e] at hxk
      rw [hadO k e, hh (k + 1) e]
      have h4 := hP k _ (by have h5 := zws_at h (Γ := Γ) (r := k + 1) hxk; rw [show k + 1 - 1 = k by omega] at h5; exact h5)
      exact zgr_cell hx.2.1 (fun j => hsr (k + 1) j e) (fun q hq => (hx.2.2 q hq).1) e hsv (zom_at hom (r := k + 1) hxk) h4
    · have e2 : k = (zks Γ).length + (k - (zks Γ).length) := by omega
      rw [e2, hkN] at hxk
      have h3 := (hn _ _ hxk).2.1
      rw [show (zks Γ).length + 1 + (k - (zks Γ).length) = k + 1 by omega] at h3
      exact h3
  · rw [hx.1, show ztys Γ' = ztys Γ by unfold ztys; rw [hx.2.1]]
    exact hK
  · obtain ⟨x1, g1, rfl⟩ := hws i p1 h1
    obtain ⟨x2, g2, rfl⟩ := hws j p2 h2
    have l1 := (List.getElem?_eq_some_iff.mp g1).1
    have l2 := (List.getElem?_eq_some_iff.mp g2).1
    have e' : zad Γ' (i + 1) = zad Γ' (j + 1) := e
    by_cases c1 : i < (zks Γ).length <;> by_cases c2 : j < (zks Γ).length
    · rw [hadO i c1, hadO j c2] at e'
      rw [hkO i c1] at g1
      rw [hkO j c2] at g2
      exact hD.1 i j _ _ (by have h5 := zws_at h (Γ := Γ) (r := i + 1) g1; rw [show i + 1 - 1 = i by omega] at h5; exact h5) (by have h5 := zws_at h (Γ := Γ) (r := j + 1) g2; rw [show j + 1 - 1 = j by omega] at h5; exact h5) e'
    · rw [hadO i c1, hadN j (by omega) l2] at e'
      have := hold i c1
      omega
    · rw [hadO j c2, hadN i (by omega) l1] at e'
      have := hold j c2
      omega
    · rw [hadN i (by omega) l1, hadN j (by omega) l2] at e'
      omega
  · obtain ⟨x, hxk, rfl⟩ := hws k p hp
    by_cases e : k < (zks Γ).length
    · rw [hkO k e] at hxk
      show A (zad Γ' (k + 1))
      rw [hadO k e]
      exact hD.2 k _ (by have h5 := zws_at h (Γ := Γ) (r := k + 1) hxk; rw [show k + 1 - 1 = k by omega] at h5; exact h5)
    · have e2 : k = (zks Γ).length + (k - (zks Γ).length) := by omega
      rw [e2, hkN] at hxk
      have h3 := (hn _ _ hxk).2.2.1
      rw [show (zks Γ).length + 1 + (k - (zks Γ).length) = k + 1 by omega] at h3
      exact h3
theorem zAOv {Γ : zC} {A : Nat → Prop} {s : State} (h : zSt Γ A s) {ty : FieldType} (hw : Cond.arrayOver ty ∈ lw_tbl) (args : Array Value) : (Cond.arrayOver ty).before args s = true := by
  obtain ⟨sL, aL, a1, a2, a3, a4, a5, a6⟩ := h
  show (Cond.arrayOver ty).before aL (sL.setVm s.vm) = true
  rw [Cond.arrayOver_setVmC a3.alike]
  exact a2 _ hw
theorem zao1 : Cond.arrayOver (.array .int) ∈ lw_tbl := by decide +kernel
theorem zao2 : Cond.arrayOver (.object "TabooIsles$Custom") ∈ lw_tbl := by decide +kernel
def zmH (b : Nat) (h : zM) : zM := fun r j => if r = b + 1 then ((b + 2 + j : Nat) : Int) else if b < r then 0 else h r j
def zmL (N K : Nat) : List zK := .inr (4, N) :: List.replicate N (.inr (0, K))
set_option maxHeartbeats 1000000 in
theorem z_multi {F : zF} {k n : Nat} {Γ : zC} {h : zM} {pc : Nat} {ls : List (Option zV)} {st : List zV} {idx N K : Nat} (hd : decode F.2.1.2.1 pc = .ok (.multianewarray idx 2, 4)) (hcl : Cond.classLink F.2.1.1.cls idx "[[I" ∈ zTB) (hN : N ≤ 1000) (hK9 : K ≤ 1000) (hc : k + (1 + N) ≤ F.2.2.1.cells) (hs : n + (N + N * K) ≤ F.2.2.1.slots) (hl9 : (zks Γ).length < 900000) (hsv : zsv Γ)
    (kk : ∀ Γ', zext Γ Γ' → (∀ r j, r ≤ (zks Γ).length → zsr Γ' r j = zsr Γ r j) → (∀ r j, (zks Γ).length < r → zsr Γ' r j = none) → zks Γ' = zks Γ ++ zmL N K → zG F (k + 1 + N) (n + N + N * K) Γ' (zmH (zks Γ).length h) (pc + 4) ls (zR ((zks Γ).length + 1) :: st)) : zG F k n Γ h pc ls (zI (K : Nat) :: zI (N : Nat) :: st) := by
  intro p e s m args below meth c H locs lsr hB hl hlv hst hW hS hA
  have hts := hB.2.2.2.2.2.1
  have oN : zo32 (N : Nat) := by constructor <;> omega
  have oK : zo32 (K : Nat) := by constructor <;> omega
  have eN : (Int32.ofInt ((N : Nat) : Int)).toNatClampNeg = N := by rw [z32cl oN, Int.toNat_natCast]
  have eK : (Int32.ofInt ((K : Nat) : Int)).toNatClampNeg = K := by rw [z32cl oK, Int.toNat_natCast]
  rw [List.map_cons, List.map_cons]
  refine vm_multi (N := Int32.ofInt ((N : Nat) : Int)) (K := Int32.ofInt ((K : Nat) : Int)) hB.1 hB.2.1 hB.2.2.2.2.1 (hts _ hcl) (zAOv hA.2 zao1 args) (hts _ zaI) hd (by rw [show (0 : Int32) = Int32.ofInt 0 from rfl, z32lt oN (by decide)]; omega) (by rw [show (0 : Int32) = Int32.ofInt 0 from rfl, z32lt oK (by decide)]; omega) (by rw [eN]; exact hN) (by rw [eK]; exact hK9) (by rw [eN]; exact hc) (by rw [eN, eK]; exact hs) (fun H' cA comp f1 f2 z1 o1 eO eI => ?_)
  rw [eN] at z1 eO eI
  rw [eK] at eI
  rw [eN, eK]
  have ecA : cA = zcA Γ 4 := Option.some.inj (f1.symm.trans (hW.2.2.1.2 4 _ (zty_at (by decide))).2)
  have ecB : comp = zcA Γ 0 := Option.some.inj (f2.symm.trans (hW.2.2.1.2 0 _ (zty_at (by decide))).2)
  rw [ecA] at eO
  rw [ecB] at eI
  obtain ⟨Γ', hΓ⟩ : ∃ Γ' : zC, Γ' = (zD Γ, zcA Γ, fun r => if (zks Γ).length < r ∧ r ≤ (zks Γ).length + 1 + N then H.size + (r - (zks Γ).length - 1) else zad Γ r, zks Γ ++ zmL N K, fun r j => if (zks Γ).length < r then none else zsr Γ r j) := ⟨_, rfl⟩
  have hks : zks Γ' = zks Γ ++ zmL N K := by rw [hΓ]
  have hlL : (zmL N K).length = 1 + N := by unfold zmL; rw [List.length_cons, List.length_replicate]; omega
  have had : ∀ r, (zks Γ).length < r → r ≤ (zks Γ).length + 1 + N → zad Γ' r = H.size + (r - (zks Γ).length - 1) := fun r h1 h2 => by rw [hΓ]; exact if_pos ⟨h1, h2⟩
  have hx : zext Γ Γ' := by
    refine ⟨by rw [hΓ], by rw [hΓ], fun r hr => ⟨by rw [hΓ]; exact if_neg (by rcases hr with h9 | h9 <;> omega), ?_⟩⟩
    rcases hr with h9 | h9
    · left; rw [hks, List.length_append]; omega
    · exact Or.inr h9
  have hs1 : ∀ r j, r ≤ (zks Γ).length → zsr Γ' r j = zsr Γ r j := fun r j hr => by rw [hΓ]; exact if_neg (by omega)
  have hs2 : ∀ r j, (zks Γ).length < r → zsr Γ' r j = none := fun r j hr => by rw [hΓ]; exact if_pos hr
  have hkp : ∀ (k : Nat) (x : Nat × va_E), (zws Γ h)[k]? = some x → H'[x.1]? = H[x.1]? := fun k x hx => o1 x.1 ((hW.2.1 k x hx).lt)
  have hW' : zWd Γ' (zmH (zks Γ).length h) (F.2.2.2.1 s) H' s := by
    refine zWd_grow (B := H.size) hx hsv hks hs1 (fun r hr => ?_) hW.1 hW.2.2.1 (hW.2.1.kept hkp) hW.2.2.2 (fun i x hi => ?_) (fun k hk => ?_)
    · funext j
      unfold zmH
      rw [if_neg (by omega), if_neg (by omega)]
    · have hi9 : i < 1 + N := by rw [← hlL]; exact (List.getElem?_eq_some_iff.mp hi).1
      have ha : zad Γ' ((zks Γ).length + 1 + i) = H.size + i := by rw [had _ (by omega) (by omega)]; omega
      refine ⟨?_, ?_, by rw [ha]; exact hA.1 _ (by have := hS.1; omega), ha⟩
      · cases i with
        | zero =>
          cases hi
          refine ⟨by omega, fun j hj => ?_⟩
          show 0 ≤ zmH _ _ _ _ ∧ zvr Γ' _
          have e1 : zmH (zks Γ).length h ((zks Γ).length + 1 + 0) j = (((zks Γ).length + 2 + j : Nat) : Int) := if_pos rfl
          rw [e1, Int.toNat_natCast]
          exact ⟨Int.natCast_nonneg _, Or.inl (by rw [hks, List.length_append, hlL]; omega)⟩
        | succ i =>
          have hi2 : (List.replicate N (.inr (0, K) : zK))[i]? = some x := hi
          rw [List.getElem?_replicate] at hi2
          rw [if_pos (by omega)] at hi2
          cases hi2
          refine ⟨by omega, fun j hj => ?_⟩
          have e1 : zmH (zks Γ).length h ((zks Γ).length + 1 + (i + 1)) j = 0 := by unfold zmH; rw [if_neg (by omega), if_pos (by omega)]
          rw [e1]
          exact (by decide : zo32 0)
      · rw [ha]
        cases i with
        | zero =>
          cases hi
          have e1 : ∀ j, zmH (zks Γ).length h ((zks Γ).length + 1 + 0) j = (((zks Γ).length + 2 + j : Nat) : Int) := fun j => if_pos rfl
          show H'[H.size + 0]? = some (arrV (zcA Γ' 4) N (fun j => va_rf (zro Γ' ((zsr Γ' ((zks Γ).length + 1 + 0) j).getD (zmH (zks Γ).length h ((zks Γ).length + 1 + 0) j).toNat))))
          rw [Nat.add_zero H.size, eO, hx.2.1]
          congr 1
          refine zarrV_cg (fun j hj => ?_)
          rw [hs2 _ _ (by omega), Option.getD_none, e1, Int.toNat_natCast, zro_rf]
          unfold zrf
          rw [if_neg (by omega), had _ (by omega) (by omega), show H.size + ((zks Γ).length + 2 + j - (zks Γ).length - 1) = H.size + 1 + j by omega]
        | succ i =>
          have hi2 : (List.replicate N (.inr (0, K) : zK))[i]? = some x := hi
          rw [List.getElem?_replicate] at hi2
          rw [if_pos (by omega)] at hi2
          cases hi2
          have e1 : ∀ j, zmH (zks Γ).length h ((zks Γ).length + 1 + (i + 1)) j = 0 := fun j => by unfold zmH; rw [if_neg (by omega), if_pos (by omega)]
          show H'[H.size + (i + 1)]? = some (arrV (zcA Γ' 0) K (fun j => .int (Int32.ofInt (zmH (zks Γ).length h ((zks Γ).length + 1 + (i + 1)) j))))
          rw [show H.size + (i + 1) = H.size + 1 + i by omega, eI i (by omega), hx.2.1]
          congr 1
          refine zarrV_cg (fun j hj => ?_)
          rw [e1]
          rfl
    · have h9 := zws_at (Γ := Γ) h (r := k + 1) (q := (zks Γ)[k]) (by show (zks Γ)[k]? = _; rw [List.getElem?_eq_getElem hk])
      exact (hW.2.1 _ _ h9).lt
  have hS' : va_S (F.2.2.2.1 s) s.heap H' (locs ++ (List.range N).map fun j => ⟨H.size, j⟩) := ⟨by have := hS.1; omega, fun q h1 h2 => (o1 q (Nat.lt_of_lt_of_le h1 hS.1)).trans (hS.2.1 q h1 h2), fun x hx9 => by
    rcases List.mem_append.mp hx9 with h9 | h9
    · exact hS.2.2 x h9
    · obtain ⟨j, -, rfl⟩ := List.mem_map.mp h9
      exact hA.1 _ hS.1⟩
  obtain ⟨em, ho⟩ := zext_l hx (zvt (zvt hst))
  have hov : zov Γ' (zR ((zks Γ).length + 1)) := Or.inl (by rw [hks, List.length_append, hlL]; omega)
  have h9 := kk Γ' hx hs1 hs2 hks p e s m args below meth c H' _ lsr hB (zmv_loc hx hl hlv) (fun v hv => (zext_v hx (hlv v hv)).2) (zv2 hov ho) hW' hS' ⟨hA.1, zmv_st hx hA.2⟩
  have ek : zval Γ' (zR ((zks Γ).length + 1)) = .ref H.size := by
    show zrf Γ' _ = _
    unfold zrf
    rw [if_neg (by omega), had _ (by omega) (by omega), show H.size + ((zks Γ).length + 1 - (zks Γ).length - 1) = H.size by omega]
  rw [List.map_cons, ek, em] at h9
  exact h9
theorem z_anew {F : zF} {k n : Nat} {Γ : zC} {h : zM} {pc : Nat} {ls : List (Option zV)} {st : List zV} {idx N : Nat} (hd : decode F.2.1.2.1 pc = .ok (.anewarray idx, 3)) (hcl : Cond.classLink F.2.1.1.cls idx "TabooIsles$Custom" ∈ zTB) (hN : N ≤ 1000) (hc : k + 1 ≤ F.2.2.1.cells) (hs : n + N ≤ F.2.2.1.slots) (hl9 : (zks Γ).length < 900000) (hsv : zsv Γ)
    (kk : ∀ a, zG F (k + 1) (n + N) (zpu Γ (.inr (5, N)) a) (zrw h ((zks Γ).length + 1) (fun _ => 0)) (pc + 3) ls (zR ((zks Γ).length + 1) :: st)) : zG F k n Γ h pc ls (zI (N : Nat) :: st) := by
  intro p e s m args below meth c H locs lsr hB hl hlv hst hW hS hA
  have hts := hB.2.2.2.2.2.1
  have oN : zo32 (N : Nat) := by constructor <;> omega
  have eN : (Int32.ofInt ((N : Nat) : Int)).toNatClampNeg = N := by rw [z32cl oN, Int.toNat_natCast]
  rw [List.map_cons]
  refine va_newq hB.1 hB.2.1 hB.2.2.2.2.1 (hts _ hcl) (va_AO.of (zAOv hA.2 zao2 args)) hW.2.2.1 hW.2.1 hW.2.2.2 hS hA.1 (n := Int32.ofInt ((N : Nat) : Int)) (N' := N) (by rw [show (0 : Int32) = Int32.ofInt 0 from rfl, z32lt oN (by decide)]; omega) eN (by omega) hc hs hd (fun q cA H1 hK hP hD hS1 => ?_)
  have e6 : (ztys Γ).length = 6 := by simp [ztys]
  have g1 := (hK.2 6 (cA, .object "TabooIsles$Custom") (by rw [List.getElem?_append_right (by omega), e6]; rfl)).2
  have g2 := (hW.2.2.1.2 5 _ (zty_at (by decide))).2
  have ecA : cA = zcA Γ 5 := by
    obtain ⟨_, _, _, _, _, x1⟩ := g1
    obtain ⟨_, _, _, _, _, x2⟩ := g2
    exact Option.some.inj (x1.symm.trans x2)
  have hcell : zcell (zpu Γ (.inr (5, N)) q) ((zks Γ).length + 1) (fun _ => 0) (.inr (5, N)) = .inl (zcA Γ 5, N, .inr (.inr (.inr (.inr (fun _ => none))))) := by
    show Sum.inl (zcA Γ 5, N, Sum.inr (Sum.inr (Sum.inr (Sum.inr fun j => zro (zpu Γ (.inr (5, N)) q) ((zsr (zpu Γ (.inr (5, N)) q) ((zks Γ).length + 1) j).getD (0 : Int).toNat))))) = _
    congr 7
    funext j
    rw [zpu_sn]
    rfl
  rw [ecA, ← hcell] at hP hD
  refine z_lay (q := .inr (5, N)) hl9 hsv ⟨by omega, fun j _ => ⟨Int.le_refl _, Or.inl (Nat.zero_le _)⟩⟩ hB hl hlv (zvt hst) hW.1 hW.2.2.1 hP hD hS1 hA (kk q)
