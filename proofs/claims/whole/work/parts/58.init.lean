/-! the constructors: objects in the order of their numbers -/
def zG0 (x : Nat) (Γ : zC) : Prop := (∀ r j, zsr Γ r j = none) ∧ zks Γ = zkb.take x
theorem zG0.kd {x : Nat} {Γ : zC} (G : zG0 x Γ) {r : Nat} {q : zK} (h : zkb0 r = some q) (hr : r ≤ x) : zkd Γ r = some q := by
  cases r with
  | zero => cases h
  | succ k =>
    have h' : zkb[k]? = some q := h
    show (zks Γ)[k]? = some q
    rw [G.2, List.getElem?_take, if_pos (by omega)]
    exact h'
theorem zG0.len {x : Nat} {Γ : zC} (G : zG0 x Γ) (hx : x ≤ 121) : (zks Γ).length = x := by
  rw [G.2, List.length_take, zkb_len]; omega
theorem zG0.sv {x : Nat} {Γ : zC} (G : zG0 x Γ) : zsv Γ := fun r j p _ hs => by rw [G.1] at hs; cases hs
theorem zG0.vr {x : Nat} {Γ : zC} (G : zG0 x Γ) (hx : x ≤ 121) {r : Nat} (h : r ≤ x) : zvr Γ r := Or.inl (by rw [G.len hx]; exact h)
theorem zG0_pu {x : Nat} {Γ : zC} {q : zK} {a : Nat} (G : zG0 x Γ) (hx : x < 121) (hq : zkb[x]? = some q) : zG0 (x + 1) (zpu Γ q a) := by
  refine ⟨fun r j => ?_, ?_⟩
  · show (if _ then none else zsr Γ r j) = none
    rw [G.1]; exact ite_self _
  · show zks Γ ++ [q] = zkb.take (x + 1)
    rw [G.2, List.take_add_one, hq]; rfl
def zln (r : Nat) : Nat := match zkb0 r with
  | some (.inl ci) => zN ci
  | some (.inr (_, n)) => n
  | none => 0
def zv0 (r j : Nat) : Int := match zsrG r j with
  | some q => (q : Int)
  | none => if r = 86 then 1 else if r = 1 ∧ j = 11 then 9 else if r = 89 then (if j = 5 then 90 else if j = 30 then -1 else if j = 32 then 9 else 0) else 0
def zRk (r : Nat) (f : Nat → Int) : Prop := ∀ j, j < zln r → f j = zv0 r j
def zOm (b x : Nat) (h0 h : zM) (f : Nat → Int) : Prop := (∀ q, q < b → h q = h0 q) ∧ (∀ j, h b j = f j) ∧ ∀ q, b < q → q ≤ x → zRk q (h q)
theorem zOm_start {b : Nat} {h0 : zM} (h9 : h0 b = fun _ => 0) : zOm b b h0 h0 (fun _ => 0) := ⟨fun _ _ => rfl, fun j => by rw [h9], fun q h1 h2 => by omega⟩
theorem zOm_lay {b x : Nat} {h0 h : zM} {f g : Nat → Int} (H : zOm b x h0 h f) (hb : b ≤ x) : zOm b x h0 (zrw h (x + 1) g) f := ⟨fun q hq => by rw [zrw_row (by omega)]; exact H.1 q hq, fun j => by rw [zrw_row (by omega)]; exact H.2.1 j, fun q h1 h2 => by rw [zrw_row (by omega)]; exact H.2.2 q h1 h2⟩
theorem zOm_add {b x : Nat} {h0 h : zM} {f : Nat → Int} (H : zOm b x h0 h f) (hr : zRk (x + 1) (h (x + 1))) : zOm b (x + 1) h0 h f := ⟨H.1, H.2.1, fun q h1 h2 => by
  by_cases e : q = x + 1
  · rw [e]; exact hr
  · exact H.2.2 q h1 (by omega)⟩
theorem zOm_put {b x j : Nat} {h0 h : zM} {f : Nat → Int} {v : Int} (H : zOm b x h0 h f) : zOm b x h0 (zup h b j v) (fun i => if i = j then v else f i) := ⟨fun q hq => by rw [zup_row (by omega)]; exact H.1 q hq, fun i => by
  show zup h b j v b i = if i = j then v else f i
  rw [zup_ap]
  by_cases e : i = j
  · rw [if_pos ⟨rfl, e⟩, if_pos e]
  · rw [if_neg (fun y => e y.2), if_neg e]; exact H.2.1 i, fun q h1 h2 => by rw [zup_row (by omega)]; exact H.2.2 q h1 h2⟩
theorem zOm_multi {b x N : Nat} {h0 h : zM} {f : Nat → Int} (H : zOm b x h0 h f) (hb : b ≤ x) (hO : zRk (x + 1) (fun j => ((x + 2 + j : Nat) : Int))) (hI : ∀ i, i < N → zRk (x + 2 + i) (fun _ => 0)) : zOm b (x + 1 + N) h0 (zmH x h) f := by
  have e0 : ∀ q, q ≤ x → zmH x h q = h q := fun q hq => by
    funext j; unfold zmH; rw [if_neg (by omega), if_neg (by omega)]
  refine ⟨fun q hq => by rw [e0 q (by omega)]; exact H.1 q hq, fun j => by rw [e0 b hb]; exact H.2.1 j, fun q h1 h2 => ?_⟩
  by_cases c1 : q ≤ x
  · rw [e0 q c1]; exact H.2.2 q h1 c1
  · by_cases c2 : q = x + 1
    · subst c2
      rw [show zmH x h (x + 1) = (fun j => ((x + 2 + j : Nat) : Int)) from funext (fun j => if_pos rfl)]
      exact hO
    · have h3 := hI (q - (x + 2)) (by omega)
      rw [show x + 2 + (q - (x + 2)) = q by omega] at h3
      rw [show zmH x h q = (fun _ => 0) from funext (fun j => by unfold zmH; rw [if_neg c2, if_pos (by omega)])]
      exact h3
theorem zOm_sub {b x x2 : Nat} {h0 h h2 : zM} {f : Nat → Int} (H : zOm b x h0 h f) (hb : b ≤ x) (e1 : ∀ q, q < x + 1 → h2 q = h q) (e2 : ∀ q, x + 1 ≤ q → q ≤ x2 → zRk q (h2 q)) : zOm b x2 h0 h2 f := ⟨fun q hq => by rw [e1 q (by omega)]; exact H.1 q hq, fun j => by rw [e1 b (by omega)]; exact H.2.1 j, fun q h1 h9 => by
  by_cases c : q ≤ x
  · rw [e1 q (by omega)]; exact H.2.2 q h1 c
  · exact e2 q (by omega) h9⟩
theorem zOm_end {b x : Nat} {h0 h : zM} {f : Nat → Int} (H : zOm b x h0 h f) (hr : zRk b f) : ∀ q, b ≤ q → q ≤ x → zRk q (h q) := fun q h1 h2 => by
  by_cases c : q = b
  · subst c
    rw [show h q = f from funext H.2.1]; exact hr
  · exact H.2.2 q (by omega) h2
section ZCR
variable {F : zF} {k n : Nat} {Γ : zC} {h h0 : zM} {pc b x : Nat} {ls : List (Option zV)} {st : List zV} {f : Nat → Int}
theorem z_cP {y : Nat} {idx ci j v : Nat} (G : zG0 y Γ) (M : zOm b x h0 h f) (hx : b ≤ y) (hf : zFld F.2.1.1.cls idx ci j) (hd : decode F.2.1.2.1 pc = .ok (.putfield idx, 3)) (hk : zkb0 b = some (.inl ci)) (hty : (∃ n, zTy ci j = .object n) ∨ ∃ t, zTy ci j = .array t) (hc : zTc (zTy ci j) = 9) (hfin : zfin ci j = true) (hnm : F.2.1.1.name = "<init>") (hdec : (zT ci j).1 = F.2.1.1.cls)
    (kk : ∀ h', zOm b x h0 h' (fun i => if i = j then ((v : Nat) : Int) else f i) → zG F k n Γ h' (pc + 3) ls st) : zG F k n Γ h pc ls (zR v :: zR b :: st) :=
  z_putRF hf hd (G.kd hk hx) hty hc hfin hnm hdec (G.1 b j) (kk _ (zOm_put M))
theorem z_cPn {y : Nat} {idx ci j v : Nat} (G : zG0 y Γ) (M : zOm b x h0 h f) (hx : b ≤ y) (hf : zFld F.2.1.1.cls idx ci j) (hd : decode F.2.1.2.1 pc = .ok (.putfield idx, 3)) (hk : zkb0 b = some (.inl ci)) (hty : (∃ n, zTy ci j = .object n) ∨ ∃ t, zTy ci j = .array t) (hc : zTc (zTy ci j) = 9) (hfin : zfin ci j = false)
    (kk : ∀ h', zOm b x h0 h' (fun i => if i = j then ((v : Nat) : Int) else f i) → zG F k n Γ h' (pc + 3) ls st) : zG F k n Γ h pc ls (zR v :: zR b :: st) :=
  z_putR hf hd (G.kd hk hx) hty hc hfin (G.1 b j) (kk _ (zOm_put M))
theorem z_cPi {y : Nat} {idx ci j : Nat} {v : Int} (G : zG0 y Γ) (M : zOm b x h0 h f) (hx : b ≤ y) (hf : zFld F.2.1.1.cls idx ci j) (hd : decode F.2.1.2.1 pc = .ok (.putfield idx, 3)) (hk : zkb0 b = some (.inl ci)) (hc : zTc (zTy ci j) = 0) (hfin : zfin ci j = false)
    (kk : ∀ h', zOm b x h0 h' (fun i => if i = j then v else f i) → zG F k n Γ h' (pc + 3) ls st) : zG F k n Γ h pc ls (zI v :: zR b :: st) :=
  z_putI hf hd (G.kd hk hx) hc hfin (kk _ (zOm_put M))
theorem z_cG {y : Nat} {idx ci j v : Nat} (G : zG0 y Γ) (M : zOm b x h0 h f) (hx : b ≤ y) (hv : f j = ((v : Nat) : Int)) (hf : zFld F.2.1.1.cls idx ci j) (hd : decode F.2.1.2.1 pc = .ok (.getfield idx, 3)) (hk : zkb0 b = some (.inl ci)) (hc : zTc (zTy ci j) = 9)
    (kk : zG F k n Γ h (pc + 3) ls (zR v :: st)) : zG F k n Γ h pc ls (zR b :: st) := by
  refine z_getQ hf hd (G.kd hk hx) hc (G.1 b j) ?_
  rw [M.2.1 j, hv, Int.toNat_natCast]; exact kk
theorem z_cN {idx ci : Nat} (G : zG0 x Γ) (M : zOm b x h0 h f) (hb : b ≤ x) (hx : x < 121) (hq : zkb[x]? = some (.inl ci)) (hd : decode F.2.1.2.1 pc = .ok (.new idx, 3)) (hci : ci < 10) (hcl : Cond.classLink F.2.1.1.cls idx (zCn ci) ∈ zTB) (hins : Cond.instantiable (zCn ci) (zN ci) ∈ zTB) (hini : Cond.initialized (zCn ci) ∈ zTB) (hc : k + 1 ≤ F.2.2.1.cells) (hs : n + zN ci ≤ F.2.2.1.slots)
    (kk : ∀ Γ' h', zext Γ Γ' → zG0 (x + 1) Γ' → zOm b x h0 h' f → h' (x + 1) = (fun _ => 0) → zG F (k + 1) (n + zN ci) Γ' h' (pc + 3) ls (zR (x + 1) :: st)) : zG F k n Γ h pc ls st := by
  have hl := G.len (by omega)
  refine z_new hd hci hcl hins hini hc hs (by omega) G.sv (fun a => ?_)
  rw [hl]
  exact kk _ _ (zpu_ext (by omega)) (zG0_pu G hx hq) (zOm_lay M hb) zrw_self
theorem z_cAI {N : Nat} (hd : decode F.2.1.2.1 pc = .ok (.newarray .int, 2)) (G : zG0 x Γ) (M : zOm b x h0 h f) (hb : b ≤ x) (hx : x < 121) (hq : zkb[x]? = some (.inr (0, N))) (hN : N ≤ 200000) (hc : k + 1 ≤ F.2.2.1.cells) (hs : n + N ≤ F.2.2.1.slots)
    (kk : ∀ Γ' h', zext Γ Γ' → zG0 (x + 1) Γ' → zOm b x h0 h' f → h' (x + 1) = (fun _ => 0) → zG F (k + 1) (n + N) Γ' h' (pc + 2) ls (zR (x + 1) :: st)) : zG F k n Γ h pc ls (zI ((N : Nat) : Int) :: st) := by
  have hl := G.len (by omega)
  refine z_newI hd (by omega) hc (by rw [Int.toNat_natCast]; exact hs) (by omega) G.sv (fun a => ?_)
  rw [hl, Int.toNat_natCast]
  exact kk _ _ (zpu_ext (by omega)) (zG0_pu G hx hq) (zOm_lay M hb) zrw_self
theorem z_cAZ {N : Nat} (hd : decode F.2.1.2.1 pc = .ok (.newarray .boolean, 2)) (G : zG0 x Γ) (M : zOm b x h0 h f) (hb : b ≤ x) (hx : x < 121) (hq : zkb[x]? = some (.inr (2, N))) (hN : N ≤ 200000) (hc : k + 1 ≤ F.2.2.1.cells) (hs : n + N ≤ F.2.2.1.slots)
    (kk : ∀ Γ' h', zext Γ Γ' → zG0 (x + 1) Γ' → zOm b x h0 h' f → h' (x + 1) = (fun _ => 0) → zG F (k + 1) (n + N) Γ' h' (pc + 2) ls (zR (x + 1) :: st)) : zG F k n Γ h pc ls (zI ((N : Nat) : Int) :: st) := by
  have hl := G.len (by omega)
  refine z_newZ hd (by omega) hc (by rw [Int.toNat_natCast]; exact hs) (by omega) G.sv (fun a => ?_)
  rw [hl, Int.toNat_natCast]
  exact kk _ _ (zpu_ext (by omega)) (zG0_pu G hx hq) (zOm_lay M hb) zrw_self
theorem z_cAB {N : Nat} (hd : decode F.2.1.2.1 pc = .ok (.newarray .byte, 2)) (G : zG0 x Γ) (M : zOm b x h0 h f) (hb : b ≤ x) (hx : x < 121) (hq : zkb[x]? = some (.inr (1, N))) (hN : N ≤ 200000) (hc : k + 1 ≤ F.2.2.1.cells) (hs : n + N ≤ F.2.2.1.slots)
    (kk : ∀ Γ' h', zext Γ Γ' → zG0 (x + 1) Γ' → zOm b x h0 h' f → h' (x + 1) = (fun _ => 0) → zG F (k + 1) (n + N) Γ' h' (pc + 2) ls (zR (x + 1) :: st)) : zG F k n Γ h pc ls (zI ((N : Nat) : Int) :: st) := by
  have hl := G.len (by omega)
  refine z_newB hd (by omega) hc (by rw [Int.toNat_natCast]; exact hs) (by omega) G.sv (fun a => ?_)
  rw [hl, Int.toNat_natCast]
  exact kk _ _ (zpu_ext (by omega)) (zG0_pu G hx hq) (zOm_lay M hb) zrw_self
theorem z_cAJ {N : Nat} (hd : decode F.2.1.2.1 pc = .ok (.newarray .long, 2)) (G : zG0 x Γ) (M : zOm b x h0 h f) (hb : b ≤ x) (hx : x < 121) (hq : zkb[x]? = some (.inr (3, N))) (hN : N ≤ 200000) (hc : k + 1 ≤ F.2.2.1.cells) (hs : n + N ≤ F.2.2.1.slots)
    (kk : ∀ Γ' h', zext Γ Γ' → zG0 (x + 1) Γ' → zOm b x h0 h' f → h' (x + 1) = (fun _ => 0) → zG F (k + 1) (n + N) Γ' h' (pc + 2) ls (zR (x + 1) :: st)) : zG F k n Γ h pc ls (zI ((N : Nat) : Int) :: st) := by
  have hl := G.len (by omega)
  refine z_newJ hd (by omega) hc (by rw [Int.toNat_natCast]; exact hs) (by omega) G.sv (fun a => ?_)
  rw [hl, Int.toNat_natCast]
  exact kk _ _ (zpu_ext (by omega)) (zG0_pu G hx hq) (zOm_lay M hb) zrw_self
theorem z_cAC {N idx : Nat} (hd : decode F.2.1.2.1 pc = .ok (.anewarray idx, 3)) (hcl : Cond.classLink F.2.1.1.cls idx "TabooIsles$Custom" ∈ zTB) (G : zG0 x Γ) (M : zOm b x h0 h f) (hb : b ≤ x) (hx : x < 121) (hq : zkb[x]? = some (.inr (5, N))) (hN : N ≤ 1000) (hc : k + 1 ≤ F.2.2.1.cells) (hs : n + N ≤ F.2.2.1.slots)
    (kk : ∀ Γ' h', zext Γ Γ' → zG0 (x + 1) Γ' → zOm b x h0 h' f → h' (x + 1) = (fun _ => 0) → zG F (k + 1) (n + N) Γ' h' (pc + 3) ls (zR (x + 1) :: st)) : zG F k n Γ h pc ls (zI ((N : Nat) : Int) :: st) := by
  have hl := G.len (by omega)
  refine z_anew hd hcl hN hc hs (by omega) G.sv (fun a => ?_)
  rw [hl]
  exact kk _ _ (zpu_ext (by omega)) (zG0_pu G hx hq) (zOm_lay M hb) zrw_self
theorem z_cM {N K2 idx : Nat} (hd : decode F.2.1.2.1 pc = .ok (.multianewarray idx 2, 4)) (hcl : Cond.classLink F.2.1.1.cls idx "[[I" ∈ zTB) (G : zG0 x Γ) (M : zOm b x h0 h f) (hb : b ≤ x) (hx : x + 1 + N ≤ 121) (hq : zkb.take x ++ zmL N K2 = zkb.take (x + 1 + N)) (hN : N ≤ 1000) (hK : K2 ≤ 1000) (hc : k + (1 + N) ≤ F.2.2.1.cells) (hs : n + (N + N * K2) ≤ F.2.2.1.slots) (hO : zRk (x + 1) (fun j => ((x + 2 + j : Nat) : Int))) (hI : ∀ i, i < N → zRk (x + 2 + i) (fun _ => 0))
    (kk : ∀ Γ' h', zext Γ Γ' → zG0 (x + 1 + N) Γ' → zOm b (x + 1 + N) h0 h' f → zG F (k + 1 + N) (n + N + N * K2) Γ' h' (pc + 4) ls (zR (x + 1) :: st)) : zG F k n Γ h pc ls (zI ((K2 : Nat) : Int) :: zI ((N : Nat) : Int) :: st) := by
  have hl := G.len (by omega)
  refine z_multi hd hcl hN hK hc hs (by omega) G.sv (fun Γ' X h1 h2 h3 => ?_)
  rw [hl] at h1 h2 ⊢
  refine kk Γ' _ X ⟨fun r j => ?_, ?_⟩ (zOm_multi M hb hO hI)
  · by_cases c : r ≤ x
    · rw [h1 r j c]; exact G.1 r j
    · exact h2 r j (by omega)
  · rw [h3, G.2]; exact hq
end ZCR

theorem zoiX5_3 : Cond.methodLink RX5 3 Lib.objectInit ∈ zTB := by decide +kernel
set_option maxRecDepth 4000 in
theorem X5_init_2 {l : Launch} {Γ : zC} {h : zM} {Q : Option zV → zC → zM → Prop} (G0 : zG0 2 Γ) (hz : h 2 = fun _ => 0) (hQ : ∀ Γ' h', zext Γ Γ' → zG0 3 Γ' → (∀ q, q < 2 → h' q = h q) → (∀ q, 2 ≤ q → q ≤ 3 → zRk q (h' q)) → Q none Γ' h') : zCT l mX5_init 1 1 160 Γ [zR 2] h Q := by
  refine zCT_of (by decide) (Nat.le_of_ble_eq_true rfl) (ls := [some (zR 2)]) rfl ?_
  have M0 := zOm_start hz
  refine z_al0 dX5_init_0 (by decide) ?_
  refine z_objI dX5_init_1 zoiX5_3 (G0.kd (r := 2) rfl (Nat.le_of_ble_eq_true rfl)) (Nat.le_of_ble_eq_true rfl) (Nat.le_of_ble_eq_true rfl) (by decide) ?_
  refine z_al0 dX5_init_4 (by decide) ?_
  refine z_sipush (x := ((160 : Nat) : Int)) dX5_init_5 (by rfl) (by decide) ?_
  refine z_cAI (N := 160) dX5_init_8 G0 M0 (Nat.le_of_ble_eq_true rfl) (Nat.le_of_ble_eq_true rfl) rfl (Nat.le_of_ble_eq_true rfl) (Nat.le_of_ble_eq_true rfl) (Nat.le_of_ble_eq_true rfl) (fun Γ1 h1 X1 G1 L1 Z1 => ?_)
  have Y1 := zext_tr (zext_rf _) X1
  have M1 := zOm_add L1 (by rw [Z1]; exact (fun _ _ => rfl))
  refine z_cP G1 M1 (Nat.le_of_ble_eq_true rfl) zfX5_9 dX5_init_10 rfl (Or.inr ⟨_, rfl⟩) rfl rfl rfl rfl (fun k1 N1 => ?_)
  refine z_ret dX5_init_13 rfl (Nat.le_of_ble_eq_true rfl) (Nat.le_of_ble_eq_true rfl) Y1 ?_
  exact hQ _ _ Y1 G1 N1.1 (zOm_end N1 (by unfold zRk; decide +kernel))
theorem zoiX0_3 : Cond.methodLink RX0 3 Lib.objectInit ∈ zTB := by decide +kernel
theorem zclX0_15 : Cond.classLink RX0 15 "[[I" ∈ zTB := by decide +kernel
set_option maxRecDepth 4000 in
theorem X0_init_4 {l : Launch} {Γ : zC} {h : zM} {Q : Option zV → zC → zM → Prop} (G0 : zG0 4 Γ) (hz : h 4 = fun _ => 0) (hQ : ∀ Γ' h', zext Γ Γ' → zG0 12 Γ' → (∀ q, q < 4 → h' q = h q) → (∀ q, 4 ≤ q → q ≤ 12 → zRk q (h' q)) → Q none Γ' h') : zCT l mX0_init 1 8 48 Γ [zR 4] h Q := by
  refine zCT_of (by decide) (Nat.le_of_ble_eq_true rfl) (ls := [some (zR 4)]) rfl ?_
  have M0 := zOm_start hz
  refine z_al0 dX0_init_0 (by decide) ?_
  refine z_objI dX0_init_1 zoiX0_3 (G0.kd (r := 4) rfl (Nat.le_of_ble_eq_true rfl)) (Nat.le_of_ble_eq_true rfl) (Nat.le_of_ble_eq_true rfl) (by decide) ?_
  refine z_al0 dX0_init_4 (by decide) ?_
  refine z_bipush (x := ((6 : Nat) : Int)) dX0_init_5 (by rfl) (by decide) ?_
  refine z_cAI (N := 6) dX0_init_7 G0 M0 (Nat.le_of_ble_eq_true rfl) (Nat.le_of_ble_eq_true rfl) rfl (Nat.le_of_ble_eq_true rfl) (Nat.le_of_ble_eq_true rfl) (Nat.le_of_ble_eq_true rfl) (fun Γ1 h1 X1 G1 L1 Z1 => ?_)
  have Y1 := zext_tr (zext_rf _) X1
  have M1 := zOm_add L1 (by rw [Z1]; exact (fun _ _ => rfl))
  refine z_cP G1 M1 (Nat.le_of_ble_eq_true rfl) zfX0_9 dX0_init_9 rfl (Or.inr ⟨_, rfl⟩) rfl rfl rfl rfl (fun k1 N1 => ?_)
  refine z_al0 dX0_init_12 (by decide) ?_
  refine z_bipush (x := ((6 : Nat) : Int)) dX0_init_13 (by rfl) (by decide) ?_
  refine z_bipush (x := ((6 : Nat) : Int)) dX0_init_15 (by rfl) (by decide) ?_
  refine z_cM (N := 6) (K2 := 6) dX0_init_17 zclX0_15 G1 N1 (Nat.le_of_ble_eq_true rfl) (Nat.le_of_ble_eq_true rfl) (by rfl) (Nat.le_of_ble_eq_true rfl) (Nat.le_of_ble_eq_true rfl) (Nat.le_of_ble_eq_true rfl) (Nat.le_of_ble_eq_true rfl) (by unfold zRk; decide +kernel) (by unfold zRk; decide +kernel) (fun Γ2 h2 X2 G2 M2 => ?_)
  have Y2 := zext_tr Y1 X2
  refine z_cP G2 M2 (Nat.le_of_ble_eq_true rfl) zfX0_17 dX0_init_21 rfl (Or.inr ⟨_, rfl⟩) rfl rfl rfl rfl (fun k2 N2 => ?_)
  refine z_ret dX0_init_24 rfl (Nat.le_of_ble_eq_true rfl) (Nat.le_of_ble_eq_true rfl) Y2 ?_
  exact hQ _ _ Y2 G2 N2.1 (zOm_end N2 (by unfold zRk; decide +kernel))
set_option maxRecDepth 4000 in
theorem X0_init_16 {l : Launch} {Γ : zC} {h : zM} {Q : Option zV → zC → zM → Prop} (G0 : zG0 16 Γ) (hz : h 16 = fun _ => 0) (hQ : ∀ Γ' h', zext Γ Γ' → zG0 24 Γ' → (∀ q, q < 16 → h' q = h q) → (∀ q, 16 ≤ q → q ≤ 24 → zRk q (h' q)) → Q none Γ' h') : zCT l mX0_init 1 8 48 Γ [zR 16] h Q := by
  refine zCT_of (by decide) (Nat.le_of_ble_eq_true rfl) (ls := [some (zR 16)]) rfl ?_
  have M0 := zOm_start hz
  refine z_al0 dX0_init_0 (by decide) ?_
  refine z_objI dX0_init_1 zoiX0_3 (G0.kd (r := 16) rfl (Nat.le_of_ble_eq_true rfl)) (Nat.le_of_ble_eq_true rfl) (Nat.le_of_ble_eq_true rfl) (by decide) ?_
  refine z_al0 dX0_init_4 (by decide) ?_
  refine z_bipush (x := ((6 : Nat) : Int)) dX0_init_5 (by rfl) (by decide) ?_
  refine z_cAI (N := 6) dX0_init_7 G0 M0 (Nat.le_of_ble_eq_true rfl) (Nat.le_of_ble_eq_true rfl) rfl (Nat.le_of_ble_eq_true rfl) (Nat.le_of_ble_eq_true rfl) (Nat.le_of_ble_eq_true rfl) (fun Γ1 h1 X1 G1 L1 Z1 => ?_)
  have Y1 := zext_tr (zext_rf _) X1
  have M1 := zOm_add L1 (by rw [Z1]; exact (fun _ _ => rfl))
  refine z_cP G1 M1 (Nat.le_of_ble_eq_true rfl) zfX0_9 dX0_init_9 rfl (Or.inr ⟨_, rfl⟩) rfl rfl rfl rfl (fun k1 N1 => ?_)
  refine z_al0 dX0_init_12 (by decide) ?_
  refine z_bipush (x := ((6 : Nat) : Int)) dX0_init_13 (by rfl) (by decide) ?_
  refine z_bipush (x := ((6 : Nat) : Int)) dX0_init_15 (by rfl) (by decide) ?_
  refine z_cM (N := 6) (K2 := 6) dX0_init_17 zclX0_15 G1 N1 (Nat.le_of_ble_eq_true rfl) (Nat.le_of_ble_eq_true rfl) (by rfl) (Nat.le_of_ble_eq_true rfl) (Nat.le_of_ble_eq_true rfl) (Nat.le_of_ble_eq_true rfl) (Nat.le_of_ble_eq_true rfl) (by unfold zRk; decide +kernel) (by unfold zRk; decide +kernel) (fun Γ2 h2 X2 G2 M2 => ?_)
  have Y2 := zext_tr Y1 X2
  refine z_cP G2 M2 (Nat.le_of_ble_eq_true rfl) zfX0_17 dX0_init_21 rfl (Or.inr ⟨_, rfl⟩) rfl rfl rfl rfl (fun k2 N2 => ?_)
  refine z_ret dX0_init_24 rfl (Nat.le_of_ble_eq_true rfl) (Nat.le_of_ble_eq_true rfl) Y2 ?_
  exact hQ _ _ Y2 G2 N2.1 (zOm_end N2 (by unfold zRk; decide +kernel))
theorem zoiX2_3 : Cond.methodLink RX2 3 Lib.objectInit ∈ zTB := by decide +kernel
set_option maxRecDepth 4000 in
theorem X2_init_13 {l : Launch} {Γ : zC} {h : zM} {Q : Option zV → zC → zM → Prop} (G0 : zG0 13 Γ) (hz : h 13 = fun _ => 0) (hQ : ∀ Γ' h', zext Γ Γ' → zG0 14 Γ' → (∀ q, q < 13 → h' q = h q) → (∀ q, 13 ≤ q → q ≤ 14 → zRk q (h' q)) → Q none Γ' h') : zCT l mX2_init 1 1 161 Γ [zR 13, zR 2] h Q := by
  refine zCT_of (by decide) (Nat.le_of_ble_eq_true rfl) (ls := [some (zR 13), some (zR 2)]) rfl ?_
  have M0 := zOm_start hz
  refine z_al0 dX2_init_0 (by decide) ?_
  refine z_objI dX2_init_1 zoiX2_3 (G0.kd (r := 13) rfl (Nat.le_of_ble_eq_true rfl)) (Nat.le_of_ble_eq_true rfl) (Nat.le_of_ble_eq_true rfl) (by decide) ?_
  refine z_al0 dX2_init_4 (by decide) ?_
  refine z_al1 dX2_init_5 (by decide) ?_
  refine z_cP G0 M0 (Nat.le_of_ble_eq_true rfl) zfX2_9 dX2_init_6 rfl (Or.inl ⟨_, rfl⟩) rfl rfl rfl rfl (fun k1 N1 => ?_)
  refine z_al0 dX2_init_9 (by decide) ?_
  refine z_sipush (x := ((161 : Nat) : Int)) dX2_init_10 (by rfl) (by decide) ?_
  refine z_cAI (N := 161) dX2_init_13 G0 N1 (Nat.le_of_ble_eq_true rfl) (Nat.le_of_ble_eq_true rfl) rfl (Nat.le_of_ble_eq_true rfl) (Nat.le_of_ble_eq_true rfl) (Nat.le_of_ble_eq_true rfl) (fun Γ1 h1 X1 G1 L1 Z1 => ?_)
  have Y1 := zext_tr (zext_rf _) X1
  have M1 := zOm_add L1 (by rw [Z1]; exact (fun _ _ => rfl))
  refine z_cP G1 M1 (Nat.le_of_ble_eq_true rfl) zfX2_15 dX2_init_15 rfl (Or.inr ⟨_, rfl⟩) rfl rfl rfl rfl (fun k2 N2 => ?_)
  refine z_ret dX2_init_18 rfl (Nat.le_of_ble_eq_true rfl) (Nat.le_of_ble_eq_true rfl) Y1 ?_
  exact hQ _ _ Y1 G1 N2.1 (zOm_end N2 (by unfold zRk; decide +kernel))
theorem zoiX3_3 : Cond.methodLink RX3 3 Lib.objectInit ∈ zTB := by decide +kernel
set_option maxRecDepth 4000 in
theorem X3_init_25 {l : Launch} {Γ : zC} {h : zM} {Q : Option zV → zC → zM → Prop} (G0 : zG0 25 Γ) (hz : h 25 = fun _ => 0) (hQ : ∀ Γ' h', zext Γ Γ' → zG0 31 Γ' → (∀ q, q < 25 → h' q = h q) → (∀ q, 25 ≤ q → q ≤ 31 → zRk q (h' q)) → Q none Γ' h') : zCT l mX3_init 1 6 180 Γ [zR 25] h Q := by
  refine zCT_of (by decide) (Nat.le_of_ble_eq_true rfl) (ls := [some (zR 25)]) rfl ?_
  have M0 := zOm_start hz
  refine z_al0 dX3_init_0 (by decide) ?_
  refine z_objI dX3_init_1 zoiX3_3 (G0.kd (r := 25) rfl (Nat.le_of_ble_eq_true rfl)) (Nat.le_of_ble_eq_true rfl) (Nat.le_of_ble_eq_true rfl) (by decide) ?_
  refine z_al0 dX3_init_4 (by decide) ?_
  refine z_bipush (x := ((20 : Nat) : Int)) dX3_init_5 (by rfl) (by decide) ?_
  refine z_cAI (N := 20) dX3_init_7 G0 M0 (Nat.le_of_ble_eq_true rfl) (Nat.le_of_ble_eq_true rfl) rfl (Nat.le_of_ble_eq_true rfl) (Nat.le_of_ble_eq_true rfl) (Nat.le_of_ble_eq_true rfl) (fun Γ1 h1 X1 G1 L1 Z1 => ?_)
  have Y1 := zext_tr (zext_rf _) X1
  have M1 := zOm_add L1 (by rw [Z1]; exact (fun _ _ => rfl))
  refine z_cP G1 M1 (Nat.le_of_ble_eq_true rfl) zfX3_9 dX3_init_9 rfl (Or.inr ⟨_, rfl⟩) rfl rfl rfl rfl (fun k1 N1 => ?_)
  refine z_al0 dX3_init_12 (by decide) ?_
  refine z_bipush (x := ((20 : Nat) : Int)) dX3_init_13 (by rfl) (by decide) ?_
  refine z_cAI (N := 20) dX3_init_15 G1 N1 (Nat.le_of_ble_eq_true rfl) (Nat.le_of_ble_eq_true rfl) rfl (Nat.le_of_ble_eq_true rfl) (Nat.le_of_ble_eq_true rfl) (Nat.le_of_ble_eq_true rfl) (fun Γ2 h2 X2 G2 L2 Z2 => ?_)
  have Y2 := zext_tr Y1 X2
  have M2 := zOm_add L2 (by rw [Z2]; exact (fun _ _ => rfl))
  refine z_cP G2 M2 (Nat.le_of_ble_eq_true rfl) zfX3_15 dX3_init_17 rfl (Or.inr ⟨_, rfl⟩) rfl rfl rfl rfl (fun k2 N2 => ?_)
  refine z_al0 dX3_init_20 (by decide) ?_
  refine z_bipush (x := ((20 : Nat) : Int)) dX3_init_21 (by rfl) (by decide) ?_
  refine z_cAI (N := 20) dX3_init_23 G2 N2 (Nat.le_of_ble_eq_true rfl) (Nat.le_of_ble_eq_true rfl) rfl (Nat.le_of_ble_eq_true rfl) (Nat.le_of_ble_eq_true rfl) (Nat.le_of_ble_eq_true rfl) (fun Γ3 h3 X3 G3 L3 Z3 => ?_)
  have Y3 := zext_tr Y2 X3
  have M3 := zOm_add L3 (by rw [Z3]; exact (fun _ _ => rfl))
  refine z_cP G3 M3 (Nat.le_of_ble_eq_true rfl) zfX3_18 dX3_init_25 rfl (Or.inr ⟨_, rfl⟩) rfl rfl rfl rfl (fun k3 N3 => ?_)
  refine z_al0 dX3_init_28 (by decide) ?_
  refine z_bipush (x := ((40 : Nat) : Int)) dX3_init_29 (by rfl) (by decide) ?_
  refine z_cAI (N := 40) dX3_init_31 G3 N3 (Nat.le_of_ble_eq_true rfl) (Nat.le_of_ble_eq_true rfl) rfl (Nat.le_of_ble_eq_true rfl) (Nat.le_of_ble_eq_true rfl) (Nat.le_of_ble_eq_true rfl) (fun Γ4 h4 X4 G4 L4 Z4 => ?_)
  have Y4 := zext_tr Y3 X4
  have M4 := zOm_add L4 (by rw [Z4]; exact (fun _ _ => rfl))
  refine z_cP G4 M4 (Nat.le_of_ble_eq_true rfl) zfX3_21 dX3_init_33 rfl (Or.inr ⟨_, rfl⟩) rfl rfl rfl rfl (fun k4 N4 => ?_)
  refine z_al0 dX3_init_36 (by decide) ?_
  refine z_bipush (x := ((40 : Nat) : Int)) dX3_init_37 (by rfl) (by decide) ?_
  refine z_cAI (N := 40) dX3_init_39 G4 N4 (Nat.le_of_ble_eq_true rfl) (Nat.le_of_ble_eq_true rfl) rfl (Nat.le_of_ble_eq_true rfl) (Nat.le_of_ble_eq_true rfl) (Nat.le_of_ble_eq_true rfl) (fun Γ5 h5 X5 G5 L5 Z5 => ?_)
  have Y5 := zext_tr Y4 X5
  have M5 := zOm_add L5 (by rw [Z5]; exact (fun _ _ => rfl))
  refine z_cP G5 M5 (Nat.le_of_ble_eq_true rfl) zfX3_24 dX3_init_41 rfl (Or.inr ⟨_, rfl⟩) rfl rfl rfl rfl (fun k5 N5 => ?_)
  refine z_al0 dX3_init_44 (by decide) ?_
  refine z_bipush (x := ((40 : Nat) : Int)) dX3_init_45 (by rfl) (by decide) ?_
  refine z_cAI (N := 40) dX3_init_47 G5 N5 (Nat.le_of_ble_eq_true rfl) (Nat.le_of_ble_eq_true rfl) rfl (Nat.le_of_ble_eq_true rfl) (Nat.le_of_ble_eq_true rfl) (Nat.le_of_ble_eq_true rfl) (fun Γ6 h6 X6 G6 L6 Z6 => ?_)
  have Y6 := zext_tr Y5 X6
  have M6 := zOm_add L6 (by rw [Z6]; exact (fun _ _ => rfl))
  refine z_cP G6 M6 (Nat.le_of_ble_eq_true rfl) zfX3_27 dX3_init_49 rfl (Or.inr ⟨_, rfl⟩) rfl rfl rfl rfl (fun k6 N6 => ?_)
  refine z_ret dX3_init_52 rfl (Nat.le_of_ble_eq_true rfl) (Nat.le_of_ble_eq_true rfl) Y6 ?_
  exact hQ _ _ Y6 G6 N6.1 (zOm_end N6 (by unfold zRk; decide +kernel))
set_option maxRecDepth 4000 in
theorem X3_init_34 {l : Launch} {Γ : zC} {h : zM} {Q : Option zV → zC → zM → Prop} (G0 : zG0 34 Γ) (hz : h 34 = fun _ => 0) (hQ : ∀ Γ' h', zext Γ Γ' → zG0 40 Γ' → (∀ q, q < 34 → h' q = h q) → (∀ q, 34 ≤ q → q ≤ 40 → zRk q (h' q)) → Q none Γ' h') : zCT l mX3_init 1 6 180 Γ [zR 34] h Q := by
  refine zCT_of (by decide) (Nat.le_of_ble_eq_true rfl) (ls := [some (zR 34)]) rfl ?_
  have M0 := zOm_start hz
  refine z_al0 dX3_init_0 (by decide) ?_
  refine z_objI dX3_init_1 zoiX3_3 (G0.kd (r := 34) rfl (Nat.le_of_ble_eq_true rfl)) (Nat.le_of_ble_eq_true rfl) (Nat.le_of_ble_eq_true rfl) (by decide) ?_
  refine z_al0 dX3_init_4 (by decide) ?_
  refine z_bipush (x := ((20 : Nat) : Int)) dX3_init_5 (by rfl) (by decide) ?_
  refine z_cAI (N := 20) dX3_init_7 G0 M0 (Nat.le_of_ble_eq_true rfl) (Nat.le_of_ble_eq_true rfl) rfl (Nat.le_of_ble_eq_true rfl) (Nat.le_of_ble_eq_true rfl) (Nat.le_of_ble_eq_true rfl) (fun Γ1 h1 X1 G1 L1 Z1 => ?_)
  have Y1 := zext_tr (zext_rf _) X1
  have M1 := zOm_add L1 (by rw [Z1]; exact (fun _ _ => rfl))
  refine z_cP G1 M1 (Nat.le_of_ble_eq_true rfl) zfX3_9 dX3_init_9 rfl (Or.inr ⟨_, rfl⟩) rfl rfl rfl rfl (fun k1 N1 => ?_)
  refine z_al0 dX3_init_12 (by decide) ?_
  refine z_bipush (x := ((20 : Nat) : Int)) dX3_init_13 (by rfl) (by decide) ?_
  refine z_cAI (N := 20) dX3_init_15 G1 N1 (Nat.le_of_ble_eq_true rfl) (Nat.le_of_ble_eq_true rfl) rfl (Nat.le_of_ble_eq_true rfl) (Nat.le_of_ble_eq_true rfl) (Nat.le_of_ble_eq_true rfl) (fun Γ2 h2 X2 G2 L2 Z2 => ?_)
  have Y2 := zext_tr Y1 X2
  have M2 := zOm_add L2 (by rw [Z2]; exact (fun _ _ => rfl))
  refine z_cP G2 M2 (Nat.le_of_ble_eq_true rfl) zfX3_15 dX3_init_17 rfl (Or.inr ⟨_, rfl⟩) rfl rfl rfl rfl (fun k2 N2 => ?_)
  refine z_al0 dX3_init_20 (by decide) ?_
  refine z_bipush (x := ((20 : Nat) : Int)) dX3_init_21 (by rfl) (by decide) ?_
  refine z_cAI (N := 20) dX3_init_23 G2 N2 (Nat.le_of_ble_eq_true rfl) (Nat.le_of_ble_eq_true rfl) rfl (Nat.le_of_ble_eq_true rfl) (Nat.le_of_ble_eq_true rfl) (Nat.le_of_ble_eq_true rfl) (fun Γ3 h3 X3 G3 L3 Z3 => ?_)
  have Y3 := zext_tr Y2 X3
  have M3 := zOm_add L3 (by rw [Z3]; exact (fun _ _ => rfl))
  refine z_cP G3 M3 (Nat.le_of_ble_eq_true rfl) zfX3_18 dX3_init_25 rfl (Or.inr ⟨_, rfl⟩) rfl rfl rfl rfl (fun k3 N3 => ?_)
  refine z_al0 dX3_init_28 (by decide) ?_
  refine z_bipush (x := ((40 : Nat) : Int)) dX3_init_29 (by rfl) (by decide) ?_
  refine z_cAI (N := 40) dX3_init_31 G3 N3 (Nat.le_of_ble_eq_true rfl) (Nat.le_of_ble_eq_true rfl) rfl (Nat.le_of_ble_eq_true rfl) (Nat.le_of_ble_eq_true rfl) (Nat.le_of_ble_eq_true rfl) (fun Γ4 h4 X4 G4 L4 Z4 => ?_)
  have Y4 := zext_tr Y3 X4
  have M4 := zOm_add L4 (by rw [Z4]; exact (fun _ _ => rfl))
  refine z_cP G4 M4 (Nat.le_of_ble_eq_true rfl) zfX3_21 dX3_init_33 rfl (Or.inr ⟨_, rfl⟩) rfl rfl rfl rfl (fun k4 N4 => ?_)
  refine z_al0 dX3_init_36 (by decide) ?_
  refine z_bipush (x := ((40 : Nat) : Int)) dX3_init_37 (by rfl) (by decide) ?_
  refine z_cAI (N := 40) dX3_init_39 G4 N4 (Nat.le_of_ble_eq_true rfl) (Nat.le_of_ble_eq_true rfl) rfl (Nat.le_of_ble_eq_true rfl) (Nat.le_of_ble_eq_true rfl) (Nat.le_of_ble_eq_true rfl) (fun Γ5 h5 X5 G5 L5 Z5 => ?_)
  have Y5 := zext_tr Y4 X5
  have M5 := zOm_add L5 (by rw [Z5]; exact (fun _ _ => rfl))
  refine z_cP G5 M5 (Nat.le_of_ble_eq_true rfl) zfX3_24 dX3_init_41 rfl (Or.inr ⟨_, rfl⟩) rfl rfl rfl rfl (fun k5 N5 => ?_)
  refine z_al0 dX3_init_44 (by decide) ?_
  refine z_bipush (x := ((40 : Nat) : Int)) dX3_init_45 (by rfl) (by decide) ?_
  refine z_cAI (N := 40) dX3_init_47 G5 N5 (Nat.le_of_ble_eq_true rfl) (Nat.le_of_ble_eq_true rfl) rfl (Nat.le_of_ble_eq_true rfl) (Nat.le_of_ble_eq_true rfl) (Nat.le_of_ble_eq_true rfl) (fun Γ6 h6 X6 G6 L6 Z6 => ?_)
  have Y6 := zext_tr Y5 X6
  have M6 := zOm_add L6 (by rw [Z6]; exact (fun _ _ => rfl))
  refine z_cP G6 M6 (Nat.le_of_ble_eq_true rfl) zfX3_27 dX3_init_49 rfl (Or.inr ⟨_, rfl⟩) rfl rfl rfl rfl (fun k6 N6 => ?_)
  refine z_ret dX3_init_52 rfl (Nat.le_of_ble_eq_true rfl) (Nat.le_of_ble_eq_true rfl) Y6 ?_
  exact hQ _ _ Y6 G6 N6.1 (zOm_end N6 (by unfold zRk; decide +kernel))
theorem zoiX7_3 : Cond.methodLink RX7 3 Lib.objectInit ∈ zTB := by decide +kernel
theorem zclX7_9 : Cond.classLink RX7 9 (zCn 0) ∈ zTB := by decide +kernel
theorem zins_0 : Cond.instantiable (zCn 0) (zN 0) ∈ zTB := by decide +kernel
theorem zini_0 : Cond.initialized (zCn 0) ∈ zTB := by decide +kernel
theorem zim_0 : Cond.instanceMethod mX0_init.1 ∈ zTB := by decide +kernel
theorem zclX7_18 : Cond.classLink RX7 18 (zCn 3) ∈ zTB := by decide +kernel
theorem zins_3 : Cond.instantiable (zCn 3) (zN 3) ∈ zTB := by decide +kernel
theorem zini_3 : Cond.initialized (zCn 3) ∈ zTB := by decide +kernel
theorem zim_3 : Cond.instanceMethod mX3_init.1 ∈ zTB := by decide +kernel
theorem zclX7_29 : Cond.classLink RX7 29 "TabooIsles$Custom" ∈ zTB := by decide +kernel
set_option maxRecDepth 4000 in
theorem X7_init_15 {l : Launch} {Γ : zC} {h : zM} {Q : Option zV → zC → zM → Prop} (G0 : zG0 15 Γ) (hz : h 15 = fun _ => 0) (hQ : ∀ Γ' h', zext Γ Γ' → zG0 33 Γ' → (∀ q, q < 15 → h' q = h q) → (∀ q, 15 ≤ q → q ≤ 33 → zRk q (h' q)) → Q none Γ' h') : zCT l mX7_init 2 18 251 Γ [zR 15] h Q := by
  refine zCT_of (by decide) (Nat.le_of_ble_eq_true rfl) (ls := [some (zR 15)]) rfl ?_
  have M0 := zOm_start hz
  refine z_al0 dX7_init_0 (by decide) ?_
  refine z_objI dX7_init_1 zoiX7_3 (G0.kd (r := 15) rfl (Nat.le_of_ble_eq_true rfl)) (Nat.le_of_ble_eq_true rfl) (Nat.le_of_ble_eq_true rfl) (by decide) ?_
  refine z_al0 dX7_init_4 (by decide) ?_
  refine z_cN (ci := 0) G0 M0 (Nat.le_of_ble_eq_true rfl) (Nat.le_of_ble_eq_true rfl) rfl dX7_init_5 (Nat.le_of_ble_eq_true rfl) zclX7_9 zins_0 zini_0 (Nat.le_of_ble_eq_true rfl) (Nat.le_of_ble_eq_true rfl) (fun Γ1 h1 X1 G1 L1 Z1 => ?_)
  have Y1 := zext_tr (zext_rf _) X1
  refine z_dup dX7_init_8 rfl ?_
  refine zci0 (d := 1) (mc9 := 8) (ms9 := 48) dX7_init_9 zkX7_11 zim_0 rfl rfl (G1.kd (r := 16) rfl (Nat.le_of_ble_eq_true rfl)) (by decide) (Nat.le_of_ble_eq_true rfl) (Nat.le_of_ble_eq_true rfl) ⟨(Nat.le_of_ble_eq_true rfl), (Nat.le_of_ble_eq_true rfl)⟩ (X0_init_16 G1 Z1 (fun Γ2 h2 X2 G2 E2 R2 _ => ?_))
  simp only [zres]
  have Y2 := zext_tr Y1 X2
  have M2 := zOm_sub L1 (Nat.le_of_ble_eq_true rfl) E2 R2
  refine z_cP G2 M2 (Nat.le_of_ble_eq_true rfl) zfX7_12 dX7_init_12 rfl (Or.inl ⟨_, rfl⟩) rfl rfl rfl rfl (fun k1 N1 => ?_)
  refine z_al0 dX7_init_15 (by decide) ?_
  refine z_cN (ci := 3) G2 N1 (Nat.le_of_ble_eq_true rfl) (Nat.le_of_ble_eq_true rfl) rfl dX7_init_16 (Nat.le_of_ble_eq_true rfl) zclX7_18 zins_3 zini_3 (Nat.le_of_ble_eq_true rfl) (Nat.le_of_ble_eq_true rfl) (fun Γ3 h3 X3 G3 L3 Z3 => ?_)
  have Y3 := zext_tr Y2 X3
  refine z_dup dX7_init_19 rfl ?_
  refine zci0 (d := 1) (mc9 := 6) (ms9 := 180) dX7_init_20 zkX7_20 zim_3 rfl rfl (G3.kd (r := 25) rfl (Nat.le_of_ble_eq_true rfl)) (by decide) (Nat.le_of_ble_eq_true rfl) (Nat.le_of_ble_eq_true rfl) ⟨(Nat.le_of_ble_eq_true rfl), (Nat.le_of_ble_eq_true rfl)⟩ (X3_init_25 G3 Z3 (fun Γ4 h4 X4 G4 E4 R4 _ => ?_))
  simp only [zres]
  have Y4 := zext_tr Y3 X4
  have M4 := zOm_sub L3 (Nat.le_of_ble_eq_true rfl) E4 R4
  refine z_cP G4 M4 (Nat.le_of_ble_eq_true rfl) zfX7_21 dX7_init_23 rfl (Or.inl ⟨_, rfl⟩) rfl rfl rfl rfl (fun k2 N2 => ?_)
  refine z_al0 dX7_init_26 (by decide) ?_
  refine z_bipush (x := ((6 : Nat) : Int)) dX7_init_27 (by rfl) (by decide) ?_
  refine z_cAI (N := 6) dX7_init_29 G4 N2 (Nat.le_of_ble_eq_true rfl) (Nat.le_of_ble_eq_true rfl) rfl (Nat.le_of_ble_eq_true rfl) (Nat.le_of_ble_eq_true rfl) (Nat.le_of_ble_eq_true rfl) (fun Γ5 h5 X5 G5 L5 Z5 => ?_)
  have Y5 := zext_tr Y4 X5
  have M5 := zOm_add L5 (by rw [Z5]; exact (fun _ _ => rfl))
  refine z_cP G5 M5 (Nat.le_of_ble_eq_true rfl) zfX7_25 dX7_init_31 rfl (Or.inr ⟨_, rfl⟩) rfl rfl rfl rfl (fun k3 N3 => ?_)
  refine z_al0 dX7_init_34 (by decide) ?_
  refine z_iconst dX7_init_35 (by decide) ?_
  refine z_cAC (N := 4) dX7_init_36 zclX7_29 G5 N3 (Nat.le_of_ble_eq_true rfl) (Nat.le_of_ble_eq_true rfl) rfl (Nat.le_of_ble_eq_true rfl) (Nat.le_of_ble_eq_true rfl) (Nat.le_of_ble_eq_true rfl) (fun Γ6 h6 X6 G6 L6 Z6 => ?_)
  have Y6 := zext_tr Y5 X6
  have M6 := zOm_add L6 (by rw [Z6]; exact (fun _ _ => rfl))
  refine z_cP G6 M6 (Nat.le_of_ble_eq_true rfl) zfX7_31 dX7_init_39 rfl (Or.inr ⟨_, rfl⟩) rfl rfl rfl rfl (fun k4 N4 => ?_)
  refine z_ret dX7_init_42 rfl (Nat.le_of_ble_eq_true rfl) (Nat.le_of_ble_eq_true rfl) Y6 ?_
  exact hQ _ _ Y6 G6 N4.1 (zOm_end N4 (by unfold zRk; decide +kernel))
theorem zoiX4_3 : Cond.methodLink RX4 3 Lib.objectInit ∈ zTB := by decide +kernel
theorem zclX4_22 : Cond.classLink RX4 22 "[[I" ∈ zTB := by decide +kernel
set_option maxRecDepth 4000 in
theorem X4_init_41 {l : Launch} {Γ : zC} {h : zM} {Q : Option zV → zC → zM → Prop} (G0 : zG0 41 Γ) (hz : h 41 = fun _ => 0) (hQ : ∀ Γ' h', zext Γ Γ' → zG0 76 Γ' → (∀ q, q < 41 → h' q = h q) → (∀ q, 41 ≤ q → q ≤ 76 → zRk q (h' q)) → Q none Γ' h') : zCT l mX4_init 1 35 1595 Γ [zR 41] h Q := by
  refine zCT_of (by decide) (Nat.le_of_ble_eq_true rfl) (ls := [some (zR 41)]) rfl ?_
  have M0 := zOm_start hz
  refine z_al0 dX4_init_0 (by decide) ?_
  refine z_objI dX4_init_1 zoiX4_3 (G0.kd (r := 41) rfl (Nat.le_of_ble_eq_true rfl)) (Nat.le_of_ble_eq_true rfl) (Nat.le_of_ble_eq_true rfl) (by decide) ?_
  refine z_al0 dX4_init_4 (by decide) ?_
  refine z_sipush (x := ((201 : Nat) : Int)) dX4_init_5 (by rfl) (by decide) ?_
  refine z_cAZ (N := 201) dX4_init_8 G0 M0 (Nat.le_of_ble_eq_true rfl) (Nat.le_of_ble_eq_true rfl) rfl (Nat.le_of_ble_eq_true rfl) (Nat.le_of_ble_eq_true rfl) (Nat.le_of_ble_eq_true rfl) (fun Γ1 h1 X1 G1 L1 Z1 => ?_)
  have Y1 := zext_tr (zext_rf _) X1
  have M1 := zOm_add L1 (by rw [Z1]; exact (fun _ _ => rfl))
  refine z_cP G1 M1 (Nat.le_of_ble_eq_true rfl) zfX4_9 dX4_init_10 rfl (Or.inr ⟨_, rfl⟩) rfl rfl rfl rfl (fun k1 N1 => ?_)
  refine z_al0 dX4_init_13 (by decide) ?_
  refine z_sipush (x := ((201 : Nat) : Int)) dX4_init_14 (by rfl) (by decide) ?_
  refine z_cAJ (N := 201) dX4_init_17 G1 N1 (Nat.le_of_ble_eq_true rfl) (Nat.le_of_ble_eq_true rfl) rfl (Nat.le_of_ble_eq_true rfl) (Nat.le_of_ble_eq_true rfl) (Nat.le_of_ble_eq_true rfl) (fun Γ2 h2 X2 G2 L2 Z2 => ?_)
  have Y2 := zext_tr Y1 X2
  have M2 := zOm_add L2 (by rw [Z2]; exact (fun _ _ => rfl))
  refine z_cP G2 M2 (Nat.le_of_ble_eq_true rfl) zfX4_15 dX4_init_19 rfl (Or.inr ⟨_, rfl⟩) rfl rfl rfl rfl (fun k2 N2 => ?_)
  refine z_al0 dX4_init_22 (by decide) ?_
  refine z_sipush (x := ((201 : Nat) : Int)) dX4_init_23 (by rfl) (by decide) ?_
  refine z_cAJ (N := 201) dX4_init_26 G2 N2 (Nat.le_of_ble_eq_true rfl) (Nat.le_of_ble_eq_true rfl) rfl (Nat.le_of_ble_eq_true rfl) (Nat.le_of_ble_eq_true rfl) (Nat.le_of_ble_eq_true rfl) (fun Γ3 h3 X3 G3 L3 Z3 => ?_)
  have Y3 := zext_tr Y2 X3
  have M3 := zOm_add L3 (by rw [Z3]; exact (fun _ _ => rfl))
  refine z_cP G3 M3 (Nat.le_of_ble_eq_true rfl) zfX4_19 dX4_init_28 rfl (Or.inr ⟨_, rfl⟩) rfl rfl rfl rfl (fun k3 N3 => ?_)
  refine z_al0 dX4_init_31 (by decide) ?_
  refine z_bipush (x := ((31 : Nat) : Int)) dX4_init_32 (by rfl) (by decide) ?_
  refine z_bipush (x := ((31 : Nat) : Int)) dX4_init_34 (by rfl) (by decide) ?_
  refine z_cM (N := 31) (K2 := 31) dX4_init_36 zclX4_22 G3 N3 (Nat.le_of_ble_eq_true rfl) (Nat.le_of_ble_eq_true rfl) (by rfl) (Nat.le_of_ble_eq_true rfl) (Nat.le_of_ble_eq_true rfl) (Nat.le_of_ble_eq_true rfl) (Nat.le_of_ble_eq_true rfl) (by unfold zRk; decide +kernel) (by unfold zRk; decide +kernel) (fun Γ4 h4 X4 G4 M4 => ?_)
  have Y4 := zext_tr Y3 X4
  refine z_cP G4 M4 (Nat.le_of_ble_eq_true rfl) zfX4_24 dX4_init_40 rfl (Or.inr ⟨_, rfl⟩) rfl rfl rfl rfl (fun k4 N4 => ?_)
  refine z_ret dX4_init_43 rfl (Nat.le_of_ble_eq_true rfl) (Nat.le_of_ble_eq_true rfl) Y4 ?_
  exact hQ _ _ Y4 G4 N4.1 (zOm_end N4 (by unfold zRk; decide +kernel))
theorem zoiX6_3 : Cond.methodLink RX6 3 Lib.objectInit ∈ zTB := by decide +kernel
theorem zclX6_19 : Cond.classLink RX6 19 "[[I" ∈ zTB := by decide +kernel
set_option maxRecDepth 4000 in
theorem X6_init_77 {l : Launch} {Γ : zC} {h : zM} {Q : Option zV → zC → zM → Prop} (G0 : zG0 77 Γ) (hz : h 77 = fun _ => 0) (hQ : ∀ Γ' h', zext Γ Γ' → zG0 85 Γ' → (∀ q, q < 77 → h' q = h q) → (∀ q, 77 ≤ q → q ≤ 85 → zRk q (h' q)) → Q none Γ' h') : zCT l mX6_init 1 8 375 Γ [zR 77, zR 15, zR 41] h Q := by
  refine zCT_of (by decide) (Nat.le_of_ble_eq_true rfl) (ls := [some (zR 77), some (zR 15), some (zR 41)]) rfl ?_
  have M0 := zOm_start hz
  refine z_al0 dX6_init_0 (by decide) ?_
  refine z_objI dX6_init_1 zoiX6_3 (G0.kd (r := 77) rfl (Nat.le_of_ble_eq_true rfl)) (Nat.le_of_ble_eq_true rfl) (Nat.le_of_ble_eq_true rfl) (by decide) ?_
  refine z_al0 dX6_init_4 (by decide) ?_
  refine z_al1 dX6_init_5 (by decide) ?_
  refine z_cP G0 M0 (Nat.le_of_ble_eq_true rfl) zfX6_9 dX6_init_6 rfl (Or.inl ⟨_, rfl⟩) rfl rfl rfl rfl (fun k1 N1 => ?_)
  refine z_al0 dX6_init_9 (by decide) ?_
  refine z_al2 dX6_init_10 (by decide) ?_
  refine z_cP G0 N1 (Nat.le_of_ble_eq_true rfl) zfX6_15 dX6_init_11 rfl (Or.inl ⟨_, rfl⟩) rfl rfl rfl rfl (fun k2 N2 => ?_)
  refine z_al0 dX6_init_14 (by decide) ?_
  refine z_iconst dX6_init_15 (by decide) ?_
  refine z_bipush (x := ((6 : Nat) : Int)) dX6_init_16 (by rfl) (by decide) ?_
  refine z_cM (N := 3) (K2 := 6) dX6_init_18 zclX6_19 G0 N2 (Nat.le_of_ble_eq_true rfl) (Nat.le_of_ble_eq_true rfl) (by rfl) (Nat.le_of_ble_eq_true rfl) (Nat.le_of_ble_eq_true rfl) (Nat.le_of_ble_eq_true rfl) (Nat.le_of_ble_eq_true rfl) (by unfold zRk; decide +kernel) (by unfold zRk; decide +kernel) (fun Γ1 h1 X1 G1 M1 => ?_)
  have Y1 := zext_tr (zext_rf _) X1
  refine z_cP G1 M1 (Nat.le_of_ble_eq_true rfl) zfX6_21 dX6_init_22 rfl (Or.inr ⟨_, rfl⟩) rfl rfl rfl rfl (fun k3 N3 => ?_)
  refine z_al0 dX6_init_25 (by decide) ?_
  refine z_bipush (x := ((9 : Nat) : Int)) dX6_init_26 (by rfl) (by decide) ?_
  refine z_cAI (N := 9) dX6_init_28 G1 N3 (Nat.le_of_ble_eq_true rfl) (Nat.le_of_ble_eq_true rfl) rfl (Nat.le_of_ble_eq_true rfl) (Nat.le_of_ble_eq_true rfl) (Nat.le_of_ble_eq_true rfl) (fun Γ2 h2 X2 G2 L2 Z2 => ?_)
  have Y2 := zext_tr Y1 X2
  have M2 := zOm_add L2 (by rw [Z2]; exact (fun _ _ => rfl))
  refine z_cP G2 M2 (Nat.le_of_ble_eq_true rfl) zfX6_24 dX6_init_30 rfl (Or.inr ⟨_, rfl⟩) rfl rfl rfl rfl (fun k4 N4 => ?_)
  refine z_al0 dX6_init_33 (by decide) ?_
  refine z_bipush (x := ((9 : Nat) : Int)) dX6_init_34 (by rfl) (by decide) ?_
  refine z_cAI (N := 9) dX6_init_36 G2 N4 (Nat.le_of_ble_eq_true rfl) (Nat.le_of_ble_eq_true rfl) rfl (Nat.le_of_ble_eq_true rfl) (Nat.le_of_ble_eq_true rfl) (Nat.le_of_ble_eq_true rfl) (fun Γ3 h3 X3 G3 L3 Z3 => ?_)
  have Y3 := zext_tr Y2 X3
  have M3 := zOm_add L3 (by rw [Z3]; exact (fun _ _ => rfl))
  refine z_cP G3 M3 (Nat.le_of_ble_eq_true rfl) zfX6_28 dX6_init_38 rfl (Or.inr ⟨_, rfl⟩) rfl rfl rfl rfl (fun k5 N5 => ?_)
  refine z_al0 dX6_init_41 (by decide) ?_
  refine z_sipush (x := ((168 : Nat) : Int)) dX6_init_42 (by rfl) (by decide) ?_
  refine z_cAI (N := 168) dX6_init_45 G3 N5 (Nat.le_of_ble_eq_true rfl) (Nat.le_of_ble_eq_true rfl) rfl (Nat.le_of_ble_eq_true rfl) (Nat.le_of_ble_eq_true rfl) (Nat.le_of_ble_eq_true rfl) (fun Γ4 h4 X4 G4 L4 Z4 => ?_)
  have Y4 := zext_tr Y3 X4
  have M4 := zOm_add L4 (by rw [Z4]; exact (fun _ _ => rfl))
  refine z_cP G4 M4 (Nat.le_of_ble_eq_true rfl) zfX6_31 dX6_init_47 rfl (Or.inr ⟨_, rfl⟩) rfl rfl rfl rfl (fun k6 N6 => ?_)
  refine z_al0 dX6_init_50 (by decide) ?_
  refine z_sipush (x := ((168 : Nat) : Int)) dX6_init_51 (by rfl) (by decide) ?_
  refine z_cAI (N := 168) dX6_init_54 G4 N6 (Nat.le_of_ble_eq_true rfl) (Nat.le_of_ble_eq_true rfl) rfl (Nat.le_of_ble_eq_true rfl) (Nat.le_of_ble_eq_true rfl) (Nat.le_of_ble_eq_true rfl) (fun Γ5 h5 X5 G5 L5 Z5 => ?_)
  have Y5 := zext_tr Y4 X5
  have M5 := zOm_add L5 (by rw [Z5]; exact (fun _ _ => rfl))
  refine z_cP G5 M5 (Nat.le_of_ble_eq_true rfl) zfX6_34 dX6_init_56 rfl (Or.inr ⟨_, rfl⟩) rfl rfl rfl rfl (fun k7 N7 => ?_)
  refine z_ret dX6_init_59 rfl (Nat.le_of_ble_eq_true rfl) (Nat.le_of_ble_eq_true rfl) Y5 ?_
  exact hQ _ _ Y5 G5 N7.1 (zOm_end N7 (by unfold zRk; decide +kernel))
theorem zoiX8_1 : Cond.methodLink RX8 1 Lib.objectInit ∈ zTB := by decide +kernel
theorem zclX8_7 : Cond.classLink RX8 7 (zCn 5) ∈ zTB := by decide +kernel
theorem zins_5 : Cond.instantiable (zCn 5) (zN 5) ∈ zTB := by decide +kernel
theorem zini_5 : Cond.initialized (zCn 5) ∈ zTB := by decide +kernel
theorem zim_5 : Cond.instanceMethod mX5_init.1 ∈ zTB := by decide +kernel
theorem zclX8_16 : Cond.classLink RX8 16 (zCn 0) ∈ zTB := by decide +kernel
theorem zclX8_23 : Cond.classLink RX8 23 (zCn 2) ∈ zTB := by decide +kernel
theorem zins_2 : Cond.instantiable (zCn 2) (zN 2) ∈ zTB := by decide +kernel
theorem zini_2 : Cond.initialized (zCn 2) ∈ zTB := by decide +kernel
theorem zim_2 : Cond.instanceMethod mX2_init.1 ∈ zTB := by decide +kernel
theorem zclX8_32 : Cond.classLink RX8 32 (zCn 7) ∈ zTB := by decide +kernel
theorem zins_7 : Cond.instantiable (zCn 7) (zN 7) ∈ zTB := by decide +kernel
theorem zini_7 : Cond.initialized (zCn 7) ∈ zTB := by decide +kernel
theorem zim_7 : Cond.instanceMethod mX7_init.1 ∈ zTB := by decide +kernel
theorem zclX8_39 : Cond.classLink RX8 39 (zCn 3) ∈ zTB := by decide +kernel
theorem zclX8_46 : Cond.classLink RX8 46 (zCn 4) ∈ zTB := by decide +kernel
theorem zins_4 : Cond.instantiable (zCn 4) (zN 4) ∈ zTB := by decide +kernel
theorem zini_4 : Cond.initialized (zCn 4) ∈ zTB := by decide +kernel
theorem zim_4 : Cond.instanceMethod mX4_init.1 ∈ zTB := by decide +kernel
theorem zclX8_53 : Cond.classLink RX8 53 (zCn 6) ∈ zTB := by decide +kernel
theorem zins_6 : Cond.instantiable (zCn 6) (zN 6) ∈ zTB := by decide +kernel
theorem zini_6 : Cond.initialized (zCn 6) ∈ zTB := by decide +kernel
theorem zim_6 : Cond.instanceMethod mX6_init.1 ∈ zTB := by decide +kernel
set_option maxRecDepth 4000 in
theorem X8_init_1 {l : Launch} {Γ : zC} {h : zM} {Q : Option zV → zC → zM → Prop} (G0 : zG0 1 Γ) (hz : h 1 = fun _ => 0) (hQ : ∀ Γ' h', zext Γ Γ' → zG0 88 Γ' → (∀ q, q < 1 → h' q = h q) → (∀ q, 1 ≤ q → q ≤ 88 → zRk q (h' q)) → Q none Γ' h') : zCT l mX8_init 3 87 3121 Γ [zR 1] h Q := by
  refine zCT_of (by decide) (Nat.le_of_ble_eq_true rfl) (ls := [some (zR 1)]) rfl ?_
  have M0 := zOm_start hz
  refine z_al0 dX8_init_0 (by decide) ?_
  refine z_objI dX8_init_1 zoiX8_1 (G0.kd (r := 1) rfl (Nat.le_of_ble_eq_true rfl)) (Nat.le_of_ble_eq_true rfl) (Nat.le_of_ble_eq_true rfl) (by decide) ?_
  refine z_al0 dX8_init_4 (by decide) ?_
  refine z_cN (ci := 5) G0 M0 (Nat.le_of_ble_eq_true rfl) (Nat.le_of_ble_eq_true rfl) rfl dX8_init_5 (Nat.le_of_ble_eq_true rfl) zclX8_7 zins_5 zini_5 (Nat.le_of_ble_eq_true rfl) (Nat.le_of_ble_eq_true rfl) (fun Γ1 h1 X1 G1 L1 Z1 => ?_)
  have Y1 := zext_tr (zext_rf _) X1
  refine z_dup dX8_init_8 rfl ?_
  refine zci0 (d := 1) (mc9 := 1) (ms9 := 160) dX8_init_9 zkX8_9 zim_5 rfl rfl (G1.kd (r := 2) rfl (Nat.le_of_ble_eq_true rfl)) (by decide) (Nat.le_of_ble_eq_true rfl) (Nat.le_of_ble_eq_true rfl) ⟨(Nat.le_of_ble_eq_true rfl), (Nat.le_of_ble_eq_true rfl)⟩ (X5_init_2 G1 Z1 (fun Γ2 h2 X2 G2 E2 R2 _ => ?_))
  simp only [zres]
  have Y2 := zext_tr Y1 X2
  have M2 := zOm_sub L1 (Nat.le_of_ble_eq_true rfl) E2 R2
  refine z_cP G2 M2 (Nat.le_of_ble_eq_true rfl) zfX8_10 dX8_init_12 rfl (Or.inl ⟨_, rfl⟩) rfl rfl rfl rfl (fun k1 N1 => ?_)
  refine z_al0 dX8_init_15 (by decide) ?_
  refine z_cN (ci := 0) G2 N1 (Nat.le_of_ble_eq_true rfl) (Nat.le_of_ble_eq_true rfl) rfl dX8_init_16 (Nat.le_of_ble_eq_true rfl) zclX8_16 zins_0 zini_0 (Nat.le_of_ble_eq_true rfl) (Nat.le_of_ble_eq_true rfl) (fun Γ3 h3 X3 G3 L3 Z3 => ?_)
  have Y3 := zext_tr Y2 X3
  refine z_dup dX8_init_19 rfl ?_
  refine zci0 (d := 1) (mc9 := 8) (ms9 := 48) dX8_init_20 zkX8_18 zim_0 rfl rfl (G3.kd (r := 4) rfl (Nat.le_of_ble_eq_true rfl)) (by decide) (Nat.le_of_ble_eq_true rfl) (Nat.le_of_ble_eq_true rfl) ⟨(Nat.le_of_ble_eq_true rfl), (Nat.le_of_ble_eq_true rfl)⟩ (X0_init_4 G3 Z3 (fun Γ4 h4 X4 G4 E4 R4 _ => ?_))
  simp only [zres]
  have Y4 := zext_tr Y3 X4
  have M4 := zOm_sub L3 (Nat.le_of_ble_eq_true rfl) E4 R4
  refine z_cP G4 M4 (Nat.le_of_ble_eq_true rfl) zfX8_19 dX8_init_23 rfl (Or.inl ⟨_, rfl⟩) rfl rfl rfl rfl (fun k2 N2 => ?_)
  refine z_al0 dX8_init_26 (by decide) ?_
  refine z_cN (ci := 2) G4 N2 (Nat.le_of_ble_eq_true rfl) (Nat.le_of_ble_eq_true rfl) rfl dX8_init_27 (Nat.le_of_ble_eq_true rfl) zclX8_23 zins_2 zini_2 (Nat.le_of_ble_eq_true rfl) (Nat.le_of_ble_eq_true rfl) (fun Γ5 h5 X5 G5 L5 Z5 => ?_)
  have Y5 := zext_tr Y4 X5
  refine z_dup dX8_init_30 rfl ?_
  refine z_al0 dX8_init_31 (by decide) ?_
  refine z_cG (v := 2) G5 L5 (Nat.le_of_ble_eq_true rfl) rfl zfX8_10 dX8_init_32 rfl rfl ?_
  refine zci1 (d := 1) (mc9 := 1) (ms9 := 161) dX8_init_35 zkX8_25 zim_2 rfl rfl (G5.kd (r := 13) rfl (Nat.le_of_ble_eq_true rfl)) (by decide) (Nat.le_of_ble_eq_true rfl) (Nat.le_of_ble_eq_true rfl) ⟨(Nat.le_of_ble_eq_true rfl), (Nat.le_of_ble_eq_true rfl)⟩ (X2_init_13 G5 Z5 (fun Γ6 h6 X6 G6 E6 R6 _ => ?_))
  simp only [zres]
  have Y6 := zext_tr Y5 X6
  have M6 := zOm_sub L5 (Nat.le_of_ble_eq_true rfl) E6 R6
  refine z_cP G6 M6 (Nat.le_of_ble_eq_true rfl) zfX8_28 dX8_init_38 rfl (Or.inl ⟨_, rfl⟩) rfl rfl rfl rfl (fun k3 N3 => ?_)
  refine z_al0 dX8_init_41 (by decide) ?_
  refine z_cN (ci := 7) G6 N3 (Nat.le_of_ble_eq_true rfl) (Nat.le_of_ble_eq_true rfl) rfl dX8_init_42 (Nat.le_of_ble_eq_true rfl) zclX8_32 zins_7 zini_7 (Nat.le_of_ble_eq_true rfl) (Nat.le_of_ble_eq_true rfl) (fun Γ7 h7 X7 G7 L7 Z7 => ?_)
  have Y7 := zext_tr Y6 X7
  refine z_dup dX8_init_45 rfl ?_
  refine zci0 (d := 2) (mc9 := 18) (ms9 := 251) dX8_init_46 zkX8_34 zim_7 rfl rfl (G7.kd (r := 15) rfl (Nat.le_of_ble_eq_true rfl)) (by decide) (Nat.le_of_ble_eq_true rfl) (Nat.le_of_ble_eq_true rfl) ⟨(Nat.le_of_ble_eq_true rfl), (Nat.le_of_ble_eq_true rfl)⟩ (X7_init_15 G7 Z7 (fun Γ8 h8 X8 G8 E8 R8 _ => ?_))
  simp only [zres]
  have Y8 := zext_tr Y7 X8
  have M8 := zOm_sub L7 (Nat.le_of_ble_eq_true rfl) E8 R8
  refine z_cP G8 M8 (Nat.le_of_ble_eq_true rfl) zfX8_35 dX8_init_49 rfl (Or.inl ⟨_, rfl⟩) rfl rfl rfl rfl (fun k4 N4 => ?_)
  refine z_al0 dX8_init_52 (by decide) ?_
  refine z_cN (ci := 3) G8 N4 (Nat.le_of_ble_eq_true rfl) (Nat.le_of_ble_eq_true rfl) rfl dX8_init_53 (Nat.le_of_ble_eq_true rfl) zclX8_39 zins_3 zini_3 (Nat.le_of_ble_eq_true rfl) (Nat.le_of_ble_eq_true rfl) (fun Γ9 h9 X9 G9 L9 Z9 => ?_)
  have Y9 := zext_tr Y8 X9
  refine z_dup dX8_init_56 rfl ?_
  refine zci0 (d := 1) (mc9 := 6) (ms9 := 180) dX8_init_57 zkX8_41 zim_3 rfl rfl (G9.kd (r := 34) rfl (Nat.le_of_ble_eq_true rfl)) (by decide) (Nat.le_of_ble_eq_true rfl) (Nat.le_of_ble_eq_true rfl) ⟨(Nat.le_of_ble_eq_true rfl), (Nat.le_of_ble_eq_true rfl)⟩ (X3_init_34 G9 Z9 (fun Γ10 h10 X10 G10 E10 R10 _ => ?_))
  simp only [zres]
  have Y10 := zext_tr Y9 X10
  have M10 := zOm_sub L9 (Nat.le_of_ble_eq_true rfl) E10 R10
  refine z_cP G10 M10 (Nat.le_of_ble_eq_true rfl) zfX8_42 dX8_init_60 rfl (Or.inl ⟨_, rfl⟩) rfl rfl rfl rfl (fun k5 N5 => ?_)
  refine z_al0 dX8_init_63 (by decide) ?_
  refine z_cN (ci := 4) G10 N5 (Nat.le_of_ble_eq_true rfl) (Nat.le_of_ble_eq_true rfl) rfl dX8_init_64 (Nat.le_of_ble_eq_true rfl) zclX8_46 zins_4 zini_4 (Nat.le_of_ble_eq_true rfl) (Nat.le_of_ble_eq_true rfl) (fun Γ11 h11 X11 G11 L11 Z11 => ?_)
  have Y11 := zext_tr Y10 X11
  refine z_dup dX8_init_67 rfl ?_
  refine zci0 (d := 1) (mc9 := 35) (ms9 := 1595) dX8_init_68 zkX8_48 zim_4 rfl rfl (G11.kd (r := 41) rfl (Nat.le_of_ble_eq_true rfl)) (by decide) (Nat.le_of_ble_eq_true rfl) (Nat.le_of_ble_eq_true rfl) ⟨(Nat.le_of_ble_eq_true rfl), (Nat.le_of_ble_eq_true rfl)⟩ (X4_init_41 G11 Z11 (fun Γ12 h12 X12 G12 E12 R12 _ => ?_))
  simp only [zres]
  have Y12 := zext_tr Y11 X12
  have M12 := zOm_sub L11 (Nat.le_of_ble_eq_true rfl) E12 R12
  refine z_cP G12 M12 (Nat.le_of_ble_eq_true rfl) zfX8_49 dX8_init_71 rfl (Or.inl ⟨_, rfl⟩) rfl rfl rfl rfl (fun k6 N6 => ?_)
  refine z_al0 dX8_init_74 (by decide) ?_
  refine z_cN (ci := 6) G12 N6 (Nat.le_of_ble_eq_true rfl) (Nat.le_of_ble_eq_true rfl) rfl dX8_init_75 (Nat.le_of_ble_eq_true rfl) zclX8_53 zins_6 zini_6 (Nat.le_of_ble_eq_true rfl) (Nat.le_of_ble_eq_true rfl) (fun Γ13 h13 X13 G13 L13 Z13 => ?_)
  have Y13 := zext_tr Y12 X13
  refine z_dup dX8_init_78 rfl ?_
  refine z_al0 dX8_init_79 (by decide) ?_
  refine z_cG (v := 15) G13 L13 (Nat.le_of_ble_eq_true rfl) rfl zfX8_35 dX8_init_80 rfl rfl ?_
  refine z_al0 dX8_init_83 (by decide) ?_
  refine z_cG (v := 41) G13 L13 (Nat.le_of_ble_eq_true rfl) rfl zfX8_49 dX8_init_84 rfl rfl ?_
  refine zci2 (d := 1) (mc9 := 8) (ms9 := 375) dX8_init_87 zkX8_55 zim_6 rfl rfl (G13.kd (r := 77) rfl (Nat.le_of_ble_eq_true rfl)) (by decide) (Nat.le_of_ble_eq_true rfl) (Nat.le_of_ble_eq_true rfl) ⟨(Nat.le_of_ble_eq_true rfl), (Nat.le_of_ble_eq_true rfl)⟩ (X6_init_77 G13 Z13 (fun Γ14 h14 X14 G14 E14 R14 _ => ?_))
  simp only [zres]
  have Y14 := zext_tr Y13 X14
  have M14 := zOm_sub L13 (Nat.le_of_ble_eq_true rfl) E14 R14
  refine z_cP G14 M14 (Nat.le_of_ble_eq_true rfl) zfX8_58 dX8_init_90 rfl (Or.inl ⟨_, rfl⟩) rfl rfl rfl rfl (fun k7 N7 => ?_)
  refine z_al0 dX8_init_93 (by decide) ?_
  refine z_bipush (x := ((100 : Nat) : Int)) dX8_init_94 (by rfl) (by decide) ?_
  refine z_cAI (N := 100) dX8_init_96 G14 N7 (Nat.le_of_ble_eq_true rfl) (Nat.le_of_ble_eq_true rfl) rfl (Nat.le_of_ble_eq_true rfl) (Nat.le_of_ble_eq_true rfl) (Nat.le_of_ble_eq_true rfl) (fun Γ15 h15 X15 G15 L15 Z15 => ?_)
  have Y15 := zext_tr Y14 X15
  refine z_cP G15 L15 (Nat.le_of_ble_eq_true rfl) zfX8_62 dX8_init_98 rfl (Or.inr ⟨_, rfl⟩) rfl rfl rfl rfl (fun k8 N8 => ?_)
  refine z_al0 dX8_init_101 (by decide) ?_
  refine z_cG (v := 86) G15 N8 (Nat.le_of_ble_eq_true rfl) rfl zfX8_62 dX8_init_102 rfl rfl ?_
  refine z_iconst dX8_init_105 (by decide) ?_
  refine zcsC2 (d := 0) (mc9 := 0) (ms9 := 0) dX8_init_106 zkX8_66 ztJ7_fill_53178 (Nat.le_of_ble_eq_true rfl) (Nat.le_of_ble_eq_true rfl) (Nat.le_of_ble_eq_true rfl) ⟨(Nat.le_of_ble_eq_true rfl), (Nat.le_of_ble_eq_true rfl)⟩ (J7_fill_53178_ct (by decide) (G15.kd (r := 86) rfl (Nat.le_of_ble_eq_true rfl)) (by decide) (fun h16 E16 R16 _ => ?_))
  simp only [zres]
  have M16 := zOm_sub (x := 85) (x2 := 86) N8 (Nat.le_of_ble_eq_true rfl) (fun q hq => E16 q (by omega)) (fun q q1 q2 => by
    obtain rfl : q = 86 := by omega
    exact fun j hj => R16 j hj)
  refine z_al0 dX8_init_109 (by decide) ?_
  refine z_sipush (x := ((201 : Nat) : Int)) dX8_init_110 (by rfl) (by decide) ?_
  refine z_cAZ (N := 201) dX8_init_113 G15 M16 (Nat.le_of_ble_eq_true rfl) (Nat.le_of_ble_eq_true rfl) rfl (Nat.le_of_ble_eq_true rfl) (Nat.le_of_ble_eq_true rfl) (Nat.le_of_ble_eq_true rfl) (fun Γ17 h17 X17 G17 L17 Z17 => ?_)
  have Y17 := zext_tr Y15 X17
  have M17 := zOm_add L17 (by rw [Z17]; exact (fun _ _ => rfl))
  refine z_cP G17 M17 (Nat.le_of_ble_eq_true rfl) zfX8_72 dX8_init_115 rfl (Or.inr ⟨_, rfl⟩) rfl rfl rfl rfl (fun k9 N9 => ?_)
  refine z_al0 dX8_init_118 (by decide) ?_
  refine z_bipush (x := ((8 : Nat) : Int)) dX8_init_119 (by rfl) (by decide) ?_
  refine z_cAI (N := 8) dX8_init_121 G17 N9 (Nat.le_of_ble_eq_true rfl) (Nat.le_of_ble_eq_true rfl) rfl (Nat.le_of_ble_eq_true rfl) (Nat.le_of_ble_eq_true rfl) (Nat.le_of_ble_eq_true rfl) (fun Γ18 h18 X18 G18 L18 Z18 => ?_)
  have Y18 := zext_tr Y17 X18
  have M18 := zOm_add L18 (by rw [Z18]; exact (fun _ _ => rfl))
  refine z_cP G18 M18 (Nat.le_of_ble_eq_true rfl) zfX8_76 dX8_init_123 rfl (Or.inr ⟨_, rfl⟩) rfl rfl rfl rfl (fun k10 N10 => ?_)
  refine z_al0 dX8_init_126 (by decide) ?_
  refine z_bipush (x := ((9 : Nat) : Int)) dX8_init_127 (by rfl) (by decide) ?_
  refine z_cPi G18 N10 (Nat.le_of_ble_eq_true rfl) zfX8_79 dX8_init_129 rfl rfl rfl (fun k11 N11 => ?_)
  refine z_ret dX8_init_132 rfl (Nat.le_of_ble_eq_true rfl) (Nat.le_of_ble_eq_true rfl) Y18 ?_
  exact hQ _ _ Y18 G18 N11.1 (zOm_end N11 (by unfold zRk; decide +kernel))
theorem zoiX9_1 : Cond.methodLink RX9 1 Lib.objectInit ∈ zTB := by decide +kernel
theorem zconX9_88 : Cond.constant RX9 88 (Int32.ofInt 120600) ∈ zTB := by decide +kernel
set_option maxRecDepth 4000 in
theorem X9_init_89 {l : Launch} {Γ : zC} {h : zM} {Q : Option zV → zC → zM → Prop} (G0 : zG0 89 Γ) (hz : h 89 = fun _ => 0) (hQ : ∀ Γ' h', zext Γ Γ' → zG0 120 Γ' → (∀ q, q < 89 → h' q = h q) → (∀ q, 89 ≤ q → q ≤ 120 → zRk q (h' q)) → Q none Γ' h') : zCT l mX9_init 1 31 148706 Γ [zR 89] h Q := by
  refine zCT_of (by decide) (Nat.le_of_ble_eq_true rfl) (ls := [some (zR 89)]) rfl ?_
  have M0 := zOm_start hz
  refine z_al0 dX9_init_0 (by decide) ?_
  refine z_objI dX9_init_1 zoiX9_1 (G0.kd (r := 89) rfl (Nat.le_of_ble_eq_true rfl)) (Nat.le_of_ble_eq_true rfl) (Nat.le_of_ble_eq_true rfl) (by decide) ?_
  refine z_al0 dX9_init_4 (by decide) ?_
  refine z_sipush (x := ((160 : Nat) : Int)) dX9_init_5 (by rfl) (by decide) ?_
  refine z_cAB (N := 160) dX9_init_8 G0 M0 (Nat.le_of_ble_eq_true rfl) (Nat.le_of_ble_eq_true rfl) rfl (Nat.le_of_ble_eq_true rfl) (Nat.le_of_ble_eq_true rfl) (Nat.le_of_ble_eq_true rfl) (fun Γ1 h1 X1 G1 L1 Z1 => ?_)
  have Y1 := zext_tr (zext_rf _) X1
  have M1 := zOm_add L1 (by rw [Z1]; exact (fun _ _ => rfl))
  refine z_cP G1 M1 (Nat.le_of_ble_eq_true rfl) zfX9_9 dX9_init_10 rfl (Or.inr ⟨_, rfl⟩) rfl rfl rfl rfl (fun k1 N1 => ?_)
  refine z_al0 dX9_init_13 (by decide) ?_
  refine z_sipush (x := ((640 : Nat) : Int)) dX9_init_14 (by rfl) (by decide) ?_
  refine z_cAB (N := 640) dX9_init_17 G1 N1 (Nat.le_of_ble_eq_true rfl) (Nat.le_of_ble_eq_true rfl) rfl (Nat.le_of_ble_eq_true rfl) (Nat.le_of_ble_eq_true rfl) (Nat.le_of_ble_eq_true rfl) (fun Γ2 h2 X2 G2 L2 Z2 => ?_)
  have Y2 := zext_tr Y1 X2
  have M2 := zOm_add L2 (by rw [Z2]; exact (fun _ _ => rfl))
  refine z_cP G2 M2 (Nat.le_of_ble_eq_true rfl) zfX9_13 dX9_init_19 rfl (Or.inr ⟨_, rfl⟩) rfl rfl rfl rfl (fun k2 N2 => ?_)
  refine z_al0 dX9_init_22 (by decide) ?_
  refine z_iconst dX9_init_23 (by decide) ?_
  refine z_cAI (N := 4) dX9_init_24 G2 N2 (Nat.le_of_ble_eq_true rfl) (Nat.le_of_ble_eq_true rfl) rfl (Nat.le_of_ble_eq_true rfl) (Nat.le_of_ble_eq_true rfl) (Nat.le_of_ble_eq_true rfl) (fun Γ3 h3 X3 G3 L3 Z3 => ?_)
  have Y3 := zext_tr Y2 X3
  have M3 := zOm_add L3 (by rw [Z3]; exact (fun _ _ => rfl))
  refine z_cP G3 M3 (Nat.le_of_ble_eq_true rfl) zfX9_16 dX9_init_26 rfl (Or.inr ⟨_, rfl⟩) rfl rfl rfl rfl (fun k3 N3 => ?_)
  refine z_al0 dX9_init_29 (by decide) ?_
  refine z_sipush (x := ((128 : Nat) : Int)) dX9_init_30 (by rfl) (by decide) ?_
  refine z_cAI (N := 128) dX9_init_33 G3 N3 (Nat.le_of_ble_eq_true rfl) (Nat.le_of_ble_eq_true rfl) rfl (Nat.le_of_ble_eq_true rfl) (Nat.le_of_ble_eq_true rfl) (Nat.le_of_ble_eq_true rfl) (fun Γ4 h4 X4 G4 L4 Z4 => ?_)
  have Y4 := zext_tr Y3 X4
  have M4 := zOm_add L4 (by rw [Z4]; exact (fun _ _ => rfl))
  refine z_cP G4 M4 (Nat.le_of_ble_eq_true rfl) zfX9_20 dX9_init_35 rfl (Or.inr ⟨_, rfl⟩) rfl rfl rfl rfl (fun k4 N4 => ?_)
  refine z_al0 dX9_init_38 (by decide) ?_
  refine z_al0 dX9_init_39 (by decide) ?_
  refine z_cG (v := 90) G4 N4 (Nat.le_of_ble_eq_true rfl) rfl zfX9_9 dX9_init_40 rfl rfl ?_
  refine z_cPn G4 N4 (Nat.le_of_ble_eq_true rfl) zfX9_23 dX9_init_43 rfl (Or.inr ⟨_, rfl⟩) rfl rfl (fun k5 N5 => ?_)
  refine z_al0 dX9_init_46 (by decide) ?_
  refine z_ldcS0 dX9_init_47 rfl ?_
  refine z_cP G4 N5 (Nat.le_of_ble_eq_true rfl) zfX9_28 dX9_init_49 rfl (Or.inl ⟨_, rfl⟩) rfl rfl rfl rfl (fun k6 N6 => ?_)
  refine z_al0 dX9_init_52 (by decide) ?_
  refine z_ldcS1 dX9_init_53 rfl ?_
  refine z_cP G4 N6 (Nat.le_of_ble_eq_true rfl) zfX9_34 dX9_init_55 rfl (Or.inl ⟨_, rfl⟩) rfl rfl rfl rfl (fun k7 N7 => ?_)
  refine z_al0 dX9_init_58 (by decide) ?_
  refine z_bipush (x := ((6 : Nat) : Int)) dX9_init_59 (by rfl) (by decide) ?_
  refine z_cAI (N := 6) dX9_init_61 G4 N7 (Nat.le_of_ble_eq_true rfl) (Nat.le_of_ble_eq_true rfl) rfl (Nat.le_of_ble_eq_true rfl) (Nat.le_of_ble_eq_true rfl) (Nat.le_of_ble_eq_true rfl) (fun Γ5 h5 X5 G5 L5 Z5 => ?_)
  have Y5 := zext_tr Y4 X5
  have M5 := zOm_add L5 (by rw [Z5]; exact (fun _ _ => rfl))
  refine z_cP G5 M5 (Nat.le_of_ble_eq_true rfl) zfX9_37 dX9_init_63 rfl (Or.inr ⟨_, rfl⟩) rfl rfl rfl rfl (fun k8 N8 => ?_)
  refine z_al0 dX9_init_66 (by decide) ?_
  refine z_bipush (x := ((6 : Nat) : Int)) dX9_init_67 (by rfl) (by decide) ?_
  refine z_cAI (N := 6) dX9_init_69 G5 N8 (Nat.le_of_ble_eq_true rfl) (Nat.le_of_ble_eq_true rfl) rfl (Nat.le_of_ble_eq_true rfl) (Nat.le_of_ble_eq_true rfl) (Nat.le_of_ble_eq_true rfl) (fun Γ6 h6 X6 G6 L6 Z6 => ?_)
  have Y6 := zext_tr Y5 X6
  have M6 := zOm_add L6 (by rw [Z6]; exact (fun _ _ => rfl))
  refine z_cP G6 M6 (Nat.le_of_ble_eq_true rfl) zfX9_40 dX9_init_71 rfl (Or.inr ⟨_, rfl⟩) rfl rfl rfl rfl (fun k9 N9 => ?_)
  refine z_al0 dX9_init_74 (by decide) ?_
  refine z_bipush (x := ((36 : Nat) : Int)) dX9_init_75 (by rfl) (by decide) ?_
  refine z_cAI (N := 36) dX9_init_77 G6 N9 (Nat.le_of_ble_eq_true rfl) (Nat.le_of_ble_eq_true rfl) rfl (Nat.le_of_ble_eq_true rfl) (Nat.le_of_ble_eq_true rfl) (Nat.le_of_ble_eq_true rfl) (fun Γ7 h7 X7 G7 L7 Z7 => ?_)
  have Y7 := zext_tr Y6 X7
  have M7 := zOm_add L7 (by rw [Z7]; exact (fun _ _ => rfl))
  refine z_cP G7 M7 (Nat.le_of_ble_eq_true rfl) zfX9_43 dX9_init_79 rfl (Or.inr ⟨_, rfl⟩) rfl rfl rfl rfl (fun k10 N10 => ?_)
  refine z_al0 dX9_init_82 (by decide) ?_
  refine z_bipush (x := ((36 : Nat) : Int)) dX9_init_83 (by rfl) (by decide) ?_
  refine z_cAI (N := 36) dX9_init_85 G7 N10 (Nat.le_of_ble_eq_true rfl) (Nat.le_of_ble_eq_true rfl) rfl (Nat.le_of_ble_eq_true rfl) (Nat.le_of_ble_eq_true rfl) (Nat.le_of_ble_eq_true rfl) (fun Γ8 h8 X8 G8 L8 Z8 => ?_)
  have Y8 := zext_tr Y7 X8
  have M8 := zOm_add L8 (by rw [Z8]; exact (fun _ _ => rfl))
  refine z_cP G8 M8 (Nat.le_of_ble_eq_true rfl) zfX9_46 dX9_init_87 rfl (Or.inr ⟨_, rfl⟩) rfl rfl rfl rfl (fun k11 N11 => ?_)
  refine z_al0 dX9_init_90 (by decide) ?_
  refine z_bipush (x := ((6 : Nat) : Int)) dX9_init_91 (by rfl) (by decide) ?_
  refine z_cAI (N := 6) dX9_init_93 G8 N11 (Nat.le_of_ble_eq_true rfl) (Nat.le_of_ble_eq_true rfl) rfl (Nat.le_of_ble_eq_true rfl) (Nat.le_of_ble_eq_true rfl) (Nat.le_of_ble_eq_true rfl) (fun Γ9 h9 X9 G9 L9 Z9 => ?_)
  have Y9 := zext_tr Y8 X9
  have M9 := zOm_add L9 (by rw [Z9]; exact (fun _ _ => rfl))
  refine z_cP G9 M9 (Nat.le_of_ble_eq_true rfl) zfX9_49 dX9_init_95 rfl (Or.inr ⟨_, rfl⟩) rfl rfl rfl rfl (fun k12 N12 => ?_)
  refine z_al0 dX9_init_98 (by decide) ?_
  refine z_bipush (x := ((20 : Nat) : Int)) dX9_init_99 (by rfl) (by decide) ?_
  refine z_cAI (N := 20) dX9_init_101 G9 N12 (Nat.le_of_ble_eq_true rfl) (Nat.le_of_ble_eq_true rfl) rfl (Nat.le_of_ble_eq_true rfl) (Nat.le_of_ble_eq_true rfl) (Nat.le_of_ble_eq_true rfl) (fun Γ10 h10 X10 G10 L10 Z10 => ?_)
  have Y10 := zext_tr Y9 X10
  have M10 := zOm_add L10 (by rw [Z10]; exact (fun _ _ => rfl))
  refine z_cP G10 M10 (Nat.le_of_ble_eq_true rfl) zfX9_52 dX9_init_103 rfl (Or.inr ⟨_, rfl⟩) rfl rfl rfl rfl (fun k13 N13 => ?_)
  refine z_al0 dX9_init_106 (by decide) ?_
  refine z_bipush (x := ((20 : Nat) : Int)) dX9_init_107 (by rfl) (by decide) ?_
  refine z_cAI (N := 20) dX9_init_109 G10 N13 (Nat.le_of_ble_eq_true rfl) (Nat.le_of_ble_eq_true rfl) rfl (Nat.le_of_ble_eq_true rfl) (Nat.le_of_ble_eq_true rfl) (Nat.le_of_ble_eq_true rfl) (fun Γ11 h11 X11 G11 L11 Z11 => ?_)
  have Y11 := zext_tr Y10 X11
  have M11 := zOm_add L11 (by rw [Z11]; exact (fun _ _ => rfl))
  refine z_cP G11 M11 (Nat.le_of_ble_eq_true rfl) zfX9_55 dX9_init_111 rfl (Or.inr ⟨_, rfl⟩) rfl rfl rfl rfl (fun k14 N14 => ?_)
  refine z_al0 dX9_init_114 (by decide) ?_
  refine z_bipush (x := ((20 : Nat) : Int)) dX9_init_115 (by rfl) (by decide) ?_
  refine z_cAI (N := 20) dX9_init_117 G11 N14 (Nat.le_of_ble_eq_true rfl) (Nat.le_of_ble_eq_true rfl) rfl (Nat.le_of_ble_eq_true rfl) (Nat.le_of_ble_eq_true rfl) (Nat.le_of_ble_eq_true rfl) (fun Γ12 h12 X12 G12 L12 Z12 => ?_)
  have Y12 := zext_tr Y11 X12
  have M12 := zOm_add L12 (by rw [Z12]; exact (fun _ _ => rfl))
  refine z_cP G12 M12 (Nat.le_of_ble_eq_true rfl) zfX9_58 dX9_init_119 rfl (Or.inr ⟨_, rfl⟩) rfl rfl rfl rfl (fun k15 N15 => ?_)
  refine z_al0 dX9_init_122 (by decide) ?_
  refine z_iconst dX9_init_123 (by decide) ?_
  refine z_cPi G12 N15 (Nat.le_of_ble_eq_true rfl) zfX9_61 dX9_init_124 rfl rfl rfl (fun k16 N16 => ?_)
  refine z_al0 dX9_init_127 (by decide) ?_
  refine z_bipush (x := ((9 : Nat) : Int)) dX9_init_128 (by rfl) (by decide) ?_
  refine z_cPi G12 N16 (Nat.le_of_ble_eq_true rfl) zfX9_65 dX9_init_130 rfl rfl rfl (fun k17 N17 => ?_)
  refine z_al0 dX9_init_133 (by decide) ?_
  refine z_sipush (x := ((201 : Nat) : Int)) dX9_init_134 (by rfl) (by decide) ?_
  refine z_cAZ (N := 201) dX9_init_137 G12 N17 (Nat.le_of_ble_eq_true rfl) (Nat.le_of_ble_eq_true rfl) rfl (Nat.le_of_ble_eq_true rfl) (Nat.le_of_ble_eq_true rfl) (Nat.le_of_ble_eq_true rfl) (fun Γ13 h13 X13 G13 L13 Z13 => ?_)
  have Y13 := zext_tr Y12 X13
  have M13 := zOm_add L13 (by rw [Z13]; exact (fun _ _ => rfl))
  refine z_cP G13 M13 (Nat.le_of_ble_eq_true rfl) zfX9_68 dX9_init_139 rfl (Or.inr ⟨_, rfl⟩) rfl rfl rfl rfl (fun k18 N18 => ?_)
  refine z_al0 dX9_init_142 (by decide) ?_
  refine z_sipush (x := ((12261 : Nat) : Int)) dX9_init_143 (by rfl) (by decide) ?_
  refine z_cAZ (N := 12261) dX9_init_146 G13 N18 (Nat.le_of_ble_eq_true rfl) (Nat.le_of_ble_eq_true rfl) rfl (Nat.le_of_ble_eq_true rfl) (Nat.le_of_ble_eq_true rfl) (Nat.le_of_ble_eq_true rfl) (fun Γ14 h14 X14 G14 L14 Z14 => ?_)
  have Y14 := zext_tr Y13 X14
  have M14 := zOm_add L14 (by rw [Z14]; exact (fun _ _ => rfl))
  refine z_cP G14 M14 (Nat.le_of_ble_eq_true rfl) zfX9_72 dX9_init_148 rfl (Or.inr ⟨_, rfl⟩) rfl rfl rfl rfl (fun k19 N19 => ?_)
  refine z_al0 dX9_init_151 (by decide) ?_
  refine z_sipush (x := ((201 : Nat) : Int)) dX9_init_152 (by rfl) (by decide) ?_
  refine z_cAJ (N := 201) dX9_init_155 G14 N19 (Nat.le_of_ble_eq_true rfl) (Nat.le_of_ble_eq_true rfl) rfl (Nat.le_of_ble_eq_true rfl) (Nat.le_of_ble_eq_true rfl) (Nat.le_of_ble_eq_true rfl) (fun Γ15 h15 X15 G15 L15 Z15 => ?_)
  have Y15 := zext_tr Y14 X15
  have M15 := zOm_add L15 (by rw [Z15]; exact (fun _ _ => rfl))
  refine z_cP G15 M15 (Nat.le_of_ble_eq_true rfl) zfX9_75 dX9_init_157 rfl (Or.inr ⟨_, rfl⟩) rfl rfl rfl rfl (fun k20 N20 => ?_)
  refine z_al0 dX9_init_160 (by decide) ?_
  refine z_sipush (x := ((201 : Nat) : Int)) dX9_init_161 (by rfl) (by decide) ?_
  refine z_cAJ (N := 201) dX9_init_164 G15 N20 (Nat.le_of_ble_eq_true rfl) (Nat.le_of_ble_eq_true rfl) rfl (Nat.le_of_ble_eq_true rfl) (Nat.le_of_ble_eq_true rfl) (Nat.le_of_ble_eq_true rfl) (fun Γ16 h16 X16 G16 L16 Z16 => ?_)
  have Y16 := zext_tr Y15 X16
  have M16 := zOm_add L16 (by rw [Z16]; exact (fun _ _ => rfl))
  refine z_cP G16 M16 (Nat.le_of_ble_eq_true rfl) zfX9_79 dX9_init_166 rfl (Or.inr ⟨_, rfl⟩) rfl rfl rfl rfl (fun k21 N21 => ?_)
  refine z_al0 dX9_init_169 (by decide) ?_
  refine z_bipush (x := ((100 : Nat) : Int)) dX9_init_170 (by rfl) (by decide) ?_
  refine z_cAI (N := 100) dX9_init_172 G16 N21 (Nat.le_of_ble_eq_true rfl) (Nat.le_of_ble_eq_true rfl) rfl (Nat.le_of_ble_eq_true rfl) (Nat.le_of_ble_eq_true rfl) (Nat.le_of_ble_eq_true rfl) (fun Γ17 h17 X17 G17 L17 Z17 => ?_)
  have Y17 := zext_tr Y16 X17
  have M17 := zOm_add L17 (by rw [Z17]; exact (fun _ _ => rfl))
  refine z_cP G17 M17 (Nat.le_of_ble_eq_true rfl) zfX9_82 dX9_init_174 rfl (Or.inr ⟨_, rfl⟩) rfl rfl rfl rfl (fun k22 N22 => ?_)
  refine z_al0 dX9_init_177 (by decide) ?_
  refine z_bipush (x := ((18 : Nat) : Int)) dX9_init_178 (by rfl) (by decide) ?_
  refine z_cAI (N := 18) dX9_init_180 G17 N22 (Nat.le_of_ble_eq_true rfl) (Nat.le_of_ble_eq_true rfl) rfl (Nat.le_of_ble_eq_true rfl) (Nat.le_of_ble_eq_true rfl) (Nat.le_of_ble_eq_true rfl) (fun Γ18 h18 X18 G18 L18 Z18 => ?_)
  have Y18 := zext_tr Y17 X18
  have M18 := zOm_add L18 (by rw [Z18]; exact (fun _ _ => rfl))
  refine z_cP G18 M18 (Nat.le_of_ble_eq_true rfl) zfX9_85 dX9_init_182 rfl (Or.inr ⟨_, rfl⟩) rfl rfl rfl rfl (fun k23 N23 => ?_)
  refine z_al0 dX9_init_185 (by decide) ?_
  refine z_ldc (x := ((120600 : Nat) : Int)) dX9_init_186 zconX9_88 (by decide) ?_
  refine z_cAZ (N := 120600) dX9_init_188 G18 N23 (Nat.le_of_ble_eq_true rfl) (Nat.le_of_ble_eq_true rfl) rfl (Nat.le_of_ble_eq_true rfl) (Nat.le_of_ble_eq_true rfl) (Nat.le_of_ble_eq_true rfl) (fun Γ19 h19 X19 G19 L19 Z19 => ?_)
  have Y19 := zext_tr Y18 X19
  have M19 := zOm_add L19 (by rw [Z19]; exact (fun _ _ => rfl))
  refine z_cP G19 M19 (Nat.le_of_ble_eq_true rfl) zfX9_89 dX9_init_190 rfl (Or.inr ⟨_, rfl⟩) rfl rfl rfl rfl (fun k24 N24 => ?_)
  refine z_al0 dX9_init_193 (by decide) ?_
  refine z_sipush (x := ((600 : Nat) : Int)) dX9_init_194 (by rfl) (by decide) ?_
  refine z_cAZ (N := 600) dX9_init_197 G19 N24 (Nat.le_of_ble_eq_true rfl) (Nat.le_of_ble_eq_true rfl) rfl (Nat.le_of_ble_eq_true rfl) (Nat.le_of_ble_eq_true rfl) (Nat.le_of_ble_eq_true rfl) (fun Γ20 h20 X20 G20 L20 Z20 => ?_)
  have Y20 := zext_tr Y19 X20
  have M20 := zOm_add L20 (by rw [Z20]; exact (fun _ _ => rfl))
  refine z_cP G20 M20 (Nat.le_of_ble_eq_true rfl) zfX9_92 dX9_init_199 rfl (Or.inr ⟨_, rfl⟩) rfl rfl rfl rfl (fun k25 N25 => ?_)
  refine z_al0 dX9_init_202 (by decide) ?_
  refine z_sipush (x := ((12600 : Nat) : Int)) dX9_init_203 (by rfl) (by decide) ?_
  refine z_cAB (N := 12600) dX9_init_206 G20 N25 (Nat.le_of_ble_eq_true rfl) (Nat.le_of_ble_eq_true rfl) rfl (Nat.le_of_ble_eq_true rfl) (Nat.le_of_ble_eq_true rfl) (Nat.le_of_ble_eq_true rfl) (fun Γ21 h21 X21 G21 L21 Z21 => ?_)
  have Y21 := zext_tr Y20 X21
  have M21 := zOm_add L21 (by rw [Z21]; exact (fun _ _ => rfl))
  refine z_cP G21 M21 (Nat.le_of_ble_eq_true rfl) zfX9_95 dX9_init_208 rfl (Or.inr ⟨_, rfl⟩) rfl rfl rfl rfl (fun k26 N26 => ?_)
  refine z_al0 dX9_init_211 (by decide) ?_
  refine z_bipush (x := ((9 : Nat) : Int)) dX9_init_212 (by rfl) (by decide) ?_
  refine z_cAI (N := 9) dX9_init_214 G21 N26 (Nat.le_of_ble_eq_true rfl) (Nat.le_of_ble_eq_true rfl) rfl (Nat.le_of_ble_eq_true rfl) (Nat.le_of_ble_eq_true rfl) (Nat.le_of_ble_eq_true rfl) (fun Γ22 h22 X22 G22 L22 Z22 => ?_)
  have Y22 := zext_tr Y21 X22
  have M22 := zOm_add L22 (by rw [Z22]; exact (fun _ _ => rfl))
  refine z_cP G22 M22 (Nat.le_of_ble_eq_true rfl) zfX9_98 dX9_init_216 rfl (Or.inr ⟨_, rfl⟩) rfl rfl rfl rfl (fun k27 N27 => ?_)
  refine z_al0 dX9_init_219 (by decide) ?_
  refine z_bipush (x := ((9 : Nat) : Int)) dX9_init_220 (by rfl) (by decide) ?_
  refine z_cAI (N := 9) dX9_init_222 G22 N27 (Nat.le_of_ble_eq_true rfl) (Nat.le_of_ble_eq_true rfl) rfl (Nat.le_of_ble_eq_true rfl) (Nat.le_of_ble_eq_true rfl) (Nat.le_of_ble_eq_true rfl) (fun Γ23 h23 X23 G23 L23 Z23 => ?_)
  have Y23 := zext_tr Y22 X23
  have M23 := zOm_add L23 (by rw [Z23]; exact (fun _ _ => rfl))
  refine z_cP G23 M23 (Nat.le_of_ble_eq_true rfl) zfX9_101 dX9_init_224 rfl (Or.inr ⟨_, rfl⟩) rfl rfl rfl rfl (fun k28 N28 => ?_)
  refine z_al0 dX9_init_227 (by decide) ?_
  refine z_bipush (x := ((40 : Nat) : Int)) dX9_init_228 (by rfl) (by decide) ?_
  refine z_cAI (N := 40) dX9_init_230 G23 N28 (Nat.le_of_ble_eq_true rfl) (Nat.le_of_ble_eq_true rfl) rfl (Nat.le_of_ble_eq_true rfl) (Nat.le_of_ble_eq_true rfl) (Nat.le_of_ble_eq_true rfl) (fun Γ24 h24 X24 G24 L24 Z24 => ?_)
  have Y24 := zext_tr Y23 X24
  have M24 := zOm_add L24 (by rw [Z24]; exact (fun _ _ => rfl))
  refine z_cP G24 M24 (Nat.le_of_ble_eq_true rfl) zfX9_104 dX9_init_232 rfl (Or.inr ⟨_, rfl⟩) rfl rfl rfl rfl (fun k29 N29 => ?_)
  refine z_al0 dX9_init_235 (by decide) ?_
  refine z_bipush (x := ((40 : Nat) : Int)) dX9_init_236 (by rfl) (by decide) ?_
  refine z_cAI (N := 40) dX9_init_238 G24 N29 (Nat.le_of_ble_eq_true rfl) (Nat.le_of_ble_eq_true rfl) rfl (Nat.le_of_ble_eq_true rfl) (Nat.le_of_ble_eq_true rfl) (Nat.le_of_ble_eq_true rfl) (fun Γ25 h25 X25 G25 L25 Z25 => ?_)
  have Y25 := zext_tr Y24 X25
  have M25 := zOm_add L25 (by rw [Z25]; exact (fun _ _ => rfl))
  refine z_cP G25 M25 (Nat.le_of_ble_eq_true rfl) zfX9_107 dX9_init_240 rfl (Or.inr ⟨_, rfl⟩) rfl rfl rfl rfl (fun k30 N30 => ?_)
  refine z_al0 dX9_init_243 (by decide) ?_
  refine z_bipush (x := ((40 : Nat) : Int)) dX9_init_244 (by rfl) (by decide) ?_
  refine z_cAI (N := 40) dX9_init_246 G25 N30 (Nat.le_of_ble_eq_true rfl) (Nat.le_of_ble_eq_true rfl) rfl (Nat.le_of_ble_eq_true rfl) (Nat.le_of_ble_eq_true rfl) (Nat.le_of_ble_eq_true rfl) (fun Γ26 h26 X26 G26 L26 Z26 => ?_)
  have Y26 := zext_tr Y25 X26
  have M26 := zOm_add L26 (by rw [Z26]; exact (fun _ _ => rfl))
  refine z_cP G26 M26 (Nat.le_of_ble_eq_true rfl) zfX9_110 dX9_init_248 rfl (Or.inr ⟨_, rfl⟩) rfl rfl rfl rfl (fun k31 N31 => ?_)
  refine z_al0 dX9_init_251 (by decide) ?_
  refine z_sipush (x := ((201 : Nat) : Int)) dX9_init_252 (by rfl) (by decide) ?_
  refine z_cAZ (N := 201) dX9_init_255 G26 N31 (Nat.le_of_ble_eq_true rfl) (Nat.le_of_ble_eq_true rfl) rfl (Nat.le_of_ble_eq_true rfl) (Nat.le_of_ble_eq_true rfl) (Nat.le_of_ble_eq_true rfl) (fun Γ27 h27 X27 G27 L27 Z27 => ?_)
  have Y27 := zext_tr Y26 X27
  have M27 := zOm_add L27 (by rw [Z27]; exact (fun _ _ => rfl))
  refine z_cP G27 M27 (Nat.le_of_ble_eq_true rfl) zfX9_113 dX9_init_257 rfl (Or.inr ⟨_, rfl⟩) rfl rfl rfl rfl (fun k32 N32 => ?_)
  refine z_al0 dX9_init_260 (by decide) ?_
  refine z_sipush (x := ((201 : Nat) : Int)) dX9_init_261 (by rfl) (by decide) ?_
  refine z_cAZ (N := 201) dX9_init_264 G27 N32 (Nat.le_of_ble_eq_true rfl) (Nat.le_of_ble_eq_true rfl) rfl (Nat.le_of_ble_eq_true rfl) (Nat.le_of_ble_eq_true rfl) (Nat.le_of_ble_eq_true rfl) (fun Γ28 h28 X28 G28 L28 Z28 => ?_)
  have Y28 := zext_tr Y27 X28
  have M28 := zOm_add L28 (by rw [Z28]; exact (fun _ _ => rfl))
  refine z_cP G28 M28 (Nat.le_of_ble_eq_true rfl) zfX9_116 dX9_init_266 rfl (Or.inr ⟨_, rfl⟩) rfl rfl rfl rfl (fun k33 N33 => ?_)
  refine z_al0 dX9_init_269 (by decide) ?_
  refine z_bipush (x := ((61 : Nat) : Int)) dX9_init_270 (by rfl) (by decide) ?_
  refine z_cAI (N := 61) dX9_init_272 G28 N33 (Nat.le_of_ble_eq_true rfl) (Nat.le_of_ble_eq_true rfl) rfl (Nat.le_of_ble_eq_true rfl) (Nat.le_of_ble_eq_true rfl) (Nat.le_of_ble_eq_true rfl) (fun Γ29 h29 X29 G29 L29 Z29 => ?_)
  have Y29 := zext_tr Y28 X29
  have M29 := zOm_add L29 (by rw [Z29]; exact (fun _ _ => rfl))
  refine z_cP G29 M29 (Nat.le_of_ble_eq_true rfl) zfX9_119 dX9_init_274 rfl (Or.inr ⟨_, rfl⟩) rfl rfl rfl rfl (fun k34 N34 => ?_)
  refine z_al0 dX9_init_277 (by decide) ?_
  refine z_bipush (x := ((61 : Nat) : Int)) dX9_init_278 (by rfl) (by decide) ?_
  refine z_cAI (N := 61) dX9_init_280 G29 N34 (Nat.le_of_ble_eq_true rfl) (Nat.le_of_ble_eq_true rfl) rfl (Nat.le_of_ble_eq_true rfl) (Nat.le_of_ble_eq_true rfl) (Nat.le_of_ble_eq_true rfl) (fun Γ30 h30 X30 G30 L30 Z30 => ?_)
  have Y30 := zext_tr Y29 X30
  have M30 := zOm_add L30 (by rw [Z30]; exact (fun _ _ => rfl))
  refine z_cP G30 M30 (Nat.le_of_ble_eq_true rfl) zfX9_122 dX9_init_282 rfl (Or.inr ⟨_, rfl⟩) rfl rfl rfl rfl (fun k35 N35 => ?_)
  refine z_al0 dX9_init_285 (by decide) ?_
  refine z_sipush (x := ((180 : Nat) : Int)) dX9_init_286 (by rfl) (by decide) ?_
  refine z_cAI (N := 180) dX9_init_289 G30 N35 (Nat.le_of_ble_eq_true rfl) (Nat.le_of_ble_eq_true rfl) rfl (Nat.le_of_ble_eq_true rfl) (Nat.le_of_ble_eq_true rfl) (Nat.le_of_ble_eq_true rfl) (fun Γ31 h31 X31 G31 L31 Z31 => ?_)
  have Y31 := zext_tr Y30 X31
  have M31 := zOm_add L31 (by rw [Z31]; exact (fun _ _ => rfl))
  refine z_cP G31 M31 (Nat.le_of_ble_eq_true rfl) zfX9_125 dX9_init_291 rfl (Or.inr ⟨_, rfl⟩) rfl rfl rfl rfl (fun k36 N36 => ?_)
  refine z_ret dX9_init_294 rfl (Nat.le_of_ble_eq_true rfl) (Nat.le_of_ble_eq_true rfl) Y31 ?_
  exact hQ _ _ Y31 G31 N36.1 (zOm_end N36 (by unfold zRk; decide +kernel))
