/-! taboo: a call that returns or throws -/
def zNS : String := "java/util/NoSuchElementException"
def zXc (Γ : zC) (h : zM) (A : Nat → Prop) (QX : Prop) : String → State → State → Prop := fun E st t => E = zNS ∧ QX ∧ zWd Γ h A t.heap t ∧ va_F A st t
def zXT (l : Launch) (M : zMI) (d mc ms : Nat) (Γ : zC) (args : List zV) (h : zM) (Q : Option zV → zC → zM → Prop) (QX : Prop) : Prop :=
  (∀ v, v ∈ args → zov Γ v) → ∀ sz : Nat, vx_Met l M.1 (zwm M) (zrm d mc ms) (zPc Γ h args sz) (zQc Γ Q (zAO Γ sz)) (zXc Γ h (zAO Γ sz) QX) mc ms (zAO Γ sz)
def zFx (l : Launch) (M : zMI) (d mc ms : Nat) (Γ : zC) (h : zM) (Q : Option zV → zC → zM → Prop) (QX : Prop) : zF :=
  (l, M, zrm d mc ms, fun s => zAO Γ s.heap.size, fun s args below => vx_MQ below (zQc Γ Q (zAO Γ s.heap.size)) (zXc Γ h (zAO Γ s.heap.size) QX) args s mc ms (zAO Γ s.heap.size))
theorem zXT_of {l : Launch} {M : zMI} {d mc ms : Nat} {Γ : zC} {args : List zV} {h : zM} {Q : Option zV → zC → zM → Prop} {QX : Prop} {ls : List (Option zV)} (hy : plainName M.1.cls = true) (hn : (zent0 args).length ≤ M.2.2.1) (he : zent args M.2.2.1 = ls)
    (kk : zG (zFx l M d mc ms Γ h Q QX) 0 0 Γ h 0 ls []) (hx9 : zxt M.1 = [] := by exact if_neg (by decide)) : zXT l M d mc ms Γ args h Q QX := by
  intro hov sz
  refine vx_ofW (cc := M.2.1) (maxL := M.2.2.1) (ret := M.2.2.2) hy rfl ?_
  intro p e s m args9 below meth c s₁ B hml htb hv
  obtain ⟨rfl, hsz, ⟨hm, hP, hK, hD⟩, hSt⟩ := hv
  subst hsz
  have hts := atoms_spec (ws := zwm M) B.pre
  have hl := lv_entry (args.map (zval Γ)) (n := M.2.2.1) (by rw [← zent0_len]; exact hn)
  rw [lg_entry_eq]
  have htb2 : c.exceptionTable.toList = [] := by
    cases e9 : c.exceptionTable.toList with
    | nil => rfl
    | cons x xs => exact (htb x (by rw [e9]; exact List.mem_cons_self)).elim
  have hloc : zloc Γ ((lg_sl (args.map (zval Γ)) ++ List.replicate (M.2.2.1 - (lg_sl (args.map (zval Γ))).length) Slot.unset).toArray) M.2.2.1 ls := by
    refine ⟨hl.1, hl.2.1, fun i v hi => ?_⟩
    rw [← he, zent, List.getElem?_append] at hi
    split at hi
    · have h1 := hl.2.2 _ (zent0_at Γ args 0 i v hi)
      simpa using h1
    · have h2 := List.mem_of_getElem? hi
      exact absurd (List.eq_of_mem_replicate h2) (by simp)
  have hlv : ∀ v, some v ∈ ls → zov Γ v := by
    intro v hv
    rw [← he, zent] at hv
    rcases List.mem_append.mp hv with h1 | h1
    · exact hov v (zent_mem _ _ h1)
    · exact absurd (List.eq_of_mem_replicate h1) (by simp)
  have hD2 : va_D (zAO Γ s.heap.size) (zws Γ h) := hD.weaken (fun k q hk _ => by
    unfold zws at hk
    rw [List.getElem?_map] at hk
    by_cases hlt : k < (zks Γ).length
    · rw [List.getElem?_range hlt] at hk
      cases hk
      exact Or.inl ⟨k, hlt, rfl⟩
    · rw [List.getElem?_eq_none (by simp; omega)] at hk
      cases hk)
  exact kk p e s m _ below meth c s.heap [] _ ⟨B.exec, B.bytes, B.returns, hml, findClass_of_methodNamed B.named, fun w hw => hts w (List.mem_cons_of_mem _ hw), B.notSynchronized, (name_of_methodNamed B.named B.method).1, htb2.trans hx9.symm⟩ hloc hlv (fun v hv => by cases hv) ⟨hm, hP, hK, hD2⟩ va_S.rf ⟨fun q hq => Or.inr hq, hSt⟩
theorem zG_ret {l : Launch} {M : zMI} {d mc ms k n : Nat} {Γ0 Γ : zC} {h0 h : zM} {Q : Option zV → zC → zM → Prop} {QX : Prop} {pc : Nat} {ls : List (Option zV)} {st : List zV} (kk : zG (zFn l M d mc ms Γ0 Q) k n Γ h pc ls st) : zG (zFx l M d mc ms Γ0 h0 Q QX) k n Γ h pc ls st := by
  intro p e s m args below meth c H locs lsr hB hl hlv hst hW hS hA
  exact vx_ret (kk p e s m args below meth c H locs lsr hB hl hlv hst hW hS hA)
def zNSw : List Cond := zatS RX8 125 zNS 13 prog_27_method_4_code "java/lang/RuntimeException" ["java/lang/Exception"]
theorem zNSt : ∀ w ∈ zNSw, w ∈ lw_tbl := by decide +kernel
theorem znsG : ∀ w ∈ Cond.classLink RX8 121 zNS :: Cond.initialized zNS :: zNSw, vx_ot w = true := by decide +kernel
theorem zNSb : zNSw.all (fun w => goodWord w || (match w with | .codeSync .. => true | .castable .. => true | .declares .. => true | _ => false)) = true := by decide +kernel
theorem zwarmS {w : Cond} (hs : w.steady = true) (ho : w.onTables = true) {s U : State} (hW : s.WarmedH U.vm) (hZ : va_Nw w s) : va_Nw w U := va_tabs ho (rfl : (s.setVm U.vm).vm = U.vm) (by
  have h9 : w.holds #[] s none s [] = true := hZ
  show w.holds #[] (s.setVm U.vm) none (s.setVm U.vm) [] = true
  unfold Cond.holds at h9 ⊢
  rw [Cond.value_setVm hW.alike w [] hs]
  exact h9)
theorem zNSh {aL args : Array Value} {sL s : State} (hW : sL.WarmedH s.vm) (h : ∀ w ∈ lw_tbl, w.before aL sL = true) (hts : ∀ w ∈ zTB, w.before args s = true) : ∀ w ∈ zNSw, w.before args s = true := by
  intro w hw
  have h1 := List.all_eq_true.mp zNSb w hw
  have h3 := h w (zNSt w hw)
  rcases Bool.or_eq_true_iff.mp h1 with h2 | h2
  · exact hts w (List.mem_filter.mpr ⟨zNSt w hw, h2⟩)
  · clear h1 hw
    cases w <;> first | (exact va_Nw.use rfl (va_Nw.warmC hW (va_Nw.of rfl h3))) | (exact va_Nw.use rfl (va_Nw.warmD hW (va_Nw.of rfl h3))) | (exact va_Nw.use rfl (zwarmS rfl rfl hW (va_Nw.of rfl h3))) | (cases h2)
theorem zxt_tb : zxt mX8_taboo.1 = [] := if_neg (by decide)
theorem znsL : Cond.classLink RX8 121 zNS ∈ zTB := by decide +kernel
theorem znsI : Cond.initialized zNS ∈ zTB := by decide +kernel
theorem znsS : Cond.stringRef RX8 123 "no such isle or day" ∈ lw_tbl := by decide +kernel
theorem znsU : Cond.laysStatic Bundle.tN "UNASSIGNED_STACK" Bundle.steD ∈ lw_tbl ∧ Cond.laysStatic Bundle.tN "SUPPRESSED_SENTINEL" Bundle.listD ∈ lw_tbl ∧ Cond.initialized Bundle.tN ∈ lw_tbl := by decide +kernel
theorem znsR : Cond.isRef (.static Bundle.tN "UNASSIGNED_STACK" Bundle.steD) ∈ flatC (Jvm.Cond.and given_1 narrow_1) ∧ Cond.isRef (.static Bundle.tN "SUPPRESSED_SENTINEL" Bundle.listD) ∈ flatC (Jvm.Cond.and given_1 narrow_1) := by decide +kernel
theorem z_throw {l : Launch} (hfl : l.stackTraces = false) {d : Nat} {Γ : zC} {h : zM} {Q : Option zV → zC → zM → Prop} {QX : Prop} {ls : List (Option zV)} (hd : 6 ≤ d) (hx : QX) : zG (zFx l mX8_taboo d 1 6 Γ h Q QX) 0 0 Γ h 18 ls [] := by
  intro p e s m args below meth c H locs lsr hB hl hlv hst hW hS hA
  obtain ⟨sL, aL, a1, a2, a3, a4, a5, a6⟩ := hA.2
  have hts := hB.2.2.2.2.2.1
  have htb : c.exceptionTable.toList = [] := hB.2.2.2.2.2.2.2.2.trans zxt_tb
  have hfl9 := flat_of_before _ a1
  have hA2 : ∀ q, q < sL.heap.size → ¬ zAO Γ s.heap.size q := fun q hq => (a5 q hq).1
  have hU : vx_Zq Bundle.tN "UNASSIGNED_STACK" Bundle.steD (zAO Γ s.heap.size) s s.heap := ((vx_Zqof (a2 _ znsU.1) (a2 _ znsU.2.2) (hfl9 _ znsR.1) hA2).moved a3.alike).kept (fun q hq _ => (a5 q hq).2)
  have hN : vx_Zq Bundle.tN "SUPPRESSED_SENTINEL" Bundle.listD (zAO Γ s.heap.size) s s.heap := ((vx_Zqof (a2 _ znsU.2.1) (a2 _ znsU.2.2) (hfl9 _ znsR.2) hA2).moved a3.alike).kept (fun q hq _ => (a5 q hq).2)
  have hstr : vk_R RX8 123 "no such isle or day" (zad Γ 1000002) s := vk_R.warm a3 (vk_R.of (a2 _ znsS) a6.2.2.1)
  have hat : ∀ w ∈ zNSw, w.before args s = true := zNSh a3 a2 hts
  refine zthS (ix := 13) (rx := prog_27_method_4_code) (Y0 := "java/lang/RuntimeException") (r0 := ["java/lang/Exception"]) (by decide +kernel) (by decide +kernel) (by decide +kernel) (by decide +kernel) (own := RX8) (cls := zNS) (text := "no such isle or day") (ik := 121) (is := 123) (ic := 125) (sa := zad Γ 1000002) (A := zAO Γ s.heap.size) hB.1 hB.2.1 hfl hB.2.2.2.2.1 (by decide) (by decide) (hts _ znsL) (hts _ znsI) hstr hat znsG hU hN hS (hl.1.trans hB.2.2.2.1.symm) dX8_taboo_18 dX8_taboo_21 dX8_taboo_22 dX8_taboo_24 dX8_taboo_27 (by rw [htb]; intro x hx; cases hx) ?_ ?_ ?_ ?_ hB.2.2.2.2.2.2.1 (fun t hv h1 h2 => ?_) hS.2.2 (Nat.le_refl _) (Nat.le_refl _)
  · show 2 + 3 < d; omega
  · show 0 + (13 * (2 + 1) + 43) ≤ 40 * d; omega
  · exact Nat.le_refl _
  · exact Nat.le_refl _
  · exact ⟨rfl, hx, ⟨hW.1, hW.2.1.kept (fun k x hx => h2 x.1 ((hW.2.1 k x hx).lt)), hW.2.2.1.moved hv, hW.2.2.2⟩, Nat.le_trans hS.1 h1, fun q hq hn => (h2 q (Nat.lt_of_lt_of_le hq hS.1)).trans (hS.2.1 q hq hn)⟩
theorem zxv1 {l : Launch} {M0 M : zMI} {d dd mc ms k n : Nat} {Γ0 Γ : zC} {Q0 : Option zV → zC → zM → Prop} {QX : Prop} {h0 h : zM} {pc idx : Nat} {ls : List (Option zV)} {rest : List zV} {r ci : Nat} {a0 : zV} (hd : decode M0.2.1 pc = .ok (.invokevirtual idx, 3)) (hL : zLnk M0.1.cls idx M 1) (hI : Cond.instanceMethod M.1 ∈ zTB) (hsl : Cond.selects M.1.cls M.1 M.1 ∈ zTB) (hk : zkd Γ r = some (.inl ci)) (hci : ci < 10) (hcn : zCn ci = M.1.cls) (hcat : (rest.map zct).sum ≤ 8) (hm : M.2.2.1 ≤ 21) (hdd : d < dd) (hkn : k ≤ mc ∧ n ≤ ms) (hC : zCT l M d 0 0 Γ [zR r, a0] h (fun r' Γ' h' => zext Γ Γ' → zG (zFx l M0 dd mc ms Γ0 h0 Q0 QX) k n Γ' h' (pc + 3) ls (zres r' rest))) : zG (zFx l M0 dd mc ms Γ0 h0 Q0 QX) k n Γ h pc ls (a0 :: zR r :: rest) :=
  z_callV (args := [a0]) hd hL hI hsl hk hci hcn rfl hcat ⟨by show d + 1 ≤ dd; omega, by show 8 + (M.2.2.1 + 11) + 40 * d ≤ 40 * dd; omega⟩ ⟨by show k + 0 ≤ mc; omega, by show n + 0 ≤ ms; omega⟩ hC (fun r' Γ' h' hx hq => hq hx)
theorem zxs1 {l : Launch} {M0 M : zMI} {d dd mc ms k n : Nat} {Γ0 Γ : zC} {Q0 : Option zV → zC → zM → Prop} {QX : Prop} {h0 h : zM} {pc idx : Nat} {ls : List (Option zV)} {rest : List zV} {a0 : zV} (hd : decode M0.2.1 pc = .ok (.invokestatic idx, 3)) (hL : zLnk M0.1.cls idx M 1) (hI : Cond.static M.1 ∈ zTB) (hcat : (rest.map zct).sum ≤ 8) (hm : M.2.2.1 ≤ 21) (hdd : d < dd) (hkn : k ≤ mc ∧ n ≤ ms) (hC : zCT l M d 0 0 Γ [a0] h (fun r' Γ' h' => zext Γ Γ' → zG (zFx l M0 dd mc ms Γ0 h0 Q0 QX) k n Γ' h' (pc + 3) ls (zres r' rest))) : zG (zFx l M0 dd mc ms Γ0 h0 Q0 QX) k n Γ h pc ls (a0 :: rest) :=
  z_callS (args := [a0]) hd hL hI rfl hcat ⟨by show d + 1 ≤ dd; omega, by show 8 + (M.2.2.1 + 11) + 40 * d ≤ 40 * dd; omega⟩ ⟨by show k + 0 ≤ mc; omega, by show n + 0 ≤ ms; omega⟩ hC (fun r' Γ' h' hx hq => hq hx)
set_option maxRecDepth 4000 in
theorem X8_taboo_ct {l : Launch} (hfl : l.stackTraces = false) {Γ : zC} {h0 h : zM} {Q : Option zV → zC → zM → Prop} {QX : Prop} {a b : Int} (hI : zIv Γ h0) (hF : zfr zSS h0 h) (hQ : (0 ≤ a ∧ a < h0 89 22) → (0 ≤ b ∧ b ≤ 99) → Q (some (zI (zTb h0 a b))) Γ h) (hX : ¬ ((0 ≤ a ∧ a < h0 89 22) ∧ 0 ≤ b ∧ b ≤ 99) → QX) : zXT l mX8_taboo 10 1 6 Γ [zR 1, zI a, zI b] h Q QX := by
  have hΓ := hI.base
  refine zXT_of (by decide) (Nat.le_of_ble_eq_true rfl) (ls := [some (zR 1), some (zI a), some (zI b)]) rfl ?_
  refine z_al0 dX8_taboo_0 (by decide) ?_
  refine z_getR zfX8_35 dX8_taboo_1 (zkB hΓ rfl) rfl (zsB hΓ rfl) (zvB hΓ (by decide)) ?_
  refine z_il1 dX8_taboo_4 ?_
  refine zxv1 dX8_taboo_5 zkX8_114 ziX7_isIsle zsX7_isIsle (zkB hΓ rfl) (by decide) rfl (Nat.le_of_ble_eq_true rfl) (by decide) (by decide) ⟨Nat.zero_le _, Nat.zero_le _⟩ (X7_isIsle_ct hI hF (fun hc _ => ?_) (fun hc _ => ?_))
  · simp only [zres]
    refine z_if_eq (t := 18) dX8_taboo_8 (by rfl) (fun _ => ?_) (fun hx => absurd rfl hx)
    exact z_throw hfl (by decide) (hX (fun x => hc x.1))
  · simp only [zres]
    refine z_if_eq (t := 18) dX8_taboo_8 (by rfl) (fun hx => absurd hx (by decide)) (fun _ => ?_)
    refine z_il2 dX8_taboo_11 ?_
    refine zxs1 dX8_taboo_12 zkX8_118 ztX8_isDay (Nat.le_of_ble_eq_true rfl) (by decide) (by decide) ⟨Nat.zero_le _, Nat.zero_le _⟩ (X8_isDay_ct (fun hd _ => ?_) (fun hd _ => ?_))
    · simp only [zres]
      refine z_if_ne (t := 28) dX8_taboo_15 (by rfl) (fun hx => absurd rfl hx) (fun _ => ?_)
      exact z_throw hfl (by decide) (hX (fun x => hd x.2))
    · simp only [zres]
      refine z_if_ne (t := 28) dX8_taboo_15 (by rfl) (fun _ => ?_) (fun hx => absurd hx (by decide))
      refine zG_ret ?_
      refine z_al0 dX8_taboo_28 (by decide) ?_
      refine z_getR zfX8_35 dX8_taboo_29 (zkB hΓ rfl) rfl (zsB hΓ rfl) (zvB hΓ (by decide)) ?_
      refine z_il1 dX8_taboo_32 ?_
      refine z_il2 dX8_taboo_33 ?_
      refine zcv2 dX8_taboo_34 zkX8_128 ziX7_tabooOn zsX7_tabooOn (zkB hΓ rfl) (by decide) rfl (Nat.le_of_ble_eq_true rfl) (by decide) (by decide) ⟨Nat.zero_le _, Nat.zero_le _⟩ (X7_tabooOn_ct hI hF hc (fun _ => ?_))
      simp only [zres]
      refine z_iret dX8_taboo_37 rfl (Nat.zero_le _) (Nat.zero_le _) (zext_rf _) (fun hrr => ?_)
      exact hQ hc hd
