/-! the law: its end, its script, its calls -/
def R_law : String := "TabooIslesLaw"
def lw_P (b : Addr) (xs : List Int32) (args : Array Value) (s : State) : Prop := args = #[.ref b] ∧ s.IntsAt b xs ∧ xs.length ≤ 3072 ∧ (Jvm.Cond.and given_1 narrow_1).before args s = true
def lw_Q (_ : Array Value) (s : State) (o : Outcome) (t : State) : Prop := o = .returned (some (.int 1)) ∧ Framed s o t [] 601024 7293034
def lw_Z (below : List Frame) (a : Array Value) (s : State) : State → Prop := fun t => ∃ o, t.status = .running ∧ Ended t below o ∧ lw_Q a s o t
/-- the law's own end, with 1 on the stack, nothing written that was there before, its room as the claim has it -/
theorem lw_ret {p : Program} {l : Launch} {e : Env} {s : State} {m : MethodId} {below : List Frame} {meth : Method} {c : Code} {b : Nat} (hx : p.tables.exec = Jvm.exec) (hb : c.code = code) (hr : meth.sig.returnType = ret) (hlocks : meth.locks = false) {pc : Nat} {H : Heap} {ls : Array Slot} (hdg : decode code pc = .ok (.ireturn, 1)) : W p l e room_1 s m #[Value.ref b] below meth c H [] 601024 7293034 (lw_Z below #[Value.ref b] s) (F0 m pc ls [.int 1]) := by
  intro T hT X
  obtain ⟨fs, hret, hrun, hended, hW, hframe⟩ := X.leave (v := some (.int 1)) (hlocks := hlocks) (fun h => by rw [hr] at h; cases h)
  have hmeth' : T.vm.method? m = some meth := X.method'
  refine ⟨T.setFrames fs, ?_, .returned (some (.int 1)), hrun, hended, rfl, ⟨_, rfl⟩, hW, hframe⟩
  jvm_step X.here [X.here.top, hx, hb, hdg, hmeth', hr, ret, narrow_b1]
  (try refine ⟨rfl, ?_⟩); (try refine ⟨rfl, ?_⟩)
  first | (intro acts; rw [hret _ acts rfl rfl rfl]) | rw [hret _ _ rfl rfl rfl]
  exact Steps.refl _
/-- what holds at the law's entry -/
def lw_At (p : Program) (s : State) (m : MethodId) (meth : Method) (c : Code) (b L : Nat) (xs : Nat → Int32) : Prop :=
  p.tables.exec = Jvm.exec ∧ c.code = code ∧ meth.sig.returnType = ret ∧ c.maxLocals = 7 ∧ s.vm.findClass R_law = some m.cls ∧ (∀ w ∈ lw_tbl, w.before #[Value.ref b] s = true) ∧ va_X b L xs s s.heap ∧ b < s.heap.size ∧ meth.locks = false ∧ (Jvm.Cond.and given_1 narrow_1).before #[Value.ref b] s = true ∧ meth.name = "law" ∧ c.exceptionTable.toList = []
def mLL : zMI := (yL_law, cL_law, 7, ret)
def zFL (l : Launch) (b L : Nat) (xs : Nat → Int32) : zF := (l, mLL, room_1, fun s q => s.heap.size ≤ q, fun s args below t => (args = #[Value.ref b] ∧ va_X b L xs s s.heap ∧ b < s.heap.size) → lw_Z below args s t)
theorem zLE {l : Launch} {b L : Nat} {xs : Nat → Int32} {p : Program} {e : Env} {s : State} {m : MethodId} {args : Array Value} {below : List Frame} {meth : Method} {c : Code} {H : Heap} {locs : List Loc} {k n : Nat} {g : JFrame} (kk : (args = #[Value.ref b] ∧ va_X b L xs s s.heap ∧ b < s.heap.size) → W p l e room_1 s m args below meth c H locs k n ((zFL l b L xs).2.2.2.2 s args below) g) : W p l e room_1 s m args below meth c H locs k n ((zFL l b L xs).2.2.2.2 s args below) g := by
  by_cases hE : args = #[Value.ref b] ∧ va_X b L xs s s.heap ∧ b < s.heap.size
  · exact kk hE
  · intro T hT X
    exact ⟨_, Steps.refl _, fun h => absurd h hE⟩
section ZLAW
variable {l : Launch} {b L : Nat} {xs : Nat → Int32} {k n : Nat} {Γ : zC} {h : zM} {pc : Nat} {ls tl : List (Option zV)} {st : List zV}
theorem z_sref (hb4 : zad Γ 4000000 = b) : zval Γ (zR 4000000) = .ref b := by
  show zrf Γ 4000000 = _
  unfold zrf
  rw [if_neg (by decide), hb4]
theorem z_xval (x : Int32) : zval Γ (zI x.toInt) = .int x := by
  show Value.int (Int32.ofInt x.toInt) = _
  rw [Int32.ofInt_toInt]
theorem z_xov (x : Int32) : zo32 x.toInt := by
  have h1 := Int32.le_toInt x
  have h2 := Int32.toInt_lt x
  constructor <;> omega
theorem z_sld {i : Int} {j : Nat} (hi : i = ((j : Nat) : Int)) (hj : j < L) (hL : L ≤ 3072) (hb4 : zad Γ 4000000 = b) (hd : decode cL_law pc = .ok (.iaload, 1)) (kk : zG (zFL l b L xs) k n Γ h (pc + 1) ls (zI (xs j).toInt :: st)) : zG (zFL l b L xs) k n Γ h pc ls (zI i :: zR 4000000 :: st) := by
  intro p e s m args below meth c H locs lsr hB hl hlv hst hW hS hA
  refine zLE (fun hE => ?_)
  have hi32 : zo32 i := by constructor <;> omega
  rw [List.map_cons, List.map_cons, z_sref hb4]
  refine va_sld (A := fun q => s.heap.size ≤ q) (H0 := s.heap) hB.1 hB.2.1 hE.2.1 hE.2.2 (by have := hE.2.2; omega) hS (i := Int32.ofInt i) (zvpin hi32 (by omega) (by omega)) hd ?_
  rw [z32cl hi32, hi, Int.toNat_natCast]
  have h9 := kk p e s m args below meth c H locs lsr hB hl hlv (zv2 (z_xov (xs j)) (zvt (zvt hst))) hW hS hA
  rw [List.map_cons, z_xval] at h9
  exact h9
theorem z_slenL (hL : L ≤ 3072) (hb4 : zad Γ 4000000 = b) (hd : decode cL_law pc = .ok (.arraylength, 1)) (kk : zG (zFL l b L xs) k n Γ h (pc + 1) ls (zI ((L : Nat) : Int) :: st)) : zG (zFL l b L xs) k n Γ h pc ls (zR 4000000 :: st) := by
  intro p e s m args below meth c H locs lsr hB hl hlv hst hW hS hA
  refine zLE (fun hE => ?_)
  rw [List.map_cons, z_sref hb4]
  refine va_slen (A := fun q => s.heap.size ≤ q) (H0 := s.heap) hB.1 hB.2.1 hE.2.1 hE.2.2 (by have := hE.2.2; omega) hS hd ?_
  have h9 := kk p e s m args below meth c H locs lsr hB hl hlv (zv2 (show zo32 ((L : Nat) : Int) by constructor <;> omega) (zvt hst)) hW hS hA
  rw [List.map_cons] at h9
  exact h9
theorem z_arg {i c : Int} {j : Nat} {a1 a2 a3 : Option zV} (hj : i + c = ((j : Nat) : Int)) (hjL : j < L) (hL : L ≤ 3072) (hb4 : zad Γ 4000000 = b) (hc : zo32 c) (d0 : decode cL_law pc = .ok (.aload_n 0, 1)) (d1 : decode cL_law (pc + 1) = .ok (.iload 4, 2)) (d3 : decode cL_law (pc + 3) = .ok (.iconst c, 1)) (d4 : decode cL_law (pc + 4) = .ok (.iadd, 1)) (d5 : decode cL_law (pc + 5) = .ok (.iaload, 1)) (kk : zG (zFL l b L xs) k n Γ h (pc + 6) (some (zR 4000000) :: a1 :: a2 :: a3 :: some (zI i) :: tl) (zI (xs j).toInt :: st)) : zG (zFL l b L xs) k n Γ h pc (some (zR 4000000) :: a1 :: a2 :: a3 :: some (zI i) :: tl) st := by
  refine z_al0 d0 (by decide) ?_
  refine z_il4 d1 ?_
  refine z_iconst d3 hc ?_
  refine z_iadd d4 (by constructor <;> omega) ?_
  exact z_sld hj hjL hL hb4 d5 kk
theorem z_wid {F : zF} {k' n' : Nat} (h1 : k ≤ k') (h2 : n ≤ n') (kk : zG F k' n' Γ h pc ls st) : zG F k n Γ h pc ls st := by
  intro p e s m args below meth c H locs lsr hB hl hlv hst hW hS hA
  exact W.widen h1 h2 (kk p e s m args below meth c H locs lsr hB hl hlv hst hW hS hA)
/-- what is known of the locals may be forgotten -/
theorem zG_ls {F : zF} {ls' : List (Option zV)} (H : ∀ (i : Nat) (v : zV), ls'[i]? = some (some v) → ls[i]? = some (some v)) (kk : zG F k n Γ h pc ls' st) : zG F k n Γ h pc ls st := by
  intro p e s m args below meth c H0 locs lsr hB hl hlv hst hW hS hA
  refine kk p e s m args below meth c H0 locs lsr hB ⟨hl.1, hl.2.1, fun i v hi => hl.2.2 i v (H i v hi)⟩ (fun v hv => ?_) hst hW hS hA
  obtain ⟨i, hi⟩ := List.getElem?_of_mem hv
  exact hlv v (List.mem_of_getElem? (H i v hi))
theorem z_lend (hd : decode cL_law pc = .ok (.ireturn, 1)) (hk : k ≤ 601024) (hn : n ≤ 7293034) : zG (zFL l b L xs) k n Γ h pc ls [zI 1] := by
  intro p e s m args below meth c H locs lsr hB hl hlv hst hW hS hA
  refine zLE (fun hE => ?_)
  obtain ⟨rfl, -, -⟩ := hE
  refine va_forget (fun q hq => hS.2.2 q hq) (W.widen hk hn ?_)
  intro T hT X
  obtain ⟨t, g1, g2⟩ := lw_ret (b := b) (ls := lsr) (H := H) hB.1 hB.2.1 hB.2.2.1 hB.2.2.2.2.2.2.1 hd T hT X
  exact ⟨t, g1, fun _ => g2⟩
theorem z_lcv {M : zMI} {d mc9 ms9 idx r ci na : Nat} {args rest : List zV} (hd : decode cL_law pc = .ok (.invokevirtual idx, 3)) (hL : zLnk RL idx M na) (hI : Cond.instanceMethod M.1 ∈ zTB) (hsl : Cond.selects M.1.cls M.1 M.1 ∈ zTB) (hk : zkd Γ r = some (.inl ci)) (hci : ci < 10) (hcn : zCn ci = M.1.cls) (hna : args.length = na) (hcat : (rest.map zct).sum ≤ 8) (hm : M.2.2.1 ≤ 61) (hdd : d ≤ 2000) (hkn : k + mc9 ≤ 601024 ∧ n + ms9 ≤ 7293034)
    (hC : zCT l M d mc9 ms9 Γ (zR r :: args) h (fun r' Γ' h' => zext Γ Γ' → zG (zFL l b L xs) (k + mc9) (n + ms9) Γ' h' (pc + 3) ls (zres r' rest))) : zG (zFL l b L xs) k n Γ h pc ls (args.reverse ++ zR r :: rest) :=
  z_callV (F := zFL l b L xs) hd hL hI hsl hk hci hcn hna hcat ⟨by show d + 1 ≤ 2048; omega, by show 8 + (M.2.2.1 + 11) + 40 * d ≤ 84000; omega⟩ hkn hC (fun _ _ _ hx hq => hq hx)
theorem z_lcv0 {M : zMI} {d mc9 ms9 idx r ci : Nat} {rest : List zV} (hd : decode cL_law pc = .ok (.invokevirtual idx, 3)) (hL : zLnk RL idx M 0) (hI : Cond.instanceMethod M.1 ∈ zTB) (hsl : Cond.selects M.1.cls M.1 M.1 ∈ zTB) (hk : zkd Γ r = some (.inl ci)) (hci : ci < 10) (hcn : zCn ci = M.1.cls) (hcat : (rest.map zct).sum ≤ 8) (hm : M.2.2.1 ≤ 61) (hdd : d ≤ 2000) (hkn : k + mc9 ≤ 601024 ∧ n + ms9 ≤ 7293034)
    (hC : zCT l M d mc9 ms9 Γ [zR r] h (fun r' Γ' h' => zext Γ Γ' → zG (zFL l b L xs) (k + mc9) (n + ms9) Γ' h' (pc + 3) ls (zres r' rest))) : zG (zFL l b L xs) k n Γ h pc ls (zR r :: rest) :=
  z_lcv (args := []) hd hL hI hsl hk hci hcn rfl hcat hm hdd hkn hC
theorem z_lcv1 {M : zMI} {d mc9 ms9 idx r ci : Nat} {rest : List zV} {v0 : zV} (hd : decode cL_law pc = .ok (.invokevirtual idx, 3)) (hL : zLnk RL idx M 1) (hI : Cond.instanceMethod M.1 ∈ zTB) (hsl : Cond.selects M.1.cls M.1 M.1 ∈ zTB) (hk : zkd Γ r = some (.inl ci)) (hci : ci < 10) (hcn : zCn ci = M.1.cls) (hcat : (rest.map zct).sum ≤ 8) (hm : M.2.2.1 ≤ 61) (hdd : d ≤ 2000) (hkn : k + mc9 ≤ 601024 ∧ n + ms9 ≤ 7293034)
    (hC : zCT l M d mc9 ms9 Γ [zR r, v0] h (fun r' Γ' h' => zext Γ Γ' → zG (zFL l b L xs) (k + mc9) (n + ms9) Γ' h' (pc + 3) ls (zres r' rest))) : zG (zFL l b L xs) k n Γ h pc ls (v0 :: zR r :: rest) :=
  z_lcv (args := [v0]) hd hL hI hsl hk hci hcn rfl hcat hm hdd hkn hC
theorem z_lcv2 {M : zMI} {d mc9 ms9 idx r ci : Nat} {rest : List zV} {v0 v1 : zV} (hd : decode cL_law pc = .ok (.invokevirtual idx, 3)) (hL : zLnk RL idx M 2) (hI : Cond.instanceMethod M.1 ∈ zTB) (hsl : Cond.selects M.1.cls M.1 M.1 ∈ zTB) (hk : zkd Γ r = some (.inl ci)) (hci : ci < 10) (hcn : zCn ci = M.1.cls) (hcat : (rest.map zct).sum ≤ 8) (hm : M.2.2.1 ≤ 61) (hdd : d ≤ 2000) (hkn : k + mc9 ≤ 601024 ∧ n + ms9 ≤ 7293034)
    (hC : zCT l M d mc9 ms9 Γ [zR r, v0, v1] h (fun r' Γ' h' => zext Γ Γ' → zG (zFL l b L xs) (k + mc9) (n + ms9) Γ' h' (pc + 3) ls (zres r' rest))) : zG (zFL l b L xs) k n Γ h pc ls (v1 :: v0 :: zR r :: rest) :=
  z_lcv (args := [v0, v1]) hd hL hI hsl hk hci hcn rfl hcat hm hdd hkn hC
theorem z_lcv3 {M : zMI} {d mc9 ms9 idx r ci : Nat} {rest : List zV} {v0 v1 v2 : zV} (hd : decode cL_law pc = .ok (.invokevirtual idx, 3)) (hL : zLnk RL idx M 3) (hI : Cond.instanceMethod M.1 ∈ zTB) (hsl : Cond.selects M.1.cls M.1 M.1 ∈ zTB) (hk : zkd Γ r = some (.inl ci)) (hci : ci < 10) (hcn : zCn ci = M.1.cls) (hcat : (rest.map zct).sum ≤ 8) (hm : M.2.2.1 ≤ 61) (hdd : d ≤ 2000) (hkn : k + mc9 ≤ 601024 ∧ n + ms9 ≤ 7293034)
    (hC : zCT l M d mc9 ms9 Γ [zR r, v0, v1, v2] h (fun r' Γ' h' => zext Γ Γ' → zG (zFL l b L xs) (k + mc9) (n + ms9) Γ' h' (pc + 3) ls (zres r' rest))) : zG (zFL l b L xs) k n Γ h pc ls (v2 :: v1 :: v0 :: zR r :: rest) :=
  z_lcv (args := [v0, v1, v2]) hd hL hI hsl hk hci hcn rfl hcat hm hdd hkn hC
theorem z_lcv4 {M : zMI} {d mc9 ms9 idx r ci : Nat} {rest : List zV} {v0 v1 v2 v3 : zV} (hd : decode cL_law pc = .ok (.invokevirtual idx, 3)) (hL : zLnk RL idx M 4) (hI : Cond.instanceMethod M.1 ∈ zTB) (hsl : Cond.selects M.1.cls M.1 M.1 ∈ zTB) (hk : zkd Γ r = some (.inl ci)) (hci : ci < 10) (hcn : zCn ci = M.1.cls) (hcat : (rest.map zct).sum ≤ 8) (hm : M.2.2.1 ≤ 61) (hdd : d ≤ 2000) (hkn : k + mc9 ≤ 601024 ∧ n + ms9 ≤ 7293034)
    (hC : zCT l M d mc9 ms9 Γ [zR r, v0, v1, v2, v3] h (fun r' Γ' h' => zext Γ Γ' → zG (zFL l b L xs) (k + mc9) (n + ms9) Γ' h' (pc + 3) ls (zres r' rest))) : zG (zFL l b L xs) k n Γ h pc ls (v3 :: v2 :: v1 :: v0 :: zR r :: rest) :=
  z_lcv (args := [v0, v1, v2, v3]) hd hL hI hsl hk hci hcn rfl hcat hm hdd hkn hC
theorem z_lcv5 {M : zMI} {d mc9 ms9 idx r ci : Nat} {rest : List zV} {v0 v1 v2 v3 v4 : zV} (hd : decode cL_law pc = .ok (.invokevirtual idx, 3)) (hL : zLnk RL idx M 5) (hI : Cond.instanceMethod M.1 ∈ zTB) (hsl : Cond.selects M.1.cls M.1 M.1 ∈ zTB) (hk : zkd Γ r = some (.inl ci)) (hci : ci < 10) (hcn : zCn ci = M.1.cls) (hcat : (rest.map zct).sum ≤ 8) (hm : M.2.2.1 ≤ 61) (hdd : d ≤ 2000) (hkn : k + mc9 ≤ 601024 ∧ n + ms9 ≤ 7293034)
    (hC : zCT l M d mc9 ms9 Γ [zR r, v0, v1, v2, v3, v4] h (fun r' Γ' h' => zext Γ Γ' → zG (zFL l b L xs) (k + mc9) (n + ms9) Γ' h' (pc + 3) ls (zres r' rest))) : zG (zFL l b L xs) k n Γ h pc ls (v4 :: v3 :: v2 :: v1 :: v0 :: zR r :: rest) :=
  z_lcv (args := [v0, v1, v2, v3, v4]) hd hL hI hsl hk hci hcn rfl hcat hm hdd hkn hC
end ZLAW
theorem zcmp_se (a : Int) : zcmp a a = 0 := by
  unfold zcmp
  simp
theorem zvCar_un {h : zM} {n row many v v' : Int} (a : zvCarried h n row many v) (b : zvCarried h n row many v') : v = v' := by
  rcases a with ⟨a1, a2⟩ | ⟨a1, a2⟩ <;> rcases b with ⟨b1, b2⟩ | ⟨b1, b2⟩
  · rw [a2, b2]
  · exact absurd a1 b1
  · exact absurd b1 a1
  · rw [a2, b2]
