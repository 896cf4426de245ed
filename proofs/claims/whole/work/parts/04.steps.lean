theorem z_iconst {F : zF} {k n : Nat} {Γ : zC} {h : zM} {pc : Nat} {ls : List (Option zV)} {st : List zV} {x : Int} (hd : decode F.2.1.2.1 pc = .ok (.iconst x, 1)) (hr : zo32 x) (kk : zG F k n Γ h (pc + 1) ls (zI x :: st)) : zG F k n Γ h pc ls (st) :=
  zstk (st := st) (st' := zI x :: st) (pc' := pc + 1) (fun hv => zv2 hr hv) (fun p e s m args below meth c H locs lsr hB hv hl hm w => lv_iconst (v := Int32.ofInt x) hB.1 hB.2.1 hd rfl w) kk
theorem z_bipush {F : zF} {k n : Nat} {Γ : zC} {h : zM} {pc : Nat} {ls : List (Option zV)} {st : List zV} {y x : Int} (hd : decode F.2.1.2.1 pc = .ok (.bipush y, 2)) (hx : (Int8.ofInt y).toInt32 = Int32.ofInt x) (hr : zo32 x) (kk : zG F k n Γ h (pc + 2) ls (zI x :: st)) : zG F k n Γ h pc ls (st) :=
  zstk (st := st) (st' := zI x :: st) (pc' := pc + 2) (fun hv => zv2 hr hv) (fun p e s m args below meth c H locs lsr hB hv hl hm w => lv_bipush (v := Int32.ofInt x) hB.1 hB.2.1 hd hx w) kk
theorem z_sipush {F : zF} {k n : Nat} {Γ : zC} {h : zM} {pc : Nat} {ls : List (Option zV)} {st : List zV} {y x : Int} (hd : decode F.2.1.2.1 pc = .ok (.sipush y, 3)) (hx : (Int16.ofInt y).toInt32 = Int32.ofInt x) (hr : zo32 x) (kk : zG F k n Γ h (pc + 3) ls (zI x :: st)) : zG F k n Γ h pc ls (st) :=
  zstk (st := st) (st' := zI x :: st) (pc' := pc + 3) (fun hv => zv2 hr hv) (fun p e s m args below meth c H locs lsr hB hv hl hm w => lv_sipush (v := Int32.ofInt x) hB.1 hB.2.1 hd hx w) kk
theorem z_ldc {F : zF} {k n : Nat} {Γ : zC} {h : zM} {pc : Nat} {ls : List (Option zV)} {st : List zV} {x : Int} {idx : Nat} (hd : decode F.2.1.2.1 pc = .ok (.ldc idx, 2)) (hc : Cond.constant F.2.1.1.cls idx (Int32.ofInt x) ∈ zTB) (hr : zo32 x) (kk : zG F k n Γ h (pc + 2) ls (zI x :: st)) : zG F k n Γ h pc ls (st) :=
  zstk (st := st) (st' := zI x :: st) (pc' := pc + 2) (fun hv => zv2 hr hv) (fun p e s m args below meth c H locs lsr hB hv hl hm w => lv_ldc (v := Int32.ofInt x) hB.1 hB.2.1 hB.2.2.2.2.1 (hB.2.2.2.2.2.1 _ hc) hd w) kk
theorem z_ldcw {F : zF} {k n : Nat} {Γ : zC} {h : zM} {pc : Nat} {ls : List (Option zV)} {st : List zV} {x : Int} {idx : Nat} (hd : decode F.2.1.2.1 pc = .ok (.ldc_w idx, 3)) (hc : Cond.constant F.2.1.1.cls idx (Int32.ofInt x) ∈ zTB) (hr : zo32 x) (kk : zG F k n Γ h (pc + 3) ls (zI x :: st)) : zG F k n Γ h pc ls (st) :=
  zstk (st := st) (st' := zI x :: st) (pc' := pc + 3) (fun hv => zv2 hr hv) (fun p e s m args below meth c H locs lsr hB hv hl hm w => lv_ldcw (v := Int32.ofInt x) hB.1 hB.2.1 hB.2.2.2.2.1 (hB.2.2.2.2.2.1 _ hc) hd w) kk
theorem z_ldc2 {F : zF} {k n : Nat} {Γ : zC} {h : zM} {pc : Nat} {ls : List (Option zV)} {st : List zV} {x : Int} {idx : Nat} (hd : decode F.2.1.2.1 pc = .ok (.ldc2_w idx, 3)) (hc : Cond.constantLong F.2.1.1.cls idx (Int64.ofInt x) ∈ zTB) (hr : zo64 x) (kk : zG F k n Γ h (pc + 3) ls (zL x :: st)) : zG F k n Γ h pc ls (st) :=
  zstk (st := st) (st' := zL x :: st) (pc' := pc + 3) (fun hv => zv2 hr hv) (fun p e s m args below meth c H locs lsr hB hv hl hm w => lv_ldc2 (v := Int64.ofInt x) hB.1 hB.2.1 hB.2.2.2.2.1 (hB.2.2.2.2.2.1 _ hc) hd w) kk
theorem z_lconst {F : zF} {k n : Nat} {Γ : zC} {h : zM} {pc : Nat} {ls : List (Option zV)} {st : List zV} {x : Int} {j : Fin 2} (hd : decode F.2.1.2.1 pc = .ok (.lconst j, 1)) (hx : Int64.ofNat (j : Nat) = Int64.ofInt x) (hr : zo64 x) (kk : zG F k n Γ h (pc + 1) ls (zL x :: st)) : zG F k n Γ h pc ls (st) :=
  zstk (st := st) (st' := zL x :: st) (pc' := pc + 1) (fun hv => zv2 hr hv) (fun p e s m args below meth c H locs lsr hB hv hl hm w => lv_lconst (v := Int64.ofInt x) hB.1 hB.2.1 hd hx w) kk
theorem z_iadd {F : zF} {k n : Nat} {Γ : zC} {h : zM} {pc : Nat} {ls : List (Option zV)} {st : List zV} {a b : Int} (hd : decode F.2.1.2.1 pc = .ok (.iadd, 1)) (hr : zo32 (a + b)) (kk : zG F k n Γ h (pc + 1) ls (zI (a + b) :: st)) : zG F k n Γ h pc ls (zI b :: zI a :: st) :=
  zstk (st := zI b :: zI a :: st) (st' := zI (a + b) :: st) (pc' := pc + 1) (fun hv => zv2 hr (zvt (zvt hv))) (fun p e s m args below meth c H locs lsr hB hv hl hm w => lv_iadd hB.1 hB.2.1 hd (by rw [← Int32.ofInt_add]; exact w)) kk
theorem z_isub {F : zF} {k n : Nat} {Γ : zC} {h : zM} {pc : Nat} {ls : List (Option zV)} {st : List zV} {a b : Int} (hd : decode F.2.1.2.1 pc = .ok (.isub, 1)) (hr : zo32 (a - b)) (kk : zG F k n Γ h (pc + 1) ls (zI (a - b) :: st)) : zG F k n Γ h pc ls (zI b :: zI a :: st) :=
  zstk (st := zI b :: zI a :: st) (st' := zI (a - b) :: st) (pc' := pc + 1) (fun hv => zv2 hr (zvt (zvt hv))) (fun p e s m args below meth c H locs lsr hB hv hl hm w => lv_isub hB.1 hB.2.1 hd (by rw [← Int32.ofInt_sub]; exact w)) kk
theorem z_imul {F : zF} {k n : Nat} {Γ : zC} {h : zM} {pc : Nat} {ls : List (Option zV)} {st : List zV} {a b : Int} (hd : decode F.2.1.2.1 pc = .ok (.imul, 1)) (hr : zo32 (a * b)) (kk : zG F k n Γ h (pc + 1) ls (zI (a * b) :: st)) : zG F k n Γ h pc ls (zI b :: zI a :: st) :=
  zstk (st := zI b :: zI a :: st) (st' := zI (a * b) :: st) (pc' := pc + 1) (fun hv => zv2 hr (zvt (zvt hv))) (fun p e s m args below meth c H locs lsr hB hv hl hm w => lv_imul hB.1 hB.2.1 hd (by rw [← Int32.ofInt_mul]; exact w)) kk
theorem z_ladd {F : zF} {k n : Nat} {Γ : zC} {h : zM} {pc : Nat} {ls : List (Option zV)} {st : List zV} {a b : Int} (hd : decode F.2.1.2.1 pc = .ok (.ladd, 1)) (hr : zo64 (a + b)) (kk : zG F k n Γ h (pc + 1) ls (zL (a + b) :: st)) : zG F k n Γ h pc ls (zL b :: zL a :: st) :=
  zstk (st := zL b :: zL a :: st) (st' := zL (a + b) :: st) (pc' := pc + 1) (fun hv => zv2 hr (zvt (zvt hv))) (fun p e s m args below meth c H locs lsr hB hv hl hm w => lv_ladd hB.1 hB.2.1 hd (by rw [← Int64.ofInt_add]; exact w)) kk
theorem z_lsub {F : zF} {k n : Nat} {Γ : zC} {h : zM} {pc : Nat} {ls : List (Option zV)} {st : List zV} {a b : Int} (hd : decode F.2.1.2.1 pc = .ok (.lsub, 1)) (hr : zo64 (a - b)) (kk : zG F k n Γ h (pc + 1) ls (zL (a - b) :: st)) : zG F k n Γ h pc ls (zL b :: zL a :: st) :=
  zstk (st := zL b :: zL a :: st) (st' := zL (a - b) :: st) (pc' := pc + 1) (fun hv => zv2 hr (zvt (zvt hv))) (fun p e s m args below meth c H locs lsr hB hv hl hm w => lv_lsub hB.1 hB.2.1 hd (by rw [← Int64.ofInt_sub]; exact w)) kk
theorem z_lmul {F : zF} {k n : Nat} {Γ : zC} {h : zM} {pc : Nat} {ls : List (Option zV)} {st : List zV} {a b : Int} (hd : decode F.2.1.2.1 pc = .ok (.lmul, 1)) (hr : zo64 (a * b)) (kk : zG F k n Γ h (pc + 1) ls (zL (a * b) :: st)) : zG F k n Γ h pc ls (zL b :: zL a :: st) :=
  zstk (st := zL b :: zL a :: st) (st' := zL (a * b) :: st) (pc' := pc + 1) (fun hv => zv2 hr (zvt (zvt hv))) (fun p e s m args below meth c H locs lsr hB hv hl hm w => lv_lmul hB.1 hB.2.1 hd (by rw [← Int64.ofInt_mul]; exact w)) kk
theorem z32o (x : Int32) : Int32.ofInt x.toInt = x := Int32.ofInt_toInt x
theorem z64o (x : Int64) : Int64.ofInt x.toInt = x := Int64.ofInt_toInt x
theorem z32r (x : Int32) : zo32 x.toInt := ⟨x.le_toInt, x.toInt_lt⟩
theorem z64r (x : Int64) : zo64 x.toInt := ⟨x.le_toInt, x.toInt_lt⟩
theorem z32d {a b : Int} (ha : zo32 a) (hb : zo32 b) (hr : zo32 (a.tdiv b)) : Int32.ofInt a / Int32.ofInt b = Int32.ofInt (a.tdiv b) := by
  rw [← Int32.toInt_inj, Int32.toInt_div, z32t ha, z32t hb, z32t hr]
  exact Int.bmod_eq_of_le (by omega) (by omega)
theorem z64d {a b : Int} (ha : zo64 a) (hb : zo64 b) (hr : zo64 (a.tdiv b)) : Int64.ofInt a / Int64.ofInt b = Int64.ofInt (a.tdiv b) := by
  rw [← Int64.toInt_inj, Int64.toInt_div, z64t ha, z64t hb, z64t hr]
  exact Int.bmod_eq_of_le (by omega) (by omega)
theorem z32m {a b : Int} (ha : zo32 a) (hb : zo32 b) (hr : zo32 (a.tdiv b)) : Int32.ofInt a - Int32.ofInt a / Int32.ofInt b * Int32.ofInt b = Int32.ofInt (a.tmod b) := by
  rw [z32d ha hb hr, ← Int32.ofInt_mul, ← Int32.ofInt_sub, Int.tmod_def, Int.mul_comm]
theorem z64m {a b : Int} (ha : zo64 a) (hb : zo64 b) (hr : zo64 (a.tdiv b)) : Int64.ofInt a - Int64.ofInt a / Int64.ofInt b * Int64.ofInt b = Int64.ofInt (a.tmod b) := by
  rw [z64d ha hb hr, ← Int64.ofInt_mul, ← Int64.ofInt_sub, Int.tmod_def, Int.mul_comm]
theorem z32z {a : Int} (ha : zo32 a) (h : a ≠ 0) : ¬ Int32.ofInt a = 0 := fun e => h ((z32eq ha (b := 0) (by decide)).mp e)
theorem z64z {a : Int} (ha : zo64 a) (h : a ≠ 0) : ¬ Int64.ofInt a = 0 := fun e => h ((z64eq ha (b := 0) (by decide)).mp e)
theorem z_idiv {F : zF} {k n : Nat} {Γ : zC} {h : zM} {pc : Nat} {ls : List (Option zV)} {st : List zV} {a b : Int} (hd : decode F.2.1.2.1 pc = .ok (.idiv, 1)) (hb : b ≠ 0) (hr : zo32 (a.tdiv b)) (kk : zG F k n Γ h (pc + 1) ls (zI (a.tdiv b) :: st)) : zG F k n Γ h pc ls (zI b :: zI a :: st) :=
  zstk (st := zI b :: zI a :: st) (st' := zI (a.tdiv b) :: st) (pc' := pc + 1) (fun hv => zv2 hr (zvt (zvt hv))) (fun p e s m args below meth c H locs lsr hB hv hl hm w => lv_idiv hB.1 hB.2.1 hd (z32z (zvh hv) hb) (by rw [z32d (zvh (zvt hv)) (zvh hv) hr]; exact w)) kk
theorem z_irem {F : zF} {k n : Nat} {Γ : zC} {h : zM} {pc : Nat} {ls : List (Option zV)} {st : List zV} {a b : Int} (hd : decode F.2.1.2.1 pc = .ok (.irem, 1)) (hb : b ≠ 0) (hr : zo32 (a.tdiv b)) (hm : zo32 (a.tmod b)) (kk : zG F k n Γ h (pc + 1) ls (zI (a.tmod b) :: st)) : zG F k n Γ h pc ls (zI b :: zI a :: st) :=
  zstk (st := zI b :: zI a :: st) (st' := zI (a.tmod b) :: st) (pc' := pc + 1) (fun hv => zv2 hm (zvt (zvt hv))) (fun p e s m args below meth c H locs lsr hB hv hl hm w => lv_irem hB.1 hB.2.1 hd (z32z (zvh hv) hb) (by rw [z32m (zvh (zvt hv)) (zvh hv) hr]; exact w)) kk
theorem z_ldiv {F : zF} {k n : Nat} {Γ : zC} {h : zM} {pc : Nat} {ls : List (Option zV)} {st : List zV} {a b : Int} (hd : decode F.2.1.2.1 pc = .ok (.ldiv, 1)) (hb : b ≠ 0) (hr : zo64 (a.tdiv b)) (kk : zG F k n Γ h (pc + 1) ls (zL (a.tdiv b) :: st)) : zG F k n Γ h pc ls (zL b :: zL a :: st) :=
  zstk (st := zL b :: zL a :: st) (st' := zL (a.tdiv b) :: st) (pc' := pc + 1) (fun hv => zv2 hr (zvt (zvt hv))) (fun p e s m args below meth c H locs lsr hB hv hl hm w => lv_ldiv hB.1 hB.2.1 hd (z64z (zvh hv) hb) (by rw [z64d (zvh (zvt hv)) (zvh hv) hr]; exact w)) kk
theorem z_lrem {F : zF} {k n : Nat} {Γ : zC} {h : zM} {pc : Nat} {ls : List (Option zV)} {st : List zV} {a b : Int} (hd : decode F.2.1.2.1 pc = .ok (.lrem, 1)) (hb : b ≠ 0) (hr : zo64 (a.tdiv b)) (hm : zo64 (a.tmod b)) (kk : zG F k n Γ h (pc + 1) ls (zL (a.tmod b) :: st)) : zG F k n Γ h pc ls (zL b :: zL a :: st) :=
  zstk (st := zL b :: zL a :: st) (st' := zL (a.tmod b) :: st) (pc' := pc + 1) (fun hv => zv2 hm (zvt (zvt hv))) (fun p e s m args below meth c H locs lsr hB hv hl hm w => lv_lrem hB.1 hB.2.1 hd (z64z (zvh hv) hb) (by rw [z64m (zvh (zvt hv)) (zvh hv) hr]; exact w)) kk
theorem z_ineg {F : zF} {k n : Nat} {Γ : zC} {h : zM} {pc : Nat} {ls : List (Option zV)} {st : List zV} {a : Int} (hd : decode F.2.1.2.1 pc = .ok (.ineg, 1)) (hr : zo32 (-a)) (kk : zG F k n Γ h (pc + 1) ls (zI (-a) :: st)) : zG F k n Γ h pc ls (zI a :: st) :=
  zstk (st := zI a :: st) (st' := zI (-a) :: st) (pc' := pc + 1) (fun hv => zv2 hr (zvt hv)) (fun p e s m args below meth c H locs lsr hB hv hl hm w => lv_ineg hB.1 hB.2.1 hd (by rw [← Int32.ofInt_neg]; exact w)) kk
def zf_iand (a b : Int) : Int := (Int32.ofInt a &&& Int32.ofInt b).toInt
theorem zf_iand_r (a b : Int) : zo32 (zf_iand a b) := z32r _
theorem z_iand {F : zF} {k n : Nat} {Γ : zC} {h : zM} {pc : Nat} {ls : List (Option zV)} {st : List zV} {a b : Int} (hd : decode F.2.1.2.1 pc = .ok (.iand, 1))  (kk : zG F k n Γ h (pc + 1) ls (zI (zf_iand a b) :: st)) : zG F k n Γ h pc ls (zI b :: zI a :: st) :=
  zstk (st := zI b :: zI a :: st) (st' := zI (zf_iand a b) :: st) (pc' := pc + 1) (fun hv => zv2 (zf_iand_r a b) (zvt (zvt hv))) (fun p e s m args below meth c H locs lsr hB hv hl hm w => lv_iand hB.1 hB.2.1 hd (by rw [← z32o (Int32.ofInt a &&& Int32.ofInt b)]; exact w)) kk
def zf_ior (a b : Int) : Int := (Int32.ofInt a ||| Int32.ofInt b).toInt
theorem zf_ior_r (a b : Int) : zo32 (zf_ior a b) := z32r _
theorem z_ior {F : zF} {k n : Nat} {Γ : zC} {h : zM} {pc : Nat} {ls : List (Option zV)} {st : List zV} {a b : Int} (hd : decode F.2.1.2.1 pc = .ok (.ior, 1))  (kk : zG F k n Γ h (pc + 1) ls (zI (zf_ior a b) :: st)) : zG F k n Γ h pc ls (zI b :: zI a :: st) :=
  zstk (st := zI b :: zI a :: st) (st' := zI (zf_ior a b) :: st) (pc' := pc + 1) (fun hv => zv2 (zf_ior_r a b) (zvt (zvt hv))) (fun p e s m args below meth c H locs lsr hB hv hl hm w => lv_ior hB.1 hB.2.1 hd (by rw [← z32o (Int32.ofInt a ||| Int32.ofInt b)]; exact w)) kk
def zf_ishl (a b : Int) : Int := (Int32.ofInt a <<< (Int32.ofInt b &&& 31)).toInt
theorem zf_ishl_r (a b : Int) : zo32 (zf_ishl a b) := z32r _
theorem z_ishl {F : zF} {k n : Nat} {Γ : zC} {h : zM} {pc : Nat} {ls : List (Option zV)} {st : List zV} {a b : Int} (hd : decode F.2.1.2.1 pc = .ok (.ishl, 1))  (kk : zG F k n Γ h (pc + 1) ls (zI (zf_ishl a b) :: st)) : zG F k n Γ h pc ls (zI b :: zI a :: st) :=
  zstk (st := zI b :: zI a :: st) (st' := zI (zf_ishl a b) :: st) (pc' := pc + 1) (fun hv => zv2 (zf_ishl_r a b) (zvt (zvt hv))) (fun p e s m args below meth c H locs lsr hB hv hl hm w => lv_ishl hB.1 hB.2.1 hd (by rw [← z32o (Int32.ofInt a <<< (Int32.ofInt b &&& 31))]; exact w)) kk
def zf_ishr (a b : Int) : Int := (Int32.ofInt a >>> (Int32.ofInt b &&& 31)).toInt
theorem zf_ishr_r (a b : Int) : zo32 (zf_ishr a b) := z32r _
theorem z_ishr {F : zF} {k n : Nat} {Γ : zC} {h : zM} {pc : Nat} {ls : List (Option zV)} {st : List zV} {a b : Int} (hd : decode F.2.1.2.1 pc = .ok (.ishr, 1))  (kk : zG F k n Γ h (pc + 1) ls (zI (zf_ishr a b) :: st)) : zG F k n Γ h pc ls (zI b :: zI a :: st) :=
  zstk (st := zI b :: zI a :: st) (st' := zI (zf_ishr a b) :: st) (pc' := pc + 1) (fun hv => zv2 (zf_ishr_r a b) (zvt (zvt hv))) (fun p e s m args below meth c H locs lsr hB hv hl hm w => lv_ishr hB.1 hB.2.1 hd (by rw [← z32o (Int32.ofInt a >>> (Int32.ofInt b &&& 31))]; exact w)) kk
def zf_land (a b : Int) : Int := (Int64.ofInt a &&& Int64.ofInt b).toInt
theorem zf_land_r (a b : Int) : zo64 (zf_land a b) := z64r _
theorem z_land {F : zF} {k n : Nat} {Γ : zC} {h : zM} {pc : Nat} {ls : List (Option zV)} {st : List zV} {a b : Int} (hd : decode F.2.1.2.1 pc = .ok (.land, 1))  (kk : zG F k n Γ h (pc + 1) ls (zL (zf_land a b) :: st)) : zG F k n Γ h pc ls (zL b :: zL a :: st) :=
  zstk (st := zL b :: zL a :: st) (st' := zL (zf_land a b) :: st) (pc' := pc + 1) (fun hv => zv2 (zf_land_r a b) (zvt (zvt hv))) (fun p e s m args below meth c H locs lsr hB hv hl hm w => lv_land hB.1 hB.2.1 hd (by rw [← z64o (Int64.ofInt a &&& Int64.ofInt b)]; exact w)) kk
def zf_lor (a b : Int) : Int := (Int64.ofInt a ||| Int64.ofInt b).toInt
theorem zf_lor_r (a b : Int) : zo64 (zf_lor a b) := z64r _
theorem z_lor {F : zF} {k n : Nat} {Γ : zC} {h : zM} {pc : Nat} {ls : List (Option zV)} {st : List zV} {a b : Int} (hd : decode F.2.1.2.1 pc = .ok (.lor, 1))  (kk : zG F k n Γ h (pc + 1) ls (zL (zf_lor a b) :: st)) : zG F k n Γ h pc ls (zL b :: zL a :: st) :=
  zstk (st := zL b :: zL a :: st) (st' := zL (zf_lor a b) :: st) (pc' := pc + 1) (fun hv => zv2 (zf_lor_r a b) (zvt (zvt hv))) (fun p e s m args below meth c H locs lsr hB hv hl hm w => lv_lor hB.1 hB.2.1 hd (by rw [← z64o (Int64.ofInt a ||| Int64.ofInt b)]; exact w)) kk
def zf_iushr (a b : Int) : Int := ((Int32.ofInt a).toUInt32 >>> ((Int32.ofInt b).toUInt32 &&& Int32.toUInt32 31)).toInt32.toInt
def zf_lushr (a b : Int) : Int := ((Int64.ofInt a).toUInt64 >>> ((Int32.ofInt b).toInt64.toUInt64 &&& Int64.toUInt64 63)).toInt64.toInt
def zf_lshl (a b : Int) : Int := (Int64.ofInt a <<< ((Int32.ofInt b).toInt64 &&& 63)).toInt
theorem z_iushr {F : zF} {k n : Nat} {Γ : zC} {h : zM} {pc : Nat} {ls : List (Option zV)} {st : List zV} {a b : Int} (hd : decode F.2.1.2.1 pc = .ok (.iushr, 1))  (kk : zG F k n Γ h (pc + 1) ls (zI (zf_iushr a b) :: st)) : zG F k n Γ h pc ls (zI b :: zI a :: st) :=
  zstk (st := zI b :: zI a :: st) (st' := zI (zf_iushr a b) :: st) (pc' := pc + 1) (fun hv => zv2 (z32r _) (zvt (zvt hv))) (fun p e s m args below meth c H locs lsr hB hv hl hm w => lv_iushr hB.1 hB.2.1 hd (z32o _).symm w) kk
theorem z_lushr {F : zF} {k n : Nat} {Γ : zC} {h : zM} {pc : Nat} {ls : List (Option zV)} {st : List zV} {a b : Int} (hd : decode F.2.1.2.1 pc = .ok (.lushr, 1))  (kk : zG F k n Γ h (pc + 1) ls (zL (zf_lushr a b) :: st)) : zG F k n Γ h pc ls (zI b :: zL a :: st) :=
  zstk (st := zI b :: zL a :: st) (st' := zL (zf_lushr a b) :: st) (pc' := pc + 1) (fun hv => zv2 (z64r _) (zvt (zvt hv))) (fun p e s m args below meth c H locs lsr hB hv hl hm w => lv_lushr hB.1 hB.2.1 hd (z64o _).symm w) kk
theorem z_lshl {F : zF} {k n : Nat} {Γ : zC} {h : zM} {pc : Nat} {ls : List (Option zV)} {st : List zV} {a b : Int} (hd : decode F.2.1.2.1 pc = .ok (.lshl, 1))  (kk : zG F k n Γ h (pc + 1) ls (zL (zf_lshl a b) :: st)) : zG F k n Γ h pc ls (zI b :: zL a :: st) :=
  zstk (st := zI b :: zL a :: st) (st' := zL (zf_lshl a b) :: st) (pc' := pc + 1) (fun hv => zv2 (z64r _) (zvt (zvt hv))) (fun p e s m args below meth c H locs lsr hB hv hl hm w => lv_lshl hB.1 hB.2.1 hd (z64o _).symm w) kk
def zw_lmul (a b : Int) : Int := (Int64.ofInt a * Int64.ofInt b).toInt
def zw_ladd (a b : Int) : Int := (Int64.ofInt a + Int64.ofInt b).toInt
theorem zw_lmul_s {F : zF} {k n : Nat} {Γ : zC} {h : zM} {pc : Nat} {ls : List (Option zV)} {st : List zV} {a b : Int} (hd : decode F.2.1.2.1 pc = .ok (.lmul, 1))  (kk : zG F k n Γ h (pc + 1) ls (zL (zw_lmul a b) :: st)) : zG F k n Γ h pc ls (zL b :: zL a :: st) :=
  zstk (st := zL b :: zL a :: st) (st' := zL (zw_lmul a b) :: st) (pc' := pc + 1) (fun hv => zv2 (z64r _) (zvt (zvt hv))) (fun p e s m args below meth c H locs lsr hB hv hl hm w => lv_lmul hB.1 hB.2.1 hd (by rw [← z64o (Int64.ofInt a * Int64.ofInt b)]; exact w)) kk
theorem zw_ladd_s {F : zF} {k n : Nat} {Γ : zC} {h : zM} {pc : Nat} {ls : List (Option zV)} {st : List zV} {a b : Int} (hd : decode F.2.1.2.1 pc = .ok (.ladd, 1))  (kk : zG F k n Γ h (pc + 1) ls (zL (zw_ladd a b) :: st)) : zG F k n Γ h pc ls (zL b :: zL a :: st) :=
  zstk (st := zL b :: zL a :: st) (st' := zL (zw_ladd a b) :: st) (pc' := pc + 1) (fun hv => zv2 (z64r _) (zvt (zvt hv))) (fun p e s m args below meth c H locs lsr hB hv hl hm w => lv_ladd hB.1 hB.2.1 hd (by rw [← z64o (Int64.ofInt a + Int64.ofInt b)]; exact w)) kk
theorem zc_il {a : Int} (ha : zo32 a) : (Int32.ofInt a).toInt64 = Int64.ofInt a := by
  rw [← Int64.toInt_inj, Int32.toInt_toInt64, z32t ha, z64t (by omega)]
theorem zc_li {a : Int} (ha : zo64 a) : (Int64.ofInt a).toInt32 = Int32.ofInt a := by
  rw [← Int32.toInt_inj, Int64.toInt_toInt32, z64t ha, Int32.toInt_ofInt]
theorem z_i2l {F : zF} {k n : Nat} {Γ : zC} {h : zM} {pc : Nat} {ls : List (Option zV)} {st : List zV} {a : Int} (hd : decode F.2.1.2.1 pc = .ok (.i2l, 1))  (kk : zG F k n Γ h (pc + 1) ls (zL a :: st)) : zG F k n Γ h pc ls (zI a :: st) :=
  zstk (st := zI a :: st) (st' := zL a :: st) (pc' := pc + 1) (fun hv => zv2 (show zo64 a from by have : zo32 a := zvh hv; omega) (zvt hv)) (fun p e s m args below meth c H locs lsr hB hv hl hm w => lv_i2l hB.1 hB.2.1 hd (zc_il (zvh hv)) w) kk
theorem z_l2i {F : zF} {k n : Nat} {Γ : zC} {h : zM} {pc : Nat} {ls : List (Option zV)} {st : List zV} {a : Int} (hd : decode F.2.1.2.1 pc = .ok (.l2i, 1)) (hr : zo32 a) (kk : zG F k n Γ h (pc + 1) ls (zI a :: st)) : zG F k n Γ h pc ls (zL a :: st) :=
  zstk (st := zL a :: st) (st' := zI a :: st) (pc' := pc + 1) (fun hv => zv2 hr (zvt hv)) (fun p e s m args below meth c H locs lsr hB hv hl hm w => lv_l2i hB.1 hB.2.1 hd (zc_li (zvh hv)) w) kk
def zf_i2b (a : Int) : Int := (Int32.ofInt a).toInt8.toInt32.toInt
theorem z_i2b {F : zF} {k n : Nat} {Γ : zC} {h : zM} {pc : Nat} {ls : List (Option zV)} {st : List zV} {a : Int} (hd : decode F.2.1.2.1 pc = .ok (.i2b, 1))  (kk : zG F k n Γ h (pc + 1) ls (zI (zf_i2b a) :: st)) : zG F k n Γ h pc ls (zI a :: st) :=
  zstk (st := zI a :: st) (st' := zI (zf_i2b a) :: st) (pc' := pc + 1) (fun hv => zv2 (z32r _) (zvt hv)) (fun p e s m args below meth c H locs lsr hB hv hl hm w => lv_i2b hB.1 hB.2.1 hd (z32o _).symm w) kk
def zcmp (a b : Int) : Int := if a > b then 1 else if a = b then 0 else -1
theorem zcmp_r (a b : Int) : zo32 (zcmp a b) := by unfold zcmp; (split; decide); (split <;> decide)
theorem zcmp_eq {a b : Int} (ha : zo64 a) (hb : zo64 b) : lg_cmp (Int64.ofInt a) (Int64.ofInt b) = Int32.ofInt (zcmp a b) := by
  unfold lg_cmp zcmp
  simp only [gt_iff_lt, z64lt hb ha, z64eq ha hb]
  by_cases h1 : b < a
  · simp only [h1, if_true]; rfl
  · by_cases h2 : a = b
    · simp only [h1, h2, if_true, if_false]; simp
    · simp only [h1, h2, if_false]; rfl
theorem z_lcmp {F : zF} {k n : Nat} {Γ : zC} {h : zM} {pc : Nat} {ls : List (Option zV)} {st : List zV} {a b : Int} (hd : decode F.2.1.2.1 pc = .ok (.lcmp, 1))  (kk : zG F k n Γ h (pc + 1) ls (zI (zcmp a b) :: st)) : zG F k n Γ h pc ls (zL b :: zL a :: st) :=
  zstk (st := zL b :: zL a :: st) (st' := zI (zcmp a b) :: st) (pc' := pc + 1) (fun hv => zv2 (zcmp_r a b) (zvt (zvt hv))) (fun p e s m args below meth c H locs lsr hB hv hl hm w => W.lcmp hB.1 hB.2.1 hd (by rw [zcmp_eq (zvh (zvt hv)) (zvh hv)]; exact w)) kk
theorem zcat1 (Γ : zC) (x : Int) : (zval Γ (zI x)).category = 1 := rfl
theorem zcatR (Γ : zC) (x : Nat) : (zval Γ (zR x)).category = 1 := by show (zrf Γ x).category = 1; unfold zrf; split <;> rfl
theorem zcatL (Γ : zC) (x : Int) : (zval Γ (zL x)).category = 2 := rfl
def zc1 : zV → Bool | .inr (.inl _) => false | _ => true
theorem zc1_c {Γ : zC} {a : zV} (h : zc1 a = true) : (zval Γ a).category = 1 := by
  rcases a with x | x | x
  · rfl
  · cases h
  · exact zcatR Γ x
theorem z_dup {F : zF} {k n : Nat} {Γ : zC} {h : zM} {pc : Nat} {ls : List (Option zV)} {st : List zV} {a : zV} (hd : decode F.2.1.2.1 pc = .ok (.dup, 1)) (ha : zc1 a = true) (kk : zG F k n Γ h (pc + 1) ls (a :: a :: st)) : zG F k n Γ h pc ls (a :: st) :=
  zstk (st := a :: st) (st' := a :: a :: st) (pc' := pc + 1) (fun hv => zv2 (zvh hv) hv) (fun p e s m args below meth c H locs lsr hB hv hl hm w => lv_dup hB.1 hB.2.1 hd (zc1_c ha) w) kk
theorem z_pop {F : zF} {k n : Nat} {Γ : zC} {h : zM} {pc : Nat} {ls : List (Option zV)} {st : List zV} {a : zV} (hd : decode F.2.1.2.1 pc = .ok (.pop, 1)) (ha : zc1 a = true) (kk : zG F k n Γ h (pc + 1) ls (st)) : zG F k n Γ h pc ls (a :: st) :=
  zstk (st := a :: st) (st' := st) (pc' := pc + 1) (fun hv => zvt hv) (fun p e s m args below meth c H locs lsr hB hv hl hm w => lv_pop hB.1 hB.2.1 hd (zc1_c ha) w) kk
theorem z_dup2 {F : zF} {k n : Nat} {Γ : zC} {h : zM} {pc : Nat} {ls : List (Option zV)} {st : List zV} {a b : zV} (hd : decode F.2.1.2.1 pc = .ok (.dup2, 1)) (ha : zc1 a = true) (hb : zc1 b = true) (kk : zG F k n Γ h (pc + 1) ls (a :: b :: a :: b :: st)) : zG F k n Γ h pc ls (a :: b :: st) :=
  zstk (st := a :: b :: st) (st' := a :: b :: a :: b :: st) (pc' := pc + 1) (fun hv => zv2 (zvh hv) (zv2 (zvh (zvt hv)) hv)) (fun p e s m args below meth c H locs lsr hB hv hl hm w => lv_dup2_11 hB.1 hB.2.1 hd (zc1_c ha) (zc1_c hb) w) kk
theorem z_goto {F : zF} {k n : Nat} {Γ : zC} {h : zM} {pc : Nat} {ls : List (Option zV)} {st : List zV} {off : Int} {t : Nat} (hd : decode F.2.1.2.1 pc = .ok (.goto off, 3)) (ht : (pc : Int) + off = (t : Int)) (kk : zG F k n Γ h (t) ls (st)) : zG F k n Γ h pc ls (st) :=
  zstk (st := st) (st' := st) (pc' := t) (fun hv => hv) (fun p e s m args below meth c H locs lsr hB hv hl hm w => lv_goto hB.1 hB.2.1 hd ht w) kk
theorem z32lt0 {a : Int} (ha : zo32 a) : Int32.ofInt a < 0 ↔ a < 0 := z32lt (b := 0) ha (by decide)
theorem z32gt0 {a : Int} (ha : zo32 a) : 0 < Int32.ofInt a ↔ 0 < a := z32lt (a := 0) (by decide) ha
theorem z32le0 {a : Int} (ha : zo32 a) : Int32.ofInt a ≤ 0 ↔ a ≤ 0 := z32le (b := 0) ha (by decide)
theorem z32ge0 {a : Int} (ha : zo32 a) : 0 ≤ Int32.ofInt a ↔ 0 ≤ a := z32le (a := 0) (by decide) ha
theorem z32eq0 {a : Int} (ha : zo32 a) : Int32.ofInt a = 0 ↔ a = 0 := z32eq (b := 0) ha (by decide)
theorem z_if_lt {F : zF} {k n : Nat} {Γ : zC} {h : zM} {pc : Nat} {ls : List (Option zV)} {st : List zV} {a : Int} {off : Int} {t : Nat} (hd : decode F.2.1.2.1 pc = .ok (.ifCond .lt off, 3)) (ht : (pc : Int) + off = (t : Int)) (kt : a < 0 → zG F k n Γ h t ls st) (kf : ¬ a < 0 → zG F k n Γ h (pc + 3) ls st) : zG F k n Γ h pc ls (zI a :: st) := by
  intro p e s m args below meth c H locs lsr hB hl hlv hst hW hS hA
  exact lv_if_lt hB.1 hB.2.1 hd ht (fun q => kt ((z32lt0 (zvh hst)).mp q) p e s m args below meth c H locs lsr hB hl hlv (zvt hst) hW hS hA) (fun q => kf (fun q2 => q ((z32lt0 (zvh hst)).mpr q2)) p e s m args below meth c H locs lsr hB hl hlv (zvt hst) hW hS hA)
theorem z_if_le {F : zF} {k n : Nat} {Γ : zC} {h : zM} {pc : Nat} {ls : List (Option zV)} {st : List zV} {a : Int} {off : Int} {t : Nat} (hd : decode F.2.1.2.1 pc = .ok (.ifCond .le off, 3)) (ht : (pc : Int) + off = (t : Int)) (kt : a ≤ 0 → zG F k n Γ h t ls st) (kf : ¬ a ≤ 0 → zG F k n Γ h (pc + 3) ls st) : zG F k n Γ h pc ls (zI a :: st) := by
  intro p e s m args below meth c H locs lsr hB hl hlv hst hW hS hA
  exact lv_if_le hB.1 hB.2.1 hd ht (fun q => kt ((z32le0 (zvh hst)).mp q) p e s m args below meth c H locs lsr hB hl hlv (zvt hst) hW hS hA) (fun q => kf (fun q2 => q ((z32le0 (zvh hst)).mpr q2)) p e s m args below meth c H locs lsr hB hl hlv (zvt hst) hW hS hA)
theorem z_if_gt {F : zF} {k n : Nat} {Γ : zC} {h : zM} {pc : Nat} {ls : List (Option zV)} {st : List zV} {a : Int} {off : Int} {t : Nat} (hd : decode F.2.1.2.1 pc = .ok (.ifCond .gt off, 3)) (ht : (pc : Int) + off = (t : Int)) (kt : 0 < a → zG F k n Γ h t ls st) (kf : ¬ 0 < a → zG F k n Γ h (pc + 3) ls st) : zG F k n Γ h pc ls (zI a :: st) := by
  intro p e s m args below meth c H locs lsr hB hl hlv hst hW hS hA
  exact lv_if_gt hB.1 hB.2.1 hd ht (fun q => kt ((z32gt0 (zvh hst)).mp q) p e s m args below meth c H locs lsr hB hl hlv (zvt hst) hW hS hA) (fun q => kf (fun q2 => q ((z32gt0 (zvh hst)).mpr q2)) p e s m args below meth c H locs lsr hB hl hlv (zvt hst) hW hS hA)
theorem z_if_ge {F : zF} {k n : Nat} {Γ : zC} {h : zM} {pc : Nat} {ls : List (Option zV)} {st : List zV} {a : Int} {off : Int} {t : Nat} (hd : decode F.2.1.2.1 pc = .ok (.ifCond .ge off, 3)) (ht : (pc : Int) + off = (t : Int)) (kt : 0 ≤ a → zG F k n Γ h t ls st) (kf : ¬ 0 ≤ a → zG F k n Γ h (pc + 3) ls st) : zG F k n Γ h pc ls (zI a :: st) := by
  intro p e s m args below meth c H locs lsr hB hl hlv hst hW hS hA
  exact lv_if_ge hB.1 hB.2.1 hd ht (fun q => kt ((z32ge0 (zvh hst)).mp q) p e s m args below meth c H locs lsr hB hl hlv (zvt hst) hW hS hA) (fun q => kf (fun q2 => q ((z32ge0 (zvh hst)).mpr q2)) p e s m args below meth c H locs lsr hB hl hlv (zvt hst) hW hS hA)
theorem z_if_eq {F : zF} {k n : Nat} {Γ : zC} {h : zM} {pc : Nat} {ls : List (Option zV)} {st : List zV} {a : Int} {off : Int} {t : Nat} (hd : decode F.2.1.2.1 pc = .ok (.ifCond .eq off, 3)) (ht : (pc : Int) + off = (t : Int)) (kt : a = 0 → zG F k n Γ h t ls st) (kf : ¬ a = 0 → zG F k n Γ h (pc + 3) ls st) : zG F k n Γ h pc ls (zI a :: st) := by
  intro p e s m args below meth c H locs lsr hB hl hlv hst hW hS hA
  exact lv_if_eq hB.1 hB.2.1 hd ht (fun q => kt ((z32eq0 (zvh hst)).mp q) p e s m args below meth c H locs lsr hB hl hlv (zvt hst) hW hS hA) (fun q => kf (fun q2 => q ((z32eq0 (zvh hst)).mpr q2)) p e s m args below meth c H locs lsr hB hl hlv (zvt hst) hW hS hA)
theorem z_icmp_lt {F : zF} {k n : Nat} {Γ : zC} {h : zM} {pc : Nat} {ls : List (Option zV)} {st : List zV} {a b : Int} {off : Int} {t : Nat} (hd : decode F.2.1.2.1 pc = .ok (.if_icmp .lt off, 3)) (ht : (pc : Int) + off = (t : Int)) (kt : a < b → zG F k n Γ h t ls st) (kf : ¬ a < b → zG F k n Γ h (pc + 3) ls st) : zG F k n Γ h pc ls (zI b :: zI a :: st) := by
  intro p e s m args below meth c H locs lsr hB hl hlv hst hW hS hA
  exact lv_icmp_lt hB.1 hB.2.1 hd ht (fun q => kt ((z32lt (zvh (zvt hst)) (zvh hst)).mp q) p e s m args below meth c H locs lsr hB hl hlv (zvt (zvt hst)) hW hS hA) (fun q => kf (fun q2 => q ((z32lt (zvh (zvt hst)) (zvh hst)).mpr q2)) p e s m args below meth c H locs lsr hB hl hlv (zvt (zvt hst)) hW hS hA)
theorem z_icmp_le {F : zF} {k n : Nat} {Γ : zC} {h : zM} {pc : Nat} {ls : List (Option zV)} {st : List zV} {a b : Int} {off : Int} {t : Nat} (hd : decode F.2.1.2.1 pc = .ok (.if_icmp .le off, 3)) (ht : (pc : Int) + off = (t : Int)) (kt : a ≤ b → zG F k n Γ h t ls st) (kf : ¬ a ≤ b → zG F k n Γ h (pc + 3) ls st) : zG F k n Γ h pc ls (zI b :: zI a :: st) := by
  intro p e s m args below meth c H locs lsr hB hl hlv hst hW hS hA
  exact lv_icmp_le hB.1 hB.2.1 hd ht (fun q => kt ((z32le (zvh (zvt hst)) (zvh hst)).mp q) p e s m args below meth c H locs lsr hB hl hlv (zvt (zvt hst)) hW hS hA) (fun q => kf (fun q2 => q ((z32le (zvh (zvt hst)) (zvh hst)).mpr q2)) p e s m args below meth c H locs lsr hB hl hlv (zvt (zvt hst)) hW hS hA)
theorem z_icmp_gt {F : zF} {k n : Nat} {Γ : zC} {h : zM} {pc : Nat} {ls : List (Option zV)} {st : List zV} {a b : Int} {off : Int} {t : Nat} (hd : decode F.2.1.2.1 pc = .ok (.if_icmp .gt off, 3)) (ht : (pc : Int) + off = (t : Int)) (kt : b < a → zG F k n Γ h t ls st) (kf : ¬ b < a → zG F k n Γ h (pc + 3) ls st) : zG F k n Γ h pc ls (zI b :: zI a :: st) := by
  intro p e s m args below meth c H locs lsr hB hl hlv hst hW hS hA
  exact lv_icmp_gt hB.1 hB.2.1 hd ht (fun q => kt ((z32lt (zvh hst) (zvh (zvt hst))).mp q) p e s m args below meth c H locs lsr hB hl hlv (zvt (zvt hst)) hW hS hA) (fun q => kf (fun q2 => q ((z32lt (zvh hst) (zvh (zvt hst))).mpr q2)) p e s m args below meth c H locs lsr hB hl hlv (zvt (zvt hst)) hW hS hA)
theorem z_icmp_ge {F : zF} {k n : Nat} {Γ : zC} {h : zM} {pc : Nat} {ls : List (Option zV)} {st : List zV} {a b : Int} {off : Int} {t : Nat} (hd : decode F.2.1.2.1 pc = .ok (.if_icmp .ge off, 3)) (ht : (pc : Int) + off = (t : Int)) (kt : b ≤ a → zG F k n Γ h t ls st) (kf : ¬ b ≤ a → zG F k n Γ h (pc + 3) ls st) : zG F k n Γ h pc ls (zI b :: zI a :: st) := by
  intro p e s m args below meth c H locs lsr hB hl hlv hst hW hS hA
  exact lv_icmp_ge hB.1 hB.2.1 hd ht (fun q => kt ((z32le (zvh hst) (zvh (zvt hst))).mp q) p e s m args below meth c H locs lsr hB hl hlv (zvt (zvt hst)) hW hS hA) (fun q => kf (fun q2 => q ((z32le (zvh hst) (zvh (zvt hst))).mpr q2)) p e s m args below meth c H locs lsr hB hl hlv (zvt (zvt hst)) hW hS hA)
theorem z_icmp_eq {F : zF} {k n : Nat} {Γ : zC} {h : zM} {pc : Nat} {ls : List (Option zV)} {st : List zV} {a b : Int} {off : Int} {t : Nat} (hd : decode F.2.1.2.1 pc = .ok (.if_icmp .eq off, 3)) (ht : (pc : Int) + off = (t : Int)) (kt : a = b → zG F k n Γ h t ls st) (kf : ¬ a = b → zG F k n Γ h (pc + 3) ls st) : zG F k n Γ h pc ls (zI b :: zI a :: st) := by
  intro p e s m args below meth c H locs lsr hB hl hlv hst hW hS hA
  exact lv_icmp_eq hB.1 hB.2.1 hd ht (fun q => kt ((z32eq (zvh (zvt hst)) (zvh hst)).mp q) p e s m args below meth c H locs lsr hB hl hlv (zvt (zvt hst)) hW hS hA) (fun q => kf (fun q2 => q ((z32eq (zvh (zvt hst)) (zvh hst)).mpr q2)) p e s m args below meth c H locs lsr hB hl hlv (zvt (zvt hst)) hW hS hA)
theorem z_if_ne {F : zF} {k n : Nat} {Γ : zC} {h : zM} {pc : Nat} {ls : List (Option zV)} {st : List zV} {a : Int} {off : Int} {t : Nat} (hd : decode F.2.1.2.1 pc = .ok (.ifCond .ne off, 3)) (ht : (pc : Int) + off = (t : Int)) (kt : ¬ a = 0 → zG F k n Γ h t ls st) (kf : a = 0 → zG F k n Γ h (pc + 3) ls st) : zG F k n Γ h pc ls (zI a :: st) := by
  intro p e s m args below meth c H locs lsr hB hl hlv hst hW hS hA
  exact lv_if_ne hB.1 hB.2.1 hd ht (fun q => kt (fun q2 => q ((z32eq0 (zvh hst)).mpr q2)) p e s m args below meth c H locs lsr hB hl hlv (zvt hst) hW hS hA) (fun q => kf ((z32eq0 (zvh hst)).mp q) p e s m args below meth c H locs lsr hB hl hlv (zvt hst) hW hS hA)
theorem z_icmp_ne {F : zF} {k n : Nat} {Γ : zC} {h : zM} {pc : Nat} {ls : List (Option zV)} {st : List zV} {a b : Int} {off : Int} {t : Nat} (hd : decode F.2.1.2.1 pc = .ok (.if_icmp .ne off, 3)) (ht : (pc : Int) + off = (t : Int)) (kt : ¬ a = b → zG F k n Γ h t ls st) (kf : a = b → zG F k n Γ h (pc + 3) ls st) : zG F k n Γ h pc ls (zI b :: zI a :: st) := by
  intro p e s m args below meth c H locs lsr hB hl hlv hst hW hS hA
  exact lv_icmp_ne hB.1 hB.2.1 hd ht (fun q => kt (fun q2 => q ((z32eq (zvh (zvt hst)) (zvh hst)).mpr q2)) p e s m args below meth c H locs lsr hB hl hlv (zvt (zvt hst)) hW hS hA) (fun q => kf ((z32eq (zvh (zvt hst)) (zvh hst)).mp q) p e s m args below meth c H locs lsr hB hl hlv (zvt (zvt hst)) hW hS hA)
theorem z_ifnonnull {F : zF} {k n : Nat} {Γ : zC} {h : zM} {pc : Nat} {ls : List (Option zV)} {st : List zV} {r : Nat} {off : Int} {t : Nat} (hd : decode F.2.1.2.1 pc = .ok (.ifnonnull off, 3)) (ht : (pc : Int) + off = (t : Int)) (kt : r ≠ 0 → zG F k n Γ h t ls st) (kf : r = 0 → zG F k n Γ h (pc + 3) ls st) : zG F k n Γ h pc ls (zR r :: st) := by
  intro p e s m args below meth c H locs lsr hB hl hlv hst hW hS hA
  by_cases hr : r = 0
  · have e1 : zval Γ (zR r) = .null := by show zrf Γ r = _; unfold zrf; rw [if_pos hr]
    rw [List.map_cons, e1]
    exact lv_ifnonnullN hB.1 hB.2.1 hd (kf hr p e s m args below meth c H locs lsr hB hl hlv (zvt hst) hW hS hA)
  · have e1 : zval Γ (zR r) = .ref (zad Γ r) := by show zrf Γ r = _; unfold zrf; rw [if_neg hr]
    rw [List.map_cons, e1]
    exact lv_ifnonnull hB.1 hB.2.1 hd ht (kt hr p e s m args below meth c H locs lsr hB hl hlv (zvt hst) hW hS hA)
theorem z_tabIn {F : zF} {k n : Nat} {Γ : zC} {h : zM} {pc : Nat} {ls : List (Option zV)} {st : List zV} {a : Int} {dflt lo hi : Int} {offs : Array Int} {len : Nat} {off : Int} {t : Nat} (hd : decode F.2.1.2.1 pc = .ok (.tableswitch dflt lo hi offs, len)) (h1 : lo ≤ a) (h2 : a ≤ hi) (ho : offs[(a - lo).toNat]? = some off) (ht : (pc : Int) + off = (t : Int)) (kk : zG F k n Γ h t ls st) : zG F k n Γ h pc ls (zI a :: st) := by
  refine zstk (fun hv => zvt hv) (fun p e s m args below meth c H locs lsr hB hv hl hm w => ?_) kk
  have e := z32t (zvh hv)
  exact lv_tableIn hB.1 hB.2.1 hd (by rw [e]; omega) (by rw [e]; omega) (by rw [e]; exact ho) ht w
theorem z_tabOut {F : zF} {k n : Nat} {Γ : zC} {h : zM} {pc : Nat} {ls : List (Option zV)} {st : List zV} {a : Int} {dflt lo hi : Int} {offs : Array Int} {len : Nat} {t : Nat} (hd : decode F.2.1.2.1 pc = .ok (.tableswitch dflt lo hi offs, len)) (h1 : a < lo ∨ hi < a) (ht : (pc : Int) + dflt = (t : Int)) (kk : zG F k n Γ h t ls st) : zG F k n Γ h pc ls (zI a :: st) := by
  refine zstk (fun hv => zvt hv) (fun p e s m args below meth c H locs lsr hB hv hl hm w => ?_) kk
  have e := z32t (zvh hv)
  exact lv_tableOut hB.1 hB.2.1 hd (by rw [e]; exact h1) ht w
theorem z_lookup {F : zF} {k n : Nat} {Γ : zC} {h : zM} {pc : Nat} {ls : List (Option zV)} {st : List zV} {a : Int} {dflt : Int} {ps : Array (Int × Int)} {len : Nat} {off : Int} {t : Nat} (hd : decode F.2.1.2.1 pc = .ok (.lookupswitch dflt ps, len)) (hp : (ps.toList.zip (ps.toList.drop 1)).all (fun (a, next) => a.1 < next.1) = true) (ho : Op.lookupswitch.offset ps.toList dflt a = off) (ht : (pc : Int) + off = (t : Int)) (kk : zG F k n Γ h t ls st) : zG F k n Γ h pc ls (zI a :: st) := by
  refine zstk (fun hv => zvt hv) (fun p e s m args below meth c H locs lsr hB hv hl hm w => ?_) kk
  have e := z32t (zvh hv)
  exact lv_lookup hB.1 hB.2.1 hd hp (by rw [e]; exact ho) ht w
theorem z_load {F : zF} {k n : Nat} {Γ : zC} {h : zM} {pc : Nat} {ls : List (Option zV)} {st : List zV} {v : zV} (i : Nat) (hi : ls[i]? = some (some v)) {pc' : Nat} (hrow : ∀ (p : Program) (e : Env) (s : State) (m : MethodId) (args : Array Value) (below : List Frame) (meth : Method) (c : Code) (H : Heap) (locs : List Loc) (lsr : Array Slot), zB F p s m args meth c → zov Γ v → lsr[i]? = some (.val (zval Γ v)) →
      W p F.1 e F.2.2.1 s m args below meth c H locs k n (F.2.2.2.2 s args below) (F0 m pc' lsr (zval Γ v :: st.map (zval Γ))) → W p F.1 e F.2.2.1 s m args below meth c H locs k n (F.2.2.2.2 s args below) (F0 m pc lsr (st.map (zval Γ))))
    (kk : zG F k n Γ h pc' ls (v :: st)) : zG F k n Γ h pc ls st := by
  intro p e s m args below meth c H locs lsr hB hl hlv hst hW hS hA
  have hv : zov Γ v := hlv v (List.mem_of_getElem? hi)
  exact hrow p e s m args below meth c H locs lsr hB hv (hl.2.2 i v hi) (kk p e s m args below meth c H locs lsr hB hl hlv (zv2 hv hst) hW hS hA)
theorem zref {Γ : zC} {r : Nat} {q : zK} (hk : zkd Γ r = some q) : zval Γ (zR r) = .ref (zad Γ r) := by
  cases r with
  | zero => cases hk
  | succ k => rfl
def zpk : Option zV → Bool | some (.inr (.inl _)) => false | _ => true
theorem zloc_st {Γ : zC} {lsr : Array Slot} {nL : Nat} {ls : List (Option zV)} (hl : zloc Γ lsr nL ls) : ∃ lv : List (Nat × Value), lv_has lsr nL lv ∧ ∀ (i : Nat) (v : zV), ls[i]? = some (some v) → (i, zval Γ v) ∈ lv := by
  refine ⟨(List.range ls.length).filterMap fun i => (ls.getD i none).map fun v => (i, zval Γ v), ⟨hl.1, hl.2.1, fun q hq => ?_⟩, fun i v hv => ?_⟩
  · obtain ⟨i, hi, h2⟩ := List.mem_filterMap.mp hq
    cases ho : ls.getD i none with
    | none => rw [ho] at h2; cases h2
    | some v =>
      rw [ho] at h2
      cases h2
      have hi' : i < ls.length := List.mem_range.mp hi
      refine hl.2.2 i v ?_
      rw [List.getD_eq_getElem?_getD] at ho
      rw [List.getElem?_eq_getElem hi'] at ho ⊢
      simpa using ho
  · have hi' : i < ls.length := (List.getElem?_eq_some_iff.mp hv).1
    refine List.mem_filterMap.mpr ⟨i, List.mem_range.mpr hi', ?_⟩
    rw [List.getD_eq_getElem?_getD, hv]
    rfl
theorem zcat_of {Γ : zC} {v : zV} (h : (zval Γ v).category = 2) : zpk (some v) = false := by
  rcases v with x | x | x
  · cases h
  · rfl
  · rw [zcatR] at h; cases h
/-- behind a store of one word -/
theorem zloc_set1 {Γ : zC} {nL : Nat} {ls : List (Option zV)} {i : Nat} {v : zV} {lv : List (Nat × Value)} {lsr' : Array Slot} (hlv : ∀ (i : Nat) (v : zV), ls[i]? = some (some v) → (i, zval Γ v) ∈ lv)
    (hp : i = 0 ∨ ∃ o, ls[i - 1]? = some o ∧ zpk o = true) (h : lv_has lsr' nL ((i, zval Γ v) :: lv.filter (fun q => !(q.1 == i) && !(q.1 + 1 == i && q.2.category == 2)))) : zloc Γ lsr' nL (ls.set i (some v)) := by
  refine ⟨h.1, h.2.1, fun j w hj => ?_⟩
  rw [List.getElem?_set] at hj
  by_cases e : i = j
  · subst e
    simp only [if_true] at hj
    split at hj
    · cases hj
      exact h.2.2 (i, zval Γ v) List.mem_cons_self
    · cases hj
  · simp only [e, if_false] at hj
    refine h.2.2 (j, zval Γ w) (List.mem_cons_of_mem _ (List.mem_filter.mpr ⟨hlv j w hj, ?_⟩))
    simp only [Bool.and_eq_true, Bool.not_eq_true', Bool.and_eq_false_iff, beq_eq_false_iff_ne]
    refine ⟨fun q => e q.symm, ?_⟩
    by_cases e2 : j + 1 = i
    · right
      intro hc
      rcases hp with h0 | ⟨o, ho, hp⟩
      · omega
      · rw [show i - 1 = j by omega, hj] at ho
        cases ho
        rw [zcat_of hc] at hp
        cases hp
    · left; exact e2
theorem zloc_set2 {Γ : zC} {nL : Nat} {ls : List (Option zV)} {i : Nat} {v : zV} {lv : List (Nat × Value)} {lsr' : Array Slot} (hlv : ∀ (i : Nat) (v : zV), ls[i]? = some (some v) → (i, zval Γ v) ∈ lv)
    (hp : i = 0 ∨ ∃ o, ls[i - 1]? = some o ∧ zpk o = true) (h : lv_has lsr' nL ((i, zval Γ v) :: lv.filter (fun q => !(q.1 == i) && (!(q.1 == i + 1) && !(q.1 + 1 == i && q.2.category == 2))))) : zloc Γ lsr' nL ((ls.set i (some v)).set (i + 1) none) := by
  refine ⟨h.1, h.2.1, fun j w hj => ?_⟩
  rw [List.getElem?_set] at hj
  by_cases e1 : i + 1 = j
  · subst e1
    simp only [if_true] at hj
    split at hj <;> cases hj
  · simp only [e1, if_false] at hj
    rw [List.getElem?_set] at hj
    by_cases e : i = j
    · subst e
      simp only [if_true] at hj
      split at hj
      · cases hj
        exact h.2.2 (i, zval Γ v) List.mem_cons_self
      · cases hj
    · simp only [e, if_false] at hj
      refine h.2.2 (j, zval Γ w) (List.mem_cons_of_mem _ (List.mem_filter.mpr ⟨hlv j w hj, ?_⟩))
      simp only [Bool.and_eq_true, Bool.not_eq_true', Bool.and_eq_false_iff, beq_eq_false_iff_ne]
      refine ⟨fun q => e q.symm, fun q => e1 q.symm, ?_⟩
      by_cases e2 : j + 1 = i
      · right
        intro hc
        rcases hp with h0 | ⟨o, ho, hp⟩
        · omega
        · rw [show i - 1 = j by omega, hj] at ho
          cases ho
          rw [zcat_of hc] at hp
          cases hp
      · left; exact e2
theorem zlv_set {Γ : zC} {ls : List (Option zV)} {i : Nat} {v : zV} (h : ∀ w, some w ∈ ls → zov Γ w) (hv : zov Γ v) : ∀ w, some w ∈ ls.set i (some v) → zov Γ w := by
  intro w hw
  rcases List.mem_or_eq_of_mem_set hw with h1 | h1
  · exact h w h1
  · cases h1; exact hv
theorem zlv_set0 {Γ : zC} {ls : List (Option zV)} {i : Nat} (h : ∀ w, some w ∈ ls → zov Γ w) : ∀ w, some w ∈ ls.set i none → zov Γ w := by
  intro w hw
  rcases List.mem_or_eq_of_mem_set hw with h1 | h1
  · exact h w h1
  · cases h1
theorem z_iload_n {F : zF} {k n : Nat} {Γ : zC} {h : zM} {pc : Nat} {ls : List (Option zV)} {st : List zV} {x : Int} {i : Nat} {j : Fin 4} (hd : decode F.2.1.2.1 pc = .ok (.iload_n j, 1)) (hj : (j : Nat) = i) (hi : ls[i]? = some (some (zI x))) (kk : zG F k n Γ h (pc + 1) ls (zI x :: st)) : zG F k n Γ h pc ls st :=
  z_load i hi (fun p e s m args below meth c H locs lsr hB hv hx w => lv_iload_n hB.1 hB.2.1 hd hj hx w) kk
theorem z_istore_n {F : zF} {k n : Nat} {Γ : zC} {h : zM} {pc : Nat} {ls : List (Option zV)} {st : List zV} {x : Int} {i : Nat} {j : Fin 4} (hd : decode F.2.1.2.1 pc = .ok (.istore_n j, 1)) (hj : (j : Nat) = i) (hn : i < F.2.1.2.2.1) (hp : i = 0 ∨ ∃ o, ls[i - 1]? = some o ∧ zpk o = true)  (kk : zG F k n Γ h (pc + 1) (ls.set i (some (zI x))) st) : zG F k n Γ h pc ls (zI x :: st) := by
  intro p e s m args below meth c H locs lsr hB hl hlv hst hW hS hA
  obtain ⟨lv, hh, hm⟩ := zloc_st hl
  exact lv_istore_n hB.1 hB.2.1 hd hj hh hn rfl (fun lsr' hl2 => kk p e s m args below meth c H locs lsr' hB (zloc_set1 hm hp hl2) (zlv_set hlv (zvh hst)) (zvt hst) hW hS hA)
theorem z_iload {F : zF} {k n : Nat} {Γ : zC} {h : zM} {pc : Nat} {ls : List (Option zV)} {st : List zV} {x : Int} {i : Nat}  (hd : decode F.2.1.2.1 pc = .ok (.iload i, 2))  (hi : ls[i]? = some (some (zI x))) (kk : zG F k n Γ h (pc + 2) ls (zI x :: st)) : zG F k n Γ h pc ls st :=
  z_load i hi (fun p e s m args below meth c H locs lsr hB hv hx w => lv_iload hB.1 hB.2.1 hd hx w) kk
theorem z_istore {F : zF} {k n : Nat} {Γ : zC} {h : zM} {pc : Nat} {ls : List (Option zV)} {st : List zV} {x : Int} {i : Nat}  (hd : decode F.2.1.2.1 pc = .ok (.istore i, 2))  (hn : i < F.2.1.2.2.1) (hp : i = 0 ∨ ∃ o, ls[i - 1]? = some o ∧ zpk o = true)  (kk : zG F k n Γ h (pc + 2) (ls.set i (some (zI x))) st) : zG F k n Γ h pc ls (zI x :: st) := by
  intro p e s m args below meth c H locs lsr hB hl hlv hst hW hS hA
  obtain ⟨lv, hh, hm⟩ := zloc_st hl
  exact lv_istore hB.1 hB.2.1 hd hh hn rfl (fun lsr' hl2 => kk p e s m args below meth c H locs lsr' hB (zloc_set1 hm hp hl2) (zlv_set hlv (zvh hst)) (zvt hst) hW hS hA)
theorem z_lload_n {F : zF} {k n : Nat} {Γ : zC} {h : zM} {pc : Nat} {ls : List (Option zV)} {st : List zV} {x : Int} {i : Nat} {j : Fin 4} (hd : decode F.2.1.2.1 pc = .ok (.lload_n j, 1)) (hj : (j : Nat) = i) (hi : ls[i]? = some (some (zL x))) (kk : zG F k n Γ h (pc + 1) ls (zL x :: st)) : zG F k n Γ h pc ls st :=
  z_load i hi (fun p e s m args below meth c H locs lsr hB hv hx w => lv_lload_n hB.1 hB.2.1 hd hj hx w) kk
theorem z_lstore_n {F : zF} {k n : Nat} {Γ : zC} {h : zM} {pc : Nat} {ls : List (Option zV)} {st : List zV} {x : Int} {i : Nat} {j : Fin 4} (hd : decode F.2.1.2.1 pc = .ok (.lstore_n j, 1)) (hj : (j : Nat) = i) (hn : i + 1 < F.2.1.2.2.1) (hp : i = 0 ∨ ∃ o, ls[i - 1]? = some o ∧ zpk o = true)  (kk : zG F k n Γ h (pc + 1) ((ls.set i (some (zL x))).set (i + 1) none) st) : zG F k n Γ h pc ls (zL x :: st) := by
  intro p e s m args below meth c H locs lsr hB hl hlv hst hW hS hA
  obtain ⟨lv, hh, hm⟩ := zloc_st hl
  exact lv_lstore_n hB.1 hB.2.1 hd hj hh hn rfl (fun lsr' hl2 => kk p e s m args below meth c H locs lsr' hB (zloc_set2 hm hp hl2) (zlv_set0 (zlv_set hlv (zvh hst))) (zvt hst) hW hS hA)
theorem z_lload {F : zF} {k n : Nat} {Γ : zC} {h : zM} {pc : Nat} {ls : List (Option zV)} {st : List zV} {x : Int} {i : Nat}  (hd : decode F.2.1.2.1 pc = .ok (.lload i, 2))  (hi : ls[i]? = some (some (zL x))) (kk : zG F k n Γ h (pc + 2) ls (zL x :: st)) : zG F k n Γ h pc ls st :=
  z_load i hi (fun p e s m args below meth c H locs lsr hB hv hx w => lv_lload hB.1 hB.2.1 hd hx w) kk
theorem z_lstore {F : zF} {k n : Nat} {Γ : zC} {h : zM} {pc : Nat} {ls : List (Option zV)} {st : List zV} {x : Int} {i : Nat}  (hd : decode F.2.1.2.1 pc = .ok (.lstore i, 2))  (hn : i + 1 < F.2.1.2.2.1) (hp : i = 0 ∨ ∃ o, ls[i - 1]? = some o ∧ zpk o = true)  (kk : zG F k n Γ h (pc + 2) ((ls.set i (some (zL x))).set (i + 1) none) st) : zG F k n Γ h pc ls (zL x :: st) := by
  intro p e s m args below meth c H locs lsr hB hl hlv hst hW hS hA
  obtain ⟨lv, hh, hm⟩ := zloc_st hl
  exact lv_lstore hB.1 hB.2.1 hd hh hn rfl (fun lsr' hl2 => kk p e s m args below meth c H locs lsr' hB (zloc_set2 hm hp hl2) (zlv_set0 (zlv_set hlv (zvh hst))) (zvt hst) hW hS hA)
theorem z_aload_n {F : zF} {k n : Nat} {Γ : zC} {h : zM} {pc : Nat} {ls : List (Option zV)} {st : List zV} {x : Nat} {i : Nat} {j : Fin 4} (hd : decode F.2.1.2.1 pc = .ok (.aload_n j, 1)) (hj : (j : Nat) = i) (hi : ls[i]? = some (some (zR x))) (hx0 : x ≠ 0) (kk : zG F k n Γ h (pc + 1) ls (zR x :: st)) : zG F k n Γ h pc ls st := by
  refine z_load i hi (fun p e s m args below meth c H locs lsr hB hv hx w => ?_) kk
  have e1 : zval Γ (zR x) = .ref (zad Γ x) := by show zrf Γ x = _; unfold zrf; rw [if_neg hx0]
  rw [e1] at hx w
  exact lv_aload_n hB.1 hB.2.1 hd hj hx w
theorem z_astore_n {F : zF} {k n : Nat} {Γ : zC} {h : zM} {pc : Nat} {ls : List (Option zV)} {st : List zV} {x : Nat} {i : Nat} {j : Fin 4} (hd : decode F.2.1.2.1 pc = .ok (.astore_n j, 1)) (hj : (j : Nat) = i) (hn : i < F.2.1.2.2.1) (hp : i = 0 ∨ ∃ o, ls[i - 1]? = some o ∧ zpk o = true) (hx0 : x ≠ 0) (kk : zG F k n Γ h (pc + 1) (ls.set i (some (zR x))) st) : zG F k n Γ h pc ls (zR x :: st) := by
  intro p e s m args below meth c H locs lsr hB hl hlv hst hW hS hA
  obtain ⟨lv, hh, hm⟩ := zloc_st hl
  have e1 : zval Γ (zR x) = .ref (zad Γ x) := by show zrf Γ x = _; unfold zrf; rw [if_neg hx0]
  rw [List.map_cons, e1]
  exact lv_astore_n hB.1 hB.2.1 hd hj hh hn rfl (fun lsr' hl2 => kk p e s m args below meth c H locs lsr' hB (zloc_set1 hm hp (by rw [e1]; exact hl2)) (zlv_set hlv (zvh hst)) (zvt hst) hW hS hA)
theorem z_aload {F : zF} {k n : Nat} {Γ : zC} {h : zM} {pc : Nat} {ls : List (Option zV)} {st : List zV} {x : Nat} {i : Nat}  (hd : decode F.2.1.2.1 pc = .ok (.aload i, 2))  (hi : ls[i]? = some (some (zR x))) (hx0 : x ≠ 0) (kk : zG F k n Γ h (pc + 2) ls (zR x :: st)) : zG F k n Γ h pc ls st := by
  refine z_load i hi (fun p e s m args below meth c H locs lsr hB hv hx w => ?_) kk
  have e1 : zval Γ (zR x) = .ref (zad Γ x) := by show zrf Γ x = _; unfold zrf; rw [if_neg hx0]
  rw [e1] at hx w
  exact lv_aload hB.1 hB.2.1 hd hx w
theorem z_astore {F : zF} {k n : Nat} {Γ : zC} {h : zM} {pc : Nat} {ls : List (Option zV)} {st : List zV} {x : Nat} {i : Nat}  (hd : decode F.2.1.2.1 pc = .ok (.astore i, 2))  (hn : i < F.2.1.2.2.1) (hp : i = 0 ∨ ∃ o, ls[i - 1]? = some o ∧ zpk o = true) (hx0 : x ≠ 0) (kk : zG F k n Γ h (pc + 2) (ls.set i (some (zR x))) st) : zG F k n Γ h pc ls (zR x :: st) := by
  intro p e s m args below meth c H locs lsr hB hl hlv hst hW hS hA
  obtain ⟨lv, hh, hm⟩ := zloc_st hl
  have e1 : zval Γ (zR x) = .ref (zad Γ x) := by show zrf Γ x = _; unfold zrf; rw [if_neg hx0]
  rw [List.map_cons, e1]
  exact lv_astore hB.1 hB.2.1 hd hh hn rfl (fun lsr' hl2 => kk p e s m args below meth c H locs lsr' hB (zloc_set1 hm hp (by rw [e1]; exact hl2)) (zlv_set hlv (zvh hst)) (zvt hst) hW hS hA)
theorem z_iinc {F : zF} {k n : Nat} {Γ : zC} {h : zM} {pc : Nat} {ls : List (Option zV)} {st : List zV} {x y : Int} {i : Nat} (hd : decode F.2.1.2.1 pc = .ok (.iinc i y, 3)) (hi : ls[i]? = some (some (zI x))) (hr : zo32 (x + y)) (hn : i < F.2.1.2.2.1) (hp : i = 0 ∨ ∃ o, ls[i - 1]? = some o ∧ zpk o = true) (kk : zG F k n Γ h (pc + 3) (ls.set i (some (zI (x + y)))) st) : zG F k n Γ h pc ls st := by
  intro p e s m args below meth c H locs lsr hB hl hlv hst hW hS hA
  obtain ⟨lv, hh, hm⟩ := zloc_st hl
  obtain ⟨j, hj⟩ := List.getElem?_of_mem (hm i _ hi)
  exact lv_iinc hB.1 hB.2.1 hd hh hj (Int32.ofInt_add x y).symm hn rfl (fun lsr' hl2 => kk p e s m args below meth c H locs lsr' hB (zloc_set1 hm hp hl2) (zlv_set hlv hr) hst hW hS hA)
