/-! ===== references stored in arrays, new arrays, casts, statics ===== -/
section VS2
variable {p : Program} {l : Launch} {e : Env} {R : Room} {s : State} {m : MethodId} {args : Array Value} {below : List Frame} {meth : Method} {c : Code} {Q : State → Prop}
variable {σ : Type} {pic : σ → Heap → Prop} {A : Nat → Prop} {D : va_G} {tys : List (ClassId × FieldType)} {z0 : Nat} {cc : ByteArray} {nL : Nat} {Ts : List Cond} {own : String}
variable {x : σ} {k n pc : Nat} {lv : List (Nat × Value)} {st : List Value}
theorem upq (cA : ClassId) (N : Nat) (f : Nat → Option Nat) (i : Nat) (w : Option Nat) : (vp_cell cA (N, .inr (.inr (.inr (.inr f))))).setSlot i (va_rf w) = vp_cell cA (N, .inr (.inr (.inr (.inr (va_up f i w))))) := by
  rw [vp_cell_q, vp_cell_q, arrV_store]
  congr 2
  funext q
  by_cases hq : q = i
  · subst hq
    simp [updV, va_up]
  · simp [updV, va_up, hq]
/-- the array holds references to objects of a class under which the object's class stands -/
theorem v_aastG (C : cx p s m args meth c cc nL Ts own D tys z0 A) {cA : ClassId} {E : String} {a N v ci : Nat} {f : Nat → Option Nat} {i : Int32} {r : vw_C} {x' : σ} (d : decode cc pc = .ok (.aastore, 1)) (t0 : Nat) (ht : tys[t0]? = some (cA, .object E)) (hc : vwCl[ci]? = some r) (hv : gC D pic x ci v) (hca : ∀ comp, s.vm.findClass E = some comp → s.vm.assignable (D.1 ci) comp = true) (hi : vp_in i N)
    (g : pA pic A x cA a (N, .inr (.inr (.inr (.inr f)))) (N, .inr (.inr (.inr (.inr (va_up f i.toNatClampNeg (some v)))))) x') (kk : vv pic A nL p l e R s m args below meth c Q x' k n (pc + 1) lv st) : vv pic A nL p l e R s m args below meth c Q x k n pc lv (.ref v :: .int i :: .ref a :: st) := by
  intro H locs ls hP hS hl
  obtain ⟨hA, h1, h3⟩ := g H hP
  have hlt : i.toNatClampNeg < N := Nat.not_le.mp fun q => hi (Or.inr q)
  have h0 : ¬ i < 0 := fun q => hi (Or.inl q)
  obtain ⟨fs, r', hr', cellV, g1, g2, g3, -⟩ := hv H hP
  have hcls := (C.2.1.1.1 ci r hc).2
  obtain ⟨kA, comp, k1, k2, k3, -⟩ := (C.2.1.1.2 t0 _ ht).2
  obtain ⟨kE, hkE, -⟩ := Vm.findClass_spec k3
  obtain ⟨kC, hkC, -⟩ := hcls.2
  refine W.aast C.1.1 C.1.2.1 h1 (fun q h => by cases h) (fun h => by cases h) k1 k2 rfl hkE ⟨h0, by show _ < (arrV _ _ _).slots.size; rw [arrV_size]; exact hlt⟩ g1 (fun q h => by rw [g3] at h; cases h) (by rw [g2]; exact hkC) (by rw [g2]; exact hca _ k3) rfl rfl d fun H1 e z oq => ?_
  refine kk H1 _ ls (h3 H1 ?_ z oq) (hS.put z oq hA) hl
  rw [e]
  exact congrArg some (upq cA N f i.toNatClampNeg (some v))
theorem v_aast (C : cx p s m args meth c cc nL Ts own D tys z0 A) {cA : ClassId} {a N v ci : Nat} {f : Nat → Option Nat} {i : Int32} {r : vw_C} {x' : σ} (d : decode cc pc = .ok (.aastore, 1)) (t0 : Nat) (ht : tys[t0]? = some (cA, .object r.1)) (hc : vwCl[ci]? = some r) (hv : gC D pic x ci v) (hi : vp_in i N)
    (g : pA pic A x cA a (N, .inr (.inr (.inr (.inr f)))) (N, .inr (.inr (.inr (.inr (va_up f i.toNatClampNeg (some v)))))) x') (kk : vv pic A nL p l e R s m args below meth c Q x' k n (pc + 1) lv st) : vv pic A nL p l e R s m args below meth c Q x k n pc lv (.ref v :: .int i :: .ref a :: st) :=
  v_aastG C d t0 ht hc hv (fun comp h => by
    have hcls := (C.2.1.1.1 ci r hc).2
    cases hcls.1.symm.trans h
    exact va_assign hcls) hi g kk
theorem v_aastO (C : cx p s m args meth c cc nL Ts own D tys z0 A) {cA : ClassId} {E : String} {a N v ci : Nat} {f : Nat → Option Nat} {i : Int32} {r : vw_C} {x' : σ} (d : decode cc pc = .ok (.aastore, 1)) (t0 : Nat) (ht : tys[t0]? = some (cA, .object E)) (hc : vwCl[ci]? = some r) (hv : gC D pic x ci v) (hca : va_Nw (.castable r.1 E) s) (hi : vp_in i N)
    (g : pA pic A x cA a (N, .inr (.inr (.inr (.inr f)))) (N, .inr (.inr (.inr (.inr (va_up f i.toNatClampNeg (some v)))))) x') (kk : vv pic A nL p l e R s m args below meth c Q x' k n (pc + 1) lv st) : vv pic A nL p l e R s m args below meth c Q x k n pc lv (.ref v :: .int i :: .ref a :: st) :=
  v_aastG C d t0 ht hc hv (fun comp h => by
    have hcls := (C.2.1.1.1 ci r hc).2
    obtain ⟨c0, t1, f1, f2, f3⟩ := Cond.castable_spec (va_Nw.use (A := args) rfl hca)
    cases hcls.1.symm.trans f1
    cases h.symm.trans f2
    exact f3) hi g kk
theorem v_newaG (C : cx p s m args meth c cc nL Ts own D tys z0 A) {cA : ClassId} {ty : FieldType} {i : Int32} {N : Nat} {a0 : vp_A} {atype : ArrayType} {x' : Nat → σ} {fr : Nat → Prop} (d : decode cc pc = .ok (.newarray atype, 2)) (harr : Cond.arrayClass (newarray.typeOf atype) ∈ Ts) (hty : newarray.typeOf atype = ty) (hid : ∀ cB, s.vm.findClass ("[" ++ ty.toString) = some cB → cB = cA) (ha : vp_cell cA a0 = arrV cA N (fun _ => defaultValue ty)) (hn : ¬ i < 0) (hN : i.toNatClampNeg = N) (hbytes : N * componentBytes ty ≤ 536870912) (hcells : k + 1 ≤ R.cells) (hslots : n + N ≤ R.slots)
    (g : nO D pic A x (.inl (cA, a0)) x' fr) (kk : ∀ q, fr q → vv pic A nL p l e R s m args below meth c Q (x' q) (k + 1) (n + N) (pc + 2) lv (.ref q :: st)) : vv pic A nL p l e R s m args below meth c Q x k n pc lv (.int i :: st) := by
  intro H locs ls hP hS hl
  subst hty
  refine va_newaK C.1.1 C.1.2.1 (C.1.2.2.2.2 _ harr) rfl d rfl hn hN hbytes hcells hslots rfl fun H1 cB e1 z1 o1 hAr hNm => ?_
  have hB : cB = cA := hid cB (by cases atype <;> exact hNm)
  subst hB
  obtain ⟨h1, h2⟩ := g H hP
  have hAq : A H.size := C.2.1.2.1 _ hS.1
  refine kk H.size h1 H1 locs ls (h2 hAq H1 ?_ z1 o1) ⟨Nat.le_trans hS.1 (by omega), fun q h1 h2 => (o1 q (Nat.lt_of_lt_of_le h1 hS.1)).trans (hS.2.1 q h1 h2), hS.2.2⟩ hl
  show H1[H.size]? = some (vp_cell cB a0)
  rw [ha]
  exact e1
theorem v_newq (C : cx p s m args meth c cc nL Ts own D tys z0 A) {cA : ClassId} {E : String} {i : Int32} {N index : Nat} {x' : Nat → σ} {fr : Nat → Prop} (d : decode cc pc = .ok (.anewarray index, 3)) (hlink : Cond.classLink own index E ∈ Ts) (hover : va_AO E s) (t0 : Nat) (ht : tys[t0]? = some (cA, .object E)) (hn : ¬ i < 0) (hN : i.toNatClampNeg = N) (hbytes : N * 4 ≤ 536870912) (hcells : k + 1 ≤ R.cells) (hslots : n + N ≤ R.slots)
    (g : nO D pic A x (.inl (cA, N, .inr (.inr (.inr (.inr (fun _ => none)))))) x' fr) (kk : ∀ q, fr q → vv pic A nL p l e R s m args below meth c Q (x' q) (k + 1) (n + N) (pc + 3) lv (.ref q :: st)) : vv pic A nL p l e R s m args below meth c Q x k n pc lv (.int i :: st) := by
  intro H locs ls hP hS hl
  subst hN
  refine W.anew C.1.1 C.1.2.1 C.1.2.2.2.1 (C.1.2.2.2.2 _ hlink) (va_AO.use hover) rfl d rfl hn hbytes hcells hslots fun cB kA comp f1 f2 f3 f4 => ?_
  obtain ⟨kA', comp', k1, k2, k3, k4⟩ := (C.2.1.1.2 t0 _ ht).2
  have hB : cB = cA := Option.some.inj (f1.symm.trans k4)
  subst hB
  generalize hH1 : H.push ({ cls := cB, slots := Array.replicate i.toNatClampNeg .null, vm := .none } : Cell) = H1
  have z1 : H1.size = H.size + 1 := by rw [← hH1, Array.size_push]
  have e1 : H1[H.size]? = some (arrV cB i.toNatClampNeg (fun _ => .null)) := by rw [← hH1, Array.getElem?_push_size, ← arrV_new]
  have o1 : ∀ q : Nat, q < H.size → H1[q]? = H[q]? := fun q hq => by rw [← hH1, Array.getElem?_push, if_neg (Nat.ne_of_lt hq)]
  obtain ⟨h1, h2⟩ := g H hP
  have hAq : A H.size := C.2.1.2.1 _ hS.1
  refine kk H.size h1 H1 locs ls (h2 hAq H1 ?_ z1 o1) ⟨Nat.le_trans hS.1 (by omega), fun q h1 h2 => (o1 q (Nat.lt_of_lt_of_le h1 hS.1)).trans (hS.2.1 q h1 h2), hS.2.2⟩ hl
  show H1[H.size]? = some (vp_cell _ _)
  rw [vp_cell_q]
  exact e1
theorem v_newa (C : cx p s m args meth c cc nL Ts own D tys z0 A) {cA : ClassId} {ty : FieldType} {i : Int32} {N : Nat} {a0 : vp_A} {atype : ArrayType} {x' : Nat → σ} {fr : Nat → Prop} (d : decode cc pc = .ok (.newarray atype, 2)) (harr : Cond.arrayClass (newarray.typeOf atype) ∈ Ts) (t0 : Nat) (ht : tys[t0]? = some (cA, ty)) (hty : newarray.typeOf atype = ty) (ha : vp_cell cA a0 = arrV cA N (fun _ => defaultValue ty)) (hn : ¬ i < 0) (hN : i.toNatClampNeg = N) (hbytes : N * componentBytes ty ≤ 536870912) (hcells : k + 1 ≤ R.cells) (hslots : n + N ≤ R.slots)
    (g : nO D pic A x (.inl (cA, a0)) x' fr) (kk : ∀ q, fr q → vv pic A nL p l e R s m args below meth c Q (x' q) (k + 1) (n + N) (pc + 2) lv (.ref q :: st)) : vv pic A nL p l e R s m args below meth c Q x k n pc lv (.int i :: st) :=
  v_newaG C d harr hty (fun cB hB => by
    have h := (C.2.1.1.2 t0 _ ht).2
    subst hty
    cases atype <;> exact Option.some.inj (hB.symm.trans h)) ha hn hN hbytes hcells hslots g kk
/-- a cast of an object to its own class, and to one above it -/
theorem v_castS (C : cx p s m args meth c cc nL Ts own D tys z0 A) {index a ci : Nat} {r : vw_C} (d : decode cc pc = .ok (.checkcast index, 3)) (hc : vwCl[ci]? = some r) (hlink : Cond.classLink own index r.1 ∈ Ts) (hv : gC D pic x ci a) (kk : vv pic A nL p l e R s m args below meth c Q x k n (pc + 3) lv (.ref a :: st)) : vv pic A nL p l e R s m args below meth c Q x k n pc lv (.ref a :: st) := by
  intro H locs ls hP hS hl
  obtain ⟨fs, r', hr', cellV, g1, g2, g3, -⟩ := hv H hP
  have hcls := (C.2.1.1.1 ci r hc).2
  refine va_castS C.1.1 C.1.2.1 C.1.2.2.2.1 (C.1.2.2.2.2 _ hlink) hcls ⟨cellV, g1, by rw [g3]; rfl, by rw [g2]; exact hcls.1⟩ d (kk H locs ls hP hS hl)
theorem v_castN (C : cx p s m args meth c cc nL Ts own D tys z0 A) {index : Nat} (d : decode cc pc = .ok (.checkcast index, 3)) (kk : vv pic A nL p l e R s m args below meth c Q x k n (pc + 3) lv (.null :: st)) : vv pic A nL p l e R s m args below meth c Q x k n pc lv (.null :: st) :=
  fun H locs ls hP hS hl => lv_castN C.1.1 C.1.2.1 d (kk H locs ls hP hS hl)
/-- ArrayList's shared empty array -/
theorem v_getz (C : cx p s m args meth c cc nL Ts own D tys z0 A) {index : Nat} {ref : String} (d : decode cc pc = .ok (.getstatic index, 3)) (hlink : Cond.fieldLink own index ref "DEFAULTCAPACITY_EMPTY_ELEMENTDATA" "[Ljava/lang/Object;" ∈ Ts) (hr : ref = "java/util/ArrayList") (kk : vv pic A nL p l e R s m args below meth c Q x k n (pc + 3) lv (.ref z0 :: st)) : vv pic A nL p l e R s m args below meth c Q x k n pc lv st := by
  intro H locs ls hP hS hl
  subst hr
  exact va_gets C.1.1 C.1.2.1 C.2.1.2.2.2.2.1.1 hS C.1.2.2.2.1 (C.1.2.2.2.2 _ hlink) (fun _ h => h) d (kk H locs ls hP hS hl)
theorem v_alenz (C : cx p s m args meth c cc nL Ts own D tys z0 A) (d : decode cc pc = .ok (.arraylength, 1)) (kk : vv pic A nL p l e R s m args below meth c Q x k n (pc + 1) lv (.int 0 :: st)) : vv pic A nL p l e R s m args below meth c Q x k n pc lv (.ref z0 :: st) := by
  intro H locs ls hP hS hl
  obtain ⟨-, h2, cell, h3, h4, h5⟩ := C.2.1.2.2.2.2.1
  refine W.alen (n := 0) C.1.1 C.1.2.1 (by rw [hS.2.1 z0 (Array.getElem?_eq_some_iff.mp h3).1 h2]; exact h3) h4 h5 rfl rfl d (kk H locs ls hP hS hl)
end VS2
