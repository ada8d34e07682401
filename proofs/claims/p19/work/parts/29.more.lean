/-! ===== more rows: longs' bits, int division; a contract that knows the script ===== -/
section V9
variable {p : Program} {l : Launch} {e : Env} {R : Room} {s : State} {m : MethodId} {args : Array Value} {below : List Frame} {meth : Method} {c : Code} {Q : State → Prop}
variable {σ : Type} {pic : σ → Heap → Prop} {A : Nat → Prop} {D : va_G} {tys : List (ClassId × FieldType)} {z0 : Nat} {cc : ByteArray} {nL : Nat} {Ts : List Cond} {own : String}
variable {x : σ} {k n pc : Nat} {lv : List (Nat × Value)} {st : List Value}
theorem v_lor (C : cx p s m args meth c cc nL Ts own D tys z0 A) {a b : Int64} (d : decode cc pc = .ok (.lor, 1)) (kk : vv pic A nL p l e R s m args below meth c Q x k n (pc + 1) lv (.long (a ||| b) :: st)) : vv pic A nL p l e R s m args below meth c Q x k n pc lv (.long b :: .long a :: st) := fun H locs ls hP hS hl => lv_lor C.1.1 C.1.2.1 d (kk H locs ls hP hS hl)
theorem v_lshl (C : cx p s m args meth c cc nL Ts own D tys z0 A) {a v : Int64} {b : Int32} (d : decode cc pc = .ok (.lshl, 1)) (hv : a <<< (b.toInt64 &&& 63) = v) (kk : vv pic A nL p l e R s m args below meth c Q x k n (pc + 1) lv (.long v :: st)) : vv pic A nL p l e R s m args below meth c Q x k n pc lv (.int b :: .long a :: st) := fun H locs ls hP hS hl => lv_lshl C.1.1 C.1.2.1 d hv (kk H locs ls hP hS hl)
theorem v_idiv (C : cx p s m args meth c cc nL Ts own D tys z0 A) {a b : Int32} (d : decode cc pc = .ok (.idiv, 1)) (hne : ¬ b = 0) (kk : vv pic A nL p l e R s m args below meth c Q x k n (pc + 1) lv (.int (a / b) :: st)) : vv pic A nL p l e R s m args below meth c Q x k n pc lv (.int b :: .int a :: st) := fun H locs ls hP hS hl => lv_idiv C.1.1 C.1.2.1 d hne (kk H locs ls hP hS hl)
/-- the script, as a state has it -/
def scr (b L : Nat) (xs : Nat → Int32) (A : Nat → Prop) (U : State) : Prop := va_X b L xs U U.heap ∧ b < U.heap.size ∧ ¬ A b
/-- a contract from a state that holds the script too -/
def ctS {σ : Type} (D : va_G) (tys : List (ClassId × FieldType)) (z0 : Nat) (A : Nat → Prop) (pic : σ → Heap → Prop) (b L : Nat) (xs : Nat → Int32) (l : Launch) (y : MethodName) (ws : List Cond) (rm : Room) (av : List Value) (x : σ) (Qc : Array Value → State → Outcome → State → Prop) : Prop :=
  Met l y ws rm (va_Pc av (fun U => pic x U.heap ∧ kw D tys z0 A U ∧ scr b L xs A U)) Qc rm.cells rm.slots A
theorem ctS_blind {b L : Nat} {xs : Nat → Int32} {av : List Value} : FrameBlind (va_Pc av (fun U => pic x U.heap ∧ kw D tys z0 A U ∧ scr b L xs A U)) :=
  fun _ U _ _ q => ⟨q.1, q.2.1, kw.step q.2.2.1 (va_S.rf (H0 := U.heap)) rfl (State.WarmedH.refl U), q.2.2.2.1.moved (State.WarmedH.refl U).alike, q.2.2.2.2⟩
theorem ctS_of {b L : Nat} {xs : Nat → Int32} {y : MethodName} {ws ws' : List Cond} {rm : Room} {maxL : Nat} {ret : Option FieldType} {av : List Value} {Qc : Array Value → State → Outcome → State → Prop} (own : String) (hy : plainName y.cls = true) (hcl : y.cls = own) (hw : ws = Cond.code y cc maxL ret :: ws') (hn : (lg_sl av).length ≤ maxL)
    (body : ∀ p e s m below meth c, cx p s m av.toArray meth c cc maxL ws own D tys z0 A → meth.sig.returnType = ret → scr b L xs A s → vv pic A maxL p l e rm s m av.toArray below meth c (MQ below Qc av.toArray s rm.cells rm.slots A) x 0 0 0 (lv_args 0 av) []) : ctS D tys z0 A pic b L xs l y ws rm av x Qc := by
  refine Met.ofW (cc := cc) (maxL := maxL) (ret := ret) hy hw ?_
  intro p e s m args below meth c s₁ B hml hv
  obtain ⟨rfl, hP, hK, hE⟩ := hv
  have hts := atoms_spec (ws := ws) B.pre
  have hown : s.vm.findClass own = some m.cls := by rw [← hcl]; exact findClass_of_methodNamed B.named
  rw [lg_entry_eq]
  exact body p e s m below meth c ⟨⟨B.exec, B.bytes, hml, hown, hts⟩, hK, B.notSynchronized⟩ B.returns hE s.heap [] _ hP va_S.rf (lv_entry av hn)
theorem scr.step {b L : Nat} {xs : Nat → Int32} {H : Heap} {locs : List Loc} {U : State} (h : scr b L xs A s) (hS : va_S A s.heap H locs) (hU : U.heap = H) (hW : s.WarmedH U.vm) : scr b L xs A U := by
  subst hU
  exact ⟨(h.1.moved hW.alike).kept (hS.2.1 b h.2.1 h.2.2), Nat.lt_of_lt_of_le h.2.1 hS.1, h.2.2⟩
theorem v_runSS {y : MethodName} {bytes : ByteArray} {maxL i nA : Nat} {ret : Option FieldType} {ws : List Cond} {rm : Room} {As rest : List Value} {Qc : Array Value → State → Outcome → State → Prop} {b L : Nat} {xs : Nat → Int32} (C : cx p s m args meth c cc nL Ts own D tys z0 A) (hX : scr b L xs A s) (hM : ctS D tys z0 A pic b L xs l y ws rm As x Qc) (cw : CallB R s args own i y bytes maxL ret ws rm rm.cells rm.slots nA ∧ (Cond.static y).before args s = true) (hn : As.length = nA) (d : decode cc pc = .ok (.invokestatic i, 3)) (h8 : (rest.map fun v => v.category).sum ≤ 8) (hst : st = As.reverse ++ rest) (hf : k + rm.cells ≤ R.cells ∧ n + rm.slots ≤ R.slots) :
    vr pic A nL p l e R s m args below meth c x k n pc lv st rest rm.cells rm.slots (Qc As.toArray) := by
  subst hst
  exact fun H locs ls hP hS hl => va_runS C.1 hM cw ⟨ctS_blind, fun U hU hW => ⟨rfl, by rw [hU]; exact hP, C.2.1.step hS hU hW, hX.step hS hU hW⟩⟩ rfl hn hl.1 rfl (lv_room h8) d hf
/-- the script's element, its length -/
theorem v_sld9 (C : cx p s m args meth c cc nL Ts own D tys z0 A) {b L : Nat} {xs : Nat → Int32} (hX : scr b L xs A s) {i : Int32} (hin : vp_in i L) (d : decode cc pc = .ok (.iaload, 1)) (kk : vv pic A nL p l e R s m args below meth c Q x k n (pc + 1) lv (.int (xs i.toNatClampNeg) :: st)) : vv pic A nL p l e R s m args below meth c Q x k n pc lv (.int i :: .ref b :: st) :=
  fun H locs ls hP hS hl => va_sld C.1.1 C.1.2.1 hX.1 hX.2.1 hX.2.2 hS hin d (kk H locs ls hP hS hl)
theorem v_slen9 (C : cx p s m args meth c cc nL Ts own D tys z0 A) {b L : Nat} {xs : Nat → Int32} (hX : scr b L xs A s) (d : decode cc pc = .ok (.arraylength, 1)) (kk : vv pic A nL p l e R s m args below meth c Q x k n (pc + 1) lv (.int (nI L) :: st)) : vv pic A nL p l e R s m args below meth c Q x k n pc lv (.ref b :: st) :=
  fun H locs ls hP hS hl => va_slen C.1.1 C.1.2.1 hX.1 hX.2.1 hX.2.2 hS d (kk H locs ls hP hS hl)
end V9
