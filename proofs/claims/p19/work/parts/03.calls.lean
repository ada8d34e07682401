/-! ===== contracts, calls, returns over vv ===== -/
/-- a contract: from the picture x, by the list av of arguments -/
def ct {σ : Type} (D : va_G) (tys : List (ClassId × FieldType)) (z0 : Nat) (A : Nat → Prop) (pic : σ → Heap → Prop) (l : Launch) (y : MethodName) (ws : List Cond) (rm : Room) (av : List Value) (x : σ) (Qc : Array Value → State → Outcome → State → Prop) : Prop :=
  Met l y ws rm (va_Pc av (fun U => pic x U.heap ∧ kw D tys z0 A U)) Qc rm.cells rm.slots A
/-- ends: what is answered, and the picture then -/
def qI {σ : Type} (pic : σ → Heap → Prop) (A : Nat → Prop) (post : Int32 → σ → Prop) := va_Qi post (fun x' U => pic x' U.heap) A
def qL {σ : Type} (pic : σ → Heap → Prop) (A : Nat → Prop) (post : Int64 → σ → Prop) := va_Ql post (fun x' U => pic x' U.heap) A
def qV {σ : Type} (pic : σ → Heap → Prop) (A : Nat → Prop) (post : σ → Prop) := va_Qv post (fun x' U => pic x' U.heap) A
def qR {σ : Type} (pic : σ → Heap → Prop) (A : Nat → Prop) (post : Nat → σ → Prop) := va_Qr (S := Nat × σ) (fun u => post u.1 u.2) (fun u q U => u.1 = q ∧ pic u.2 U.heap) A
/-- the exceptional end: the class, and the picture then -/
def xX {σ : Type} (pic : σ → Heap → Prop) (A : Nat → Prop) (px : String → σ → Prop) : String → State → State → Prop := vx_X (S := σ) (fun _ => True) (fun E x' U => px E x' ∧ pic x' U.heap) A
def cX {σ : Type} (D : va_G) (tys : List (ClassId × FieldType)) (z0 : Nat) (A : Nat → Prop) (pic : σ → Heap → Prop) (l : Launch) (y : MethodName) (ws : List Cond) (rm : Room) (av : List Value) (x : σ) (Qc : Array Value → State → Outcome → State → Prop) (px : String → σ → Prop) : Prop :=
  vx_Met l y ws rm (va_Pc av (fun U => pic x U.heap ∧ kw D tys z0 A U)) Qc (xX pic A px) rm.cells rm.slots A
theorem ct_blind {σ : Type} {D : va_G} {tys : List (ClassId × FieldType)} {z0 : Nat} {A : Nat → Prop} {pic : σ → Heap → Prop} {av : List Value} {x : σ} : FrameBlind (va_Pc av (fun U => pic x U.heap ∧ kw D tys z0 A U)) :=
  fun _ U _ _ q => ⟨q.1, q.2.1, kw.step q.2.2 (va_S.rf (H0 := U.heap)) rfl (State.WarmedH.refl U)⟩
/-- ghosts: a contract for every choice of them -/
theorem ct_ex {G σ τ : Type} {D : va_G} {tys : List (ClassId × FieldType)} {z0 : Nat} {A : Nat → Prop} {pic : σ → Heap → Prop} {pic' : τ → Heap → Prop} {l : Launch} {y : MethodName} {ws : List Cond} {rm : Room} {av : List Value} {x' : τ} {Qc' : Array Value → State → Outcome → State → Prop} (ok : G → Prop) (x : G → σ) (Qc : G → Array Value → State → Outcome → State → Prop)
    (h : ∀ i, ok i → ct D tys z0 A pic l y ws rm av (x i) (Qc i)) (hp : ∀ H, pic' x' H → ∃ i, ok i ∧ pic (x i) H) (hq : ∀ i a s o t, ok i → Qc i a s o t → Qc' a s o t) : ct D tys z0 A pic' l y ws rm av x' Qc' := by
  have h2 := MetFree.ex (l := l) (x := y) (S := headSpec ws rm) (K := fun _ _ _ _ _ => True) (P := fun i : {i : G // ok i} => va_Pc av (fun U => pic (x i.1) U.heap ∧ kw D tys z0 A U)) (Q := fun i a st o t => Qc i.1 a st o t ∧ ∃ L, FrameEnd st o t L rm.cells rm.slots ∧ ∀ q ∈ L, A q.base) (fun i => h i.1 i.2)
  show MetFree l y (headSpec ws rm) (va_Pc av (fun U => pic' x' U.heap ∧ kw D tys z0 A U)) (fun _ _ _ _ _ => True) (fun a st o t => Qc' a st o t ∧ ∃ L, FrameEnd st o t L rm.cells rm.slots ∧ ∀ q ∈ L, A q.base)
  refine MetFree.mono h2 (fun a s hP => ?_) (fun _ _ _ _ _ _ => trivial) (fun a s o t _ hQ => ?_)
  · obtain ⟨h3, h4, h5⟩ := hP
    obtain ⟨i, h6, h7⟩ := hp _ h4
    exact ⟨⟨i, h6⟩, h3, h7, h5⟩
  · obtain ⟨i, -, h3, h4⟩ := hQ
    exact ⟨hq i.1 a s o t i.2 h3, h4⟩
section VC
variable {p : Program} {l : Launch} {e : Env} {R : Room} {s : State} {m : MethodId} {args : Array Value} {below : List Frame} {meth : Method} {c : Code} {Q : State → Prop}
variable {σ : Type} {pic : σ → Heap → Prop} {A : Nat → Prop} {D : va_G} {tys : List (ClassId × FieldType)} {z0 : Nat} {cc : ByteArray} {nL : Nat} {Ts : List Cond} {own : String}
variable {x : σ} {k n pc : Nat} {lv : List (Nat × Value)} {st : List Value}
/-- from a body to a contract -/
theorem ct_of {y : MethodName} {ws ws' : List Cond} {rm : Room} {maxL : Nat} {ret : Option FieldType} {av : List Value} {Qc : Array Value → State → Outcome → State → Prop} (own : String) (hy : plainName y.cls = true) (hcl : y.cls = own) (hw : ws = Cond.code y cc maxL ret :: ws') (hn : (lg_sl av).length ≤ maxL)
    (body : ∀ p e s m below meth c, cx p s m av.toArray meth c cc maxL ws own D tys z0 A → meth.sig.returnType = ret → meth.name = y.name → vv pic A maxL p l e rm s m av.toArray below meth c (MQ below Qc av.toArray s rm.cells rm.slots A) x 0 0 0 (lv_args 0 av) []) : ct D tys z0 A pic l y ws rm av x Qc := by
  refine Met.ofW (cc := cc) (maxL := maxL) (ret := ret) hy hw ?_
  intro p e s m args below meth c s₁ B hml hv
  obtain ⟨rfl, hP, hK⟩ := hv
  have hts := atoms_spec (ws := ws) B.pre
  have hown : s.vm.findClass own = some m.cls := by rw [← hcl]; exact findClass_of_methodNamed B.named
  rw [lg_entry_eq]
  exact body p e s m below meth c ⟨⟨B.exec, B.bytes, hml, hown, hts⟩, hK, B.notSynchronized⟩ B.returns (name_of_methodNamed B.named B.method).1 s.heap [] _ hP va_S.rf (lv_entry av hn)
theorem cX_of {y : MethodName} {ws ws' : List Cond} {rm : Room} {maxL : Nat} {ret : Option FieldType} {av : List Value} {Qc : Array Value → State → Outcome → State → Prop} {px : String → σ → Prop} (own : String) (hy : plainName y.cls = true) (hcl : y.cls = own) (hw : ws = Cond.code y cc maxL ret :: ws') (hn : (lg_sl av).length ≤ maxL)
    (body : ∀ p e s m below meth c, cx p s m av.toArray meth c cc maxL ws own D tys z0 A → meth.sig.returnType = ret → (∀ z ∈ c.exceptionTable.toList, False) → vv pic A maxL p l e rm s m av.toArray below meth c (vx_MQ below Qc (xX pic A px) av.toArray s rm.cells rm.slots A) x 0 0 0 (lv_args 0 av) []) : cX D tys z0 A pic l y ws rm av x Qc px := by
  refine vx_ofW (cc := cc) (maxL := maxL) (ret := ret) hy hw ?_
  intro p e s m args below meth c s₁ B hml hex hv
  obtain ⟨rfl, hP, hK⟩ := hv
  have hts := atoms_spec (ws := ws) B.pre
  have hown : s.vm.findClass own = some m.cls := by rw [← hcl]; exact findClass_of_methodNamed B.named
  rw [lg_entry_eq]
  exact body p e s m below meth c ⟨⟨B.exec, B.bytes, hml, hown, hts⟩, hK, B.notSynchronized⟩ B.returns hex s.heap [] _ hP va_S.rf (lv_entry av hn)
/-- a call that returns -/
def vr {σ : Type} (pic : σ → Heap → Prop) (A : Nat → Prop) (nL : Nat) (p : Program) (l : Launch) (e : Env) (R : Room) (s : State) (m : MethodId) (args : Array Value) (below : List Frame) (meth : Method) (c : Code) (x : σ) (k n pc : Nat) (lv : List (Nat × Value)) (st0 rest : List Value) (mc ms : Nat) (Qa : State → Outcome → State → Prop) : Prop :=
  ∀ (H : Heap) (locs : List Loc) (ls : Array Slot), pic x H → va_S A s.heap H locs → lv_has ls nL lv → va_Run p l e R s m args below meth c H locs k n mc ms (F0 m pc ls st0) rest Qa A
/-- a call that returns or throws -/
def vrX {σ : Type} (pic : σ → Heap → Prop) (A : Nat → Prop) (nL : Nat) (p : Program) (l : Launch) (e : Env) (R : Room) (s : State) (m : MethodId) (args : Array Value) (below : List Frame) (meth : Method) (c : Code) (x : σ) (k n pc : Nat) (lv : List (Nat × Value)) (st0 rest : List Value) (mc ms : Nat) (Qa : State → Outcome → State → Prop) (XC : String → State → State → Prop) : Prop :=
  ∀ (H : Heap) (locs : List Loc) (ls : Array Slot), pic x H → va_S A s.heap H locs → lv_has ls nL lv → vx_Run p l e R s m args below meth c H locs k n mc ms (F0 m pc ls st0) rest Qa XC A
/-- with q of class E thrown at pc -/
def vt {σ : Type} (pic : σ → Heap → Prop) (A : Nat → Prop) (nL : Nat) (p : Program) (l : Launch) (e : Env) (R : Room) (s : State) (m : MethodId) (args : Array Value) (below : List Frame) (meth : Method) (c : Code) (Q : State → Prop) (x : σ) (k n pc : Nat) (lv : List (Nat × Value)) (rest : List Value) (E : String) : Prop :=
  ∀ (H : Heap) (locs : List Loc) (ls : Array Slot) (q : Addr) (ce : Cell), pic x H → va_S A s.heap H locs → lv_has ls nL lv → H[q]? = some ce → ce.vm = .none → s.vm.findClass E = some ce.cls → vx_W p l e R s m args below meth c H locs k n Q (F0 m pc ls rest) q
/-- an object is there, of kind ci -/
def gC {σ : Type} (D : va_G) (pic : σ → Heap → Prop) (x : σ) (ci a : Nat) : Prop := ∀ H, pic x H → ∃ fs, va_at D vwCl (a, .inr (ci, fs)) H
theorem gO.gC {ci a j : Nat} {v : Value} (h : gO D pic x ci a j v) : gC D pic x ci a := fun H hP => by
  obtain ⟨fs, h1, -⟩ := h H hP
  exact ⟨fs, h1⟩
theorem v_recv (C : cx p s m args meth c cc nL Ts own D tys z0 A) {Cn : String} {T : u_T} {N ci b : Nat} {H : Heap} (hc : vwCl[ci]? = some (Cn, T, N)) (hr : gC D pic x ci b) (hP : pic x H) : ∃ cellB : Cell, H[b]? = some cellB ∧ cellB.vm.isStatics = false ∧ s.vm.findClass Cn = some cellB.cls := by
  obtain ⟨fs, r, h1, cell, g1, g2, g3, -⟩ := hr H hP
  cases h1.symm.trans hc
  exact ⟨cell, g1, by rw [g3]; rfl, by rw [g2]; exact (C.2.1.1.1 ci _ hc).2.1⟩
section RUNS
variable {y : MethodName} {bytes : ByteArray} {maxL i nA : Nat} {ret : Option FieldType} {ws : List Cond} {rm : Room} {Cn : String} {As rest : List Value} {b : Nat} {Qc : Array Value → State → Outcome → State → Prop} {px : String → σ → Prop}
theorem v_runV (C : cx p s m args meth c cc nL Ts own D tys z0 A) {T : u_T} {N ci : Nat} (hM : ct D tys z0 A pic l y ws rm (.ref b :: As) x Qc) (cw : CallW R s args own Cn i y bytes maxL ret ws rm rm.cells rm.slots nA) (hn : As.length = nA) (hc : vwCl[ci]? = some (Cn, T, N)) (hr : gC D pic x ci b) (d : decode cc pc = .ok (.invokevirtual i, 3)) (h8 : (rest.map fun v => v.category).sum ≤ 8) (hst : st = As.reverse ++ .ref b :: rest) (hf : k + rm.cells ≤ R.cells ∧ n + rm.slots ≤ R.slots) :
    vr pic A nL p l e R s m args below meth c x k n pc lv st rest rm.cells rm.slots (Qc (Value.ref b :: As).toArray) := by
  subst hst
  exact fun H locs ls hP hS hl => va_runV C.1 hM cw ⟨ct_blind, v_recv C hc hr hP, fun U hU hW => ⟨rfl, by rw [hU]; exact hP, C.2.1.step hS hU hW⟩⟩ rfl hn hl.1 rfl (lv_room h8) d hf
theorem v_runS (C : cx p s m args meth c cc nL Ts own D tys z0 A) (hM : ct D tys z0 A pic l y ws rm As x Qc) (cw : CallB R s args own i y bytes maxL ret ws rm rm.cells rm.slots nA ∧ (Cond.static y).before args s = true) (hn : As.length = nA) (d : decode cc pc = .ok (.invokestatic i, 3)) (h8 : (rest.map fun v => v.category).sum ≤ 8) (hst : st = As.reverse ++ rest) (hf : k + rm.cells ≤ R.cells ∧ n + rm.slots ≤ R.slots) :
    vr pic A nL p l e R s m args below meth c x k n pc lv st rest rm.cells rm.slots (Qc As.toArray) := by
  subst hst
  exact fun H locs ls hP hS hl => va_runS C.1 hM cw ⟨ct_blind, fun U hU hW => ⟨rfl, by rw [hU]; exact hP, C.2.1.step hS hU hW⟩⟩ rfl hn hl.1 rfl (lv_room h8) d hf
theorem v_runI (C : cx p s m args meth c cc nL Ts own D tys z0 A) (hM : ct D tys z0 A pic l y ws rm (.ref b :: As) x Qc) (cw : CallB R s args own i y bytes maxL none ws rm rm.cells rm.slots nA ∧ y.name = "<init>" ∧ (Cond.instanceMethod y).before args s = true) (hn : As.length = nA) (d : decode cc pc = .ok (.invokespecial i, 3)) (h8 : (rest.map fun v => v.category).sum ≤ 8) (hst : st = As.reverse ++ .ref b :: rest) (hf : k + rm.cells ≤ R.cells ∧ n + rm.slots ≤ R.slots) :
    vr pic A nL p l e R s m args below meth c x k n pc lv st rest rm.cells rm.slots (Qc (Value.ref b :: As).toArray) := by
  subst hst
  exact fun H locs ls hP hS hl => va_runI C.1 hM cw ⟨ct_blind, fun U hU hW => ⟨rfl, by rw [hU]; exact hP, C.2.1.step hS hU hW⟩⟩ rfl hn hl.1 rfl (lv_room h8) d hf
theorem x_runV (C : cx p s m args meth c cc nL Ts own D tys z0 A) {T : u_T} {N ci : Nat} (hM : cX D tys z0 A pic l y ws rm (.ref b :: As) x Qc px) (cw : CallW R s args own Cn i y bytes maxL ret ws rm rm.cells rm.slots nA) (hn : As.length = nA) (hc : vwCl[ci]? = some (Cn, T, N)) (hr : gC D pic x ci b) (d : decode cc pc = .ok (.invokevirtual i, 3)) (h8 : (rest.map fun v => v.category).sum ≤ 8) (hst : st = As.reverse ++ .ref b :: rest) (hf : k + rm.cells ≤ R.cells ∧ n + rm.slots ≤ R.slots) :
    vrX pic A nL p l e R s m args below meth c x k n pc lv st rest rm.cells rm.slots (Qc (Value.ref b :: As).toArray) (xX pic A px) := by
  subst hst
  exact fun H locs ls hP hS hl => vx_runV C.1 hM cw ⟨ct_blind, v_recv C hc hr hP, fun U hU hW => ⟨rfl, by rw [hU]; exact hP, C.2.1.step hS hU hW⟩⟩ rfl hn hl.1 rfl (lv_room h8) d hf
theorem x_runS (C : cx p s m args meth c cc nL Ts own D tys z0 A) (hM : cX D tys z0 A pic l y ws rm As x Qc px) (cw : CallB R s args own i y bytes maxL ret ws rm rm.cells rm.slots nA ∧ (Cond.static y).before args s = true) (hn : As.length = nA) (d : decode cc pc = .ok (.invokestatic i, 3)) (h8 : (rest.map fun v => v.category).sum ≤ 8) (hst : st = As.reverse ++ rest) (hf : k + rm.cells ≤ R.cells ∧ n + rm.slots ≤ R.slots) :
    vrX pic A nL p l e R s m args below meth c x k n pc lv st rest rm.cells rm.slots (Qc As.toArray) (xX pic A px) := by
  subst hst
  exact fun H locs ls hP hS hl => vx_runS C.1 hM cw ⟨ct_blind, fun U hU hW => ⟨rfl, by rw [hU]; exact hP, C.2.1.step hS hU hW⟩⟩ rfl hn hl.1 rfl (lv_room h8) d hf
theorem v_runSN (C : cx p s m args meth c cc nL Ts own D tys z0 A) {host : String} (hM : ct D tys z0 A pic l y ws rm As x Qc) (cw : va_CN R s args own i y host bytes maxL ret ws rm rm.cells rm.slots nA ∧ (Cond.static y).before args s = true ∧ True) (hn : As.length = nA) (d : decode cc pc = .ok (.invokestatic i, 3)) (h8 : (rest.map fun v => v.category).sum ≤ 8) (hst : st = As.reverse ++ rest) (hf : k + rm.cells ≤ R.cells ∧ n + rm.slots ≤ R.slots) :
    vr pic A nL p l e R s m args below meth c x k n pc lv st rest rm.cells rm.slots (Qc As.toArray) := by
  subst hst
  exact fun H locs ls hP hS hl => va_runSN C.1 hM cw ⟨ct_blind, fun U hU hW => ⟨rfl, by rw [hU]; exact hP, C.2.1.step hS hU hW⟩⟩ rfl hn hl.1 rfl (lv_room h8) d hf
theorem v_runIN (C : cx p s m args meth c cc nL Ts own D tys z0 A) {host : String} (hM : ct D tys z0 A pic l y ws rm (.ref b :: As) x Qc) (cw : va_CN R s args own i y host bytes maxL none ws rm rm.cells rm.slots nA ∧ y.name = "<init>" ∧ (Cond.instanceMethod y).before args s = true) (hn : As.length = nA) (d : decode cc pc = .ok (.invokespecial i, 3)) (h8 : (rest.map fun v => v.category).sum ≤ 8) (hst : st = As.reverse ++ .ref b :: rest) (hf : k + rm.cells ≤ R.cells ∧ n + rm.slots ≤ R.slots) :
    vr pic A nL p l e R s m args below meth c x k n pc lv st rest rm.cells rm.slots (Qc (Value.ref b :: As).toArray) := by
  subst hst
  exact fun H locs ls hP hS hl => va_runIN C.1 hM cw ⟨ct_blind, fun U hU hW => ⟨rfl, by rw [hU]; exact hP, C.2.1.step hS hU hW⟩⟩ rfl hn hl.1 rfl (lv_room h8) d hf
theorem v_nest (C : cx p s m args meth c cc nL Ts own D tys z0 A) {w : Cond} (i : Nat) (h : nwl[i]? = some w) : va_Nw w s := C.2.1.2.2.2.2.2.1 w (List.mem_of_getElem? h)
end RUNS
section AFTER
variable {st0 rest : List Value} {mc ms : Nat} {a : Array Value} {px : String → σ → Prop}
theorem v_ci {post : Int32 → σ → Prop} (hr : vr pic A nL p l e R s m args below meth c x k n pc lv st0 rest mc ms (qI pic A post a)) (kk : ∀ r x', post r x' → vv pic A nL p l e R s m args below meth c Q x' (k + mc) (n + ms) (pc + 3) lv (.int r :: rest)) : vv pic A nL p l e R s m args below meth c Q x k n pc lv st0 :=
  fun H locs ls hP hS hl => va_calli (hr H locs ls hP hS hl) hS (fun _ _ h => h) (fun _ h => h) (fun r u _ H1 locs1 ht _ hp hB _ _ hS1 => kk r u hp H1 locs1 ls (by rw [← ht]; exact hB) hS1 hl)
theorem v_cl {post : Int64 → σ → Prop} (hr : vr pic A nL p l e R s m args below meth c x k n pc lv st0 rest mc ms (qL pic A post a)) (kk : ∀ r x', post r x' → vv pic A nL p l e R s m args below meth c Q x' (k + mc) (n + ms) (pc + 3) lv (.long r :: rest)) : vv pic A nL p l e R s m args below meth c Q x k n pc lv st0 :=
  fun H locs ls hP hS hl => va_calll (hr H locs ls hP hS hl) hS (fun _ _ h => h) (fun _ h => h) (fun r u _ H1 locs1 ht _ hp hB _ _ hS1 => kk r u hp H1 locs1 ls (by rw [← ht]; exact hB) hS1 hl)
theorem v_cv {post : σ → Prop} (hr : vr pic A nL p l e R s m args below meth c x k n pc lv st0 rest mc ms (qV pic A post a)) (kk : ∀ x', post x' → vv pic A nL p l e R s m args below meth c Q x' (k + mc) (n + ms) (pc + 3) lv rest) : vv pic A nL p l e R s m args below meth c Q x k n pc lv st0 :=
  fun H locs ls hP hS hl => va_callv (hr H locs ls hP hS hl) hS (fun _ _ h => h) (fun _ h => h) (fun u _ H1 locs1 ht _ hp hB _ _ hS1 => kk u hp H1 locs1 ls (by rw [← ht]; exact hB) hS1 hl)
theorem v_cr {post : Nat → σ → Prop} (hr : vr pic A nL p l e R s m args below meth c x k n pc lv st0 rest mc ms (qR pic A post a)) (kk : ∀ r x', post r x' → vv pic A nL p l e R s m args below meth c Q x' (k + mc) (n + ms) (pc + 3) lv (.ref r :: rest)) : vv pic A nL p l e R s m args below meth c Q x k n pc lv st0 :=
  fun H locs ls hP hS hl => va_callr (hr H locs ls hP hS hl) hS (fun _ _ h => h) (fun _ h => h) (fun u ra _ H1 locs1 ht _ hp hB _ _ hS1 => by
    obtain ⟨h1, h2⟩ := hB
    subst h1
    exact kk u.1 u.2 hp H1 locs1 ls (by rw [← ht]; exact h2) hS1 hl)
theorem x_ci {post : Int32 → σ → Prop} (hr : vrX pic A nL p l e R s m args below meth c x k n pc lv st0 rest mc ms (qI pic A post a) (xX pic A px)) (kx : ∀ E x', px E x' → vt pic A nL p l e R s m args below meth c Q x' (k + mc) (n + ms) pc lv rest E) (kk : ∀ r x', post r x' → vv pic A nL p l e R s m args below meth c Q x' (k + mc) (n + ms) (pc + 3) lv (.int r :: rest)) : vv pic A nL p l e R s m args below meth c Q x k n pc lv st0 :=
  fun H locs ls hP hS hl => vx_calli (hr H locs ls hP hS hl) hS (fun _ _ h => h) (fun _ h => h) (fun _ _ h => h)
    (fun E ce q9 u _ H1 locs1 ht _ _ hB _ _ hS1 hq hv hcl => kx E u hB.1 H1 locs1 ls q9 ce (by rw [← ht]; exact hB.2) hS1 hl hq hv hcl)
    (fun r u _ H1 locs1 ht _ hp hB _ _ hS1 => kk r u hp H1 locs1 ls (by rw [← ht]; exact hB) hS1 hl)
theorem x_cv {post : σ → Prop} (hr : vrX pic A nL p l e R s m args below meth c x k n pc lv st0 rest mc ms (qV pic A post a) (xX pic A px)) (kx : ∀ E x', px E x' → vt pic A nL p l e R s m args below meth c Q x' (k + mc) (n + ms) pc lv rest E) (kk : ∀ x', post x' → vv pic A nL p l e R s m args below meth c Q x' (k + mc) (n + ms) (pc + 3) lv rest) : vv pic A nL p l e R s m args below meth c Q x k n pc lv st0 :=
  fun H locs ls hP hS hl => vx_callv (hr H locs ls hP hS hl) hS (fun _ _ h => h) (fun _ h => h) (fun _ _ h => h)
    (fun E ce q9 u _ H1 locs1 ht _ _ hB _ _ hS1 hq hv hcl => kx E u hB.1 H1 locs1 ls q9 ce (by rw [← ht]; exact hB.2) hS1 hl hq hv hcl)
    (fun u _ H1 locs1 ht _ hp hB _ _ hS1 => kk u hp H1 locs1 ls (by rw [← ht]; exact hB) hS1 hl)
end AFTER
/-! ends -/
theorem v_ireturn (C : cx p s m args meth c cc nL Ts own D tys z0 A) {v : Int32} {post : Int32 → σ → Prop} {mc ms : Nat} {ty : FieldType} (d : decode cc pc = .ok (.ireturn, 1)) (hr : meth.sig.returnType = some ty) (hn : narrow ty (.int v) = .int v) (hk : k ≤ mc) (hm : n ≤ ms) (h : post v x) : vv pic A nL p l e R s m args below meth c (MQ below (qI pic A post) args s mc ms A) x k n pc lv [.int v] :=
  fun H locs ls hP hS hl => W.widen hk hm (W.zret C.1.1 C.1.2.1 hr hn (fun t ht _ => ⟨⟨v, x, rfl, h, by show pic x t.heap; rw [ht]; exact hP⟩, hS.F ht⟩) hS.2.2 d C.2.2)
theorem v_lreturn (C : cx p s m args meth c cc nL Ts own D tys z0 A) {v : Int64} {post : Int64 → σ → Prop} {mc ms : Nat} (d : decode cc pc = .ok (.lreturn, 1)) (hr : meth.sig.returnType = some .long) (hk : k ≤ mc) (hm : n ≤ ms) (h : post v x) : vv pic A nL p l e R s m args below meth c (MQ below (qL pic A post) args s mc ms A) x k n pc lv [.long v] :=
  fun H locs ls hP hS hl => W.widen hk hm (W.lret C.1.1 C.1.2.1 hr (fun t ht _ => ⟨⟨v, x, rfl, h, by show pic x t.heap; rw [ht]; exact hP⟩, hS.F ht⟩) hS.2.2 d C.2.2)
theorem v_return (C : cx p s m args meth c cc nL Ts own D tys z0 A) {post : σ → Prop} {mc ms : Nat} (d : decode cc pc = .ok (.return_, 1)) (hr : meth.sig.returnType = none) (hk : k ≤ mc) (hm : n ≤ ms) (h : post x) : vv pic A nL p l e R s m args below meth c (MQ below (qV pic A post) args s mc ms A) x k n pc lv [] :=
  fun H locs ls hP hS hl => W.widen hk hm (W.vret C.1.1 C.1.2.1 hr (fun t ht _ => ⟨⟨x, rfl, h, by show pic x t.heap; rw [ht]; exact hP⟩, hS.F ht⟩) hS.2.2 d C.2.2)
theorem v_areturn (C : cx p s m args meth c cc nL Ts own D tys z0 A) {v : Nat} {post : Nat → σ → Prop} {mc ms : Nat} {ty : FieldType} (d : decode cc pc = .ok (.areturn, 1)) (hr : meth.sig.returnType = some ty) (hty : (∃ n, ty = .object n) ∨ ∃ t, ty = .array t) (hk : k ≤ mc) (hm : n ≤ ms) (h : post v x) : vv pic A nL p l e R s m args below meth c (MQ below (qR pic A post) args s mc ms A) x k n pc lv [.ref v] :=
  fun H locs ls hP hS hl => W.widen hk hm (W.aret C.1.1 C.1.2.1 hr hty (Or.inr ⟨v, rfl⟩) (fun t ht _ => ⟨⟨(v, x), v, rfl, h, rfl, by rw [ht]; exact hP⟩, hS.F ht⟩) hS.2.2 d C.2.2)
/-- a method that may throw: its plain end -/
theorem v_xret {Qc : Array Value → State → Outcome → State → Prop} {XC : String → State → State → Prop} {mc ms : Nat} {free : Addr → Prop} (kk : vv pic A nL p l e R s m args below meth c (MQ below Qc args s mc ms free) x k n pc lv st) : vv pic A nL p l e R s m args below meth c (vx_MQ below Qc XC args s mc ms free) x k n pc lv st :=
  fun H locs ls hP hS hl => vx_ret (kk H locs ls hP hS hl)
/-- what a callee threw goes on to the caller -/
theorem v_xout (C : cx p s m args meth c cc nL Ts own D tys z0 A) {Qc : Array Value → State → Outcome → State → Prop} {px : String → σ → Prop} {mc ms : Nat} {rest : List Value} {E : String} (hex : ∀ z ∈ c.exceptionTable.toList, False) (hk : k ≤ mc) (hm : n ≤ ms) (h : px E x) : vt pic A nL p l e R s m args below meth c (vx_MQ below Qc (xX pic A px) args s mc ms A) x k n pc lv rest E :=
  fun H locs ls q ce hP hS hl hq hv hcl => vx_out (fun z hz => absurd (hex z hz) (fun h => h)) C.2.2 hq hv hcl (fun t ht _ => ⟨x, trivial, ⟨h, by rw [ht]; exact hP⟩, hS.F ht⟩) hS.2.2 hk hm
/-! Object.<init> -/
theorem v_objInit (C : cx p s m args meth c cc nL Ts own D tys z0 A) {i a : Nat} (d : decode cc pc = .ok (.invokespecial i, 3)) (hlink : Cond.methodLink own i Lib.objectInit ∈ Ts) (hinst : Cond.instanceMethod Lib.objectInit ∈ Ts) (hcode : Cond.code Lib.objectInit ⟨#[0xb1]⟩ 1 none ∈ Ts) (hfr : 1 ≤ R.frames) (hlo : (st.map fun v => v.category).sum + 12 ≤ R.locals) (kk : vv pic A nL p l e R s m args below meth c Q x k n (pc + 3) lv st) : vv pic A nL p l e R s m args below meth c Q x k n pc lv (.ref a :: st) :=
  fun H locs ls hP hS hl => W.objInit C.1.1 C.1.2.1 C.1.2.2.2.1 (C.1.2.2.2.2 _ hlink) (C.1.2.2.2.2 _ hinst) (C.1.2.2.2.2 _ hcode) rfl (hl.1.trans C.1.2.2.1.symm) rfl d hfr (by rw [show (F0 m pc ls (.ref a :: st)).monitorRoom = 0 from rfl]; omega) (kk H locs ls hP hS hl)
theorem v_mmax (C : cx p s m args meth c cc nL Ts own D tys z0 A) {i : Nat} {a b : Int32} (d : decode cc pc = .ok (.invokestatic i, 3)) (hlink : Cond.methodLink own i Lib.Math.max.name ∈ Ts) (hstat : Cond.static Lib.Math.max.name ∈ Ts) (hini : Cond.initialized "java/lang/Math" ∈ Ts) (hcode : Cond.code Lib.Math.max.name Lib.Math.max.code 2 (some .int) ∈ Ts) (hfr : 1 ≤ R.frames) (hlo : (st.map fun v => v.category).sum + 13 ≤ R.locals) (hk : k ≤ R.cells) (hn : n ≤ R.slots) (kk : vv pic A nL p l e R s m args below meth c Q x k n (pc + 3) lv (.int (if a < b then b else a) :: st)) : vv pic A nL p l e R s m args below meth c Q x k n pc lv (.int b :: .int a :: st) :=
  fun H locs ls hP hS hl => va_mmax C.1.1 C.1.2.1 (C.1.2.2.1.trans hl.1.symm) C.1.2.2.2.1 (C.1.2.2.2.2 _ hlink) (C.1.2.2.2.2 _ hstat) (C.1.2.2.2.2 _ hini) (C.1.2.2.2.2 _ hcode) hfr hlo hk hn d (kk H locs ls hP hS hl)
theorem v_mmin (C : cx p s m args meth c cc nL Ts own D tys z0 A) {i : Nat} {a b : Int32} (d : decode cc pc = .ok (.invokestatic i, 3)) (hlink : Cond.methodLink own i Lib.Math.min.name ∈ Ts) (hstat : Cond.static Lib.Math.min.name ∈ Ts) (hini : Cond.initialized "java/lang/Math" ∈ Ts) (hcode : Cond.code Lib.Math.min.name Lib.Math.min.code 2 (some .int) ∈ Ts) (hfr : 1 ≤ R.frames) (hlo : (st.map fun v => v.category).sum + 13 ≤ R.locals) (hk : k ≤ R.cells) (hn : n ≤ R.slots) (kk : vv pic A nL p l e R s m args below meth c Q x k n (pc + 3) lv (.int (if b < a then b else a) :: st)) : vv pic A nL p l e R s m args below meth c Q x k n pc lv (.int b :: .int a :: st) :=
  fun H locs ls hP hS hl => va_mmin C.1.1 C.1.2.1 (C.1.2.2.1.trans hl.1.symm) C.1.2.2.2.1 (C.1.2.2.2.2 _ hlink) (C.1.2.2.2.2 _ hstat) (C.1.2.2.2.2 _ hini) (C.1.2.2.2.2 _ hcode) hfr hlo hk hn d (kk H locs ls hP hS hl)
/-! new cells -/
theorem v_new (C : cx p s m args meth c cc nL Ts own D tys z0 A) {Cn : String} {T : u_T} {N ci i : Nat} {fs : List Value} {x' : Nat → σ} {fr : Nat → Prop} (d : decode cc pc = .ok (.new i, 3)) (hin : ∀ w ∈ u_ws Cn T N, w ∈ Ts) (ty : Nat → FieldType) (hty : ∀ k, k < N → parseFieldDescriptor (T k).2.2.1 = some (ty k)) (hcl : Cond.classLink own i Cn ∈ Ts) (hinst : Cond.instantiable Cn N ∈ Ts) (hini : Cond.initialized Cn ∈ Ts) (hc : vwCl[ci]? = some (Cn, T, N)) (hfs : ∀ j, j < N → defaultValue (ty j) = vp_V fs j) (hcells : k + 1 ≤ R.cells) (hslots : n + N ≤ R.slots)
    (g : nO D pic A x (.inr (ci, fs)) x' fr) (kk : ∀ q, fr q → vv pic A nL p l e R s m args below meth c Q (x' q) (k + 1) (n + N) (pc + 3) lv (.ref q :: st)) : vv pic A nL p l e R s m args below meth c Q x k n pc lv st := by
  intro H locs ls hP hS hl
  have hts := C.1.2.2.2.2
  have hKn := C.2.1.1.1 ci _ hc
  obtain ⟨g1, g2⟩ := g H hP
  refine W.newcK C.1.1 C.1.2.1 C.1.2.2.2.1 (hts _ hcl) (hts _ hinst) (hts _ hini) rfl d hcells hslots hKn.2.1 rfl fun H1 kC hkC e1 z1 o1 => ?_
  exact kk H.size g1 H1 locs ls (g2 (C.2.1.2.1 _ hS.1) H1 ⟨_, hc, (u_born ty hts hin hKn hkC e1 hty).to hfs⟩ z1 o1) ⟨Nat.le_trans hS.1 (by omega), fun q h1 h2 => (o1 q (Nat.lt_of_lt_of_le h1 hS.1)).trans (hS.2.1 q h1 h2), hS.2.2⟩ hl
end VC
