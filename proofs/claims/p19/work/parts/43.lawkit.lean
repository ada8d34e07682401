/-! ===== the law's arrays beside FieldScribe ===== -/
theorem kw.narrow {D : va_G} {tys : List (ClassId × FieldType)} {z0 : Nat} {A A' : Nat → Prop} {U : State} (h : kw D tys z0 A U) (hs : ∀ q, A' q → A q) (hn : ∀ q, U.heap.size ≤ q → A' q) : kw D tys z0 A' U := by
  obtain ⟨h1, h2, h3, h4, h5, h6⟩ := h
  obtain ⟨g1, g2, g3⟩ := h5
  exact ⟨h1, hn, h3.narrow hs, h4.narrow hs, ⟨g1.narrow hs, fun z => g2 (hs _ z), g3⟩, h6⟩
theorem picF_kept {D : va_G} {cC : ClassId} {A : Nat → Prop} {x : fS} {H H1 : Heap} (h : picF D cC A x H) (hq : ∀ q : Nat, q < H.size → A q → H1[q]? = H[q]?) : picF D cC A x H1 := by
  obtain ⟨ar, ln, g, h3, ⟨h4, h5, h6, h7⟩⟩ := h
  exact ⟨ar, ln, g, h3, ⟨fun a e h => ⟨(h4 a e h).1, (h4 a e h).2.kept (hq a (h4 a e h).2.lt (h4 a e h).1)⟩, fun t a h => by
    obtain ⟨b1, b2, b3, b4, b5⟩ := h5 t a h
    exact ⟨b1, b2, b3.kept (hq t b3.lt b1), b4.kept (hq a b4.lt b2), b5⟩, h6, h7⟩⟩
/-- FieldScribe's cells: not the law's arrays -/
def AF (ad al : Nat → Nat) (A : Nat → Prop) (q : Nat) : Prop := A q ∧ (∀ j, j < 7 → q ≠ ad j) ∧ ∀ j, j < 4 → q ≠ al j
abbrev lS : Type := nS fS
abbrev picL (D : va_G) (cC cI cJ : ClassId) (ad al : Nat → Nat) (A : Nat → Prop) : lS → Heap → Prop := picN (picF D cC (AF ad al A)) cI cJ ad al A
theorem N_base {D : va_G} {cC cI cJ : ClassId} {ad al : Nat → Nat} {A : Nat → Prop} {x : fS} {X : Nat → Nat → Int32} {Y : Nat → Nat → Int64} {H : Heap} (h : picL D cC cI cJ ad al A (x, X, Y) H) : picF D cC (AF ad al A) x H := h.1 H rfl (fun _ _ _ => rfl)
theorem N_lt {σ0 : Type} {pic0 : σ0 → Heap → Prop} {cI cJ : ClassId} {ad al : Nat → Nat} {A : Nat → Prop} {x : nS σ0} {H : Heap} (h : picN pic0 cI cJ ad al A x H) : (∀ j, j < 7 → ad j < H.size) ∧ ∀ j, j < 4 → al j < H.size := ⟨fun j hj => (Array.getElem?_eq_some_iff.mp (h.2.1 j hj).2).1, fun j hj => (Array.getElem?_eq_some_iff.mp (h.2.2.1 j hj).2).1⟩
section LK
variable {D : va_G} {cC cI cJ : ClassId} {ad al : Nat → Nat} {A : Nat → Prop} {x : fS} {X : Nat → Nat → Int32} {Y : Nat → Nat → Int64} {H H1 : Heap} {U : State} {tys : List (ClassId × FieldType)} {z0 : Nat}
theorem L_afterF {x' : fS} (h : picL D cC cI cJ ad al A (x, X, Y) H) (h1 : picF D cC (AF ad al A) x' H1) (hk : ∀ q : Nat, q < H.size → ¬ AF ad al A q → H1[q]? = H[q]?) : picL D cC cI cJ ad al A (x', X, Y) H1 := by
  obtain ⟨l1, l2⟩ := N_lt h
  exact ⟨fun H' e1 e2 => picF_kept h1 (fun q hq hA => e2 q hA.2.1 hA.2.2), fun j hj => ⟨(h.2.1 j hj).1, by rw [hk (ad j) (l1 j hj) (fun z => z.2.1 j hj rfl)]; exact (h.2.1 j hj).2⟩, fun j hj => ⟨(h.2.2.1 j hj).1, by rw [hk (al j) (l2 j hj) (fun z => z.2.2 j hj rfl)]; exact (h.2.2.1 j hj).2⟩, h.2.2.2⟩
theorem L_kwF (h : kw D tys z0 A U) (hP : picL D cC cI cJ ad al A (x, X, Y) U.heap) : kw D tys z0 (AF ad al A) U := by
  obtain ⟨l1, l2⟩ := N_lt hP
  exact h.narrow (fun q z => z.1) (fun q hq => ⟨h.2.1 q hq, fun j hj z => absurd (l1 j hj) (by rw [← z]; exact Nat.not_lt.mpr hq), fun j hj z => absurd (l2 j hj) (by rw [← z]; exact Nat.not_lt.mpr hq)⟩)
theorem L_gC {ci b : Nat} (h : gC D (picF D cC (AF ad al A)) x ci b) : gC D (picL D cC cI cJ ad al A) (x, X, Y) ci b := fun H hP => h H (N_base hP)
end LK
section LR
variable {p : Program} {l : Launch} {e : Env} {R : Room} {s : State} {m : MethodId} {args : Array Value} {below : List Frame} {meth : Method} {c : Code} {Q : State → Prop}
variable {A : Nat → Prop} {D : va_G} {tys : List (ClassId × FieldType)} {z0 : Nat} {cc : ByteArray} {nL : Nat} {Ts : List Cond} {own : String}
variable {k n pc : Nat} {lv : List (Nat × Value)} {st rest : List Value}
variable {cC cI cJ : ClassId} {ad al : Nat → Nat} {x : fS} {X : Nat → Nat → Int32} {Y : Nat → Nat → Int64}
variable {y9 : MethodName} {bytes : ByteArray} {maxL i nA : Nat} {ret : Option FieldType} {ws : List Cond} {rm : Room} {Cn : String} {As : List Value} {b : Nat} {px : String → fS → Prop}
/-- calls of FieldScribe's methods -/
theorem l_iF (C : cx p s m args meth c cc nL Ts own D tys z0 A) {post : Int32 → fS → Prop} {T : u_T} {N ci : Nat} (hM : ct D tys z0 (AF ad al A) (picF D cC (AF ad al A)) l y9 ws rm (.ref b :: As) x (qI (picF D cC (AF ad al A)) (AF ad al A) post)) (cw : CallW R s args own Cn i y9 bytes maxL ret ws rm rm.cells rm.slots nA) (hn : As.length = nA) (hc : vwCl[ci]? = some (Cn, T, N)) (hr : gC D (picF D cC (AF ad al A)) x ci b) (d : decode cc pc = .ok (.invokevirtual i, 3)) (h8 : (rest.map fun v => v.category).sum ≤ 8) (hst : st = As.reverse ++ .ref b :: rest) (hf : k + rm.cells ≤ R.cells ∧ n + rm.slots ≤ R.slots)
    (kk : ∀ r x', post r x' → vv (picL D cC cI cJ ad al A) A nL p l e R s m args below meth c Q (x', X, Y) (k + rm.cells) (n + rm.slots) (pc + 3) lv (.int r :: rest)) : vv (picL D cC cI cJ ad al A) A nL p l e R s m args below meth c Q (x, X, Y) k n pc lv st := by
  subst hst
  exact fun H locs ls hP hS hl => va_calli (va_runV C.1 hM cw ⟨ct_blind, v_recv C hc hr (N_base hP), fun U hU hW => ⟨rfl, by rw [hU]; exact (N_base hP), L_kwF (C.2.1.step hS hU hW) (by rw [hU]; exact hP)⟩⟩ rfl hn hl.1 rfl (lv_room h8) d hf) hS (fun _ _ h => h.1) (fun _ h => h.1)
    (fun r u _ H1 locs1 ht _ hp hB _ hk hS1 => kk r u hp H1 locs1 ls (L_afterF hP (by rw [← ht]; exact hB) hk) hS1 hl)
theorem l_vF (C : cx p s m args meth c cc nL Ts own D tys z0 A) {post : fS → Prop} {T : u_T} {N ci : Nat} (hM : ct D tys z0 (AF ad al A) (picF D cC (AF ad al A)) l y9 ws rm (.ref b :: As) x (qV (picF D cC (AF ad al A)) (AF ad al A) post)) (cw : CallW R s args own Cn i y9 bytes maxL ret ws rm rm.cells rm.slots nA) (hn : As.length = nA) (hc : vwCl[ci]? = some (Cn, T, N)) (hr : gC D (picF D cC (AF ad al A)) x ci b) (d : decode cc pc = .ok (.invokevirtual i, 3)) (h8 : (rest.map fun v => v.category).sum ≤ 8) (hst : st = As.reverse ++ .ref b :: rest) (hf : k + rm.cells ≤ R.cells ∧ n + rm.slots ≤ R.slots)
    (kk : ∀ x', post x' → vv (picL D cC cI cJ ad al A) A nL p l e R s m args below meth c Q (x', X, Y) (k + rm.cells) (n + rm.slots) (pc + 3) lv rest) : vv (picL D cC cI cJ ad al A) A nL p l e R s m args below meth c Q (x, X, Y) k n pc lv st := by
  subst hst
  exact fun H locs ls hP hS hl => va_callv (va_runV C.1 hM cw ⟨ct_blind, v_recv C hc hr (N_base hP), fun U hU hW => ⟨rfl, by rw [hU]; exact (N_base hP), L_kwF (C.2.1.step hS hU hW) (by rw [hU]; exact hP)⟩⟩ rfl hn hl.1 rfl (lv_room h8) d hf) hS (fun _ _ h => h.1) (fun _ h => h.1)
    (fun u _ H1 locs1 ht _ hp hB _ hk hS1 => kk u hp H1 locs1 ls (L_afterF hP (by rw [← ht]; exact hB) hk) hS1 hl)
theorem l_xF (C : cx p s m args meth c cc nL Ts own D tys z0 A) {post : Int32 → fS → Prop} {T : u_T} {N ci : Nat} (hM : cX D tys z0 (AF ad al A) (picF D cC (AF ad al A)) l y9 ws rm (.ref b :: As) x (qI (picF D cC (AF ad al A)) (AF ad al A) post) px) (cw : CallW R s args own Cn i y9 bytes maxL ret ws rm rm.cells rm.slots nA) (hn : As.length = nA) (hc : vwCl[ci]? = some (Cn, T, N)) (hr : gC D (picF D cC (AF ad al A)) x ci b) (d : decode cc pc = .ok (.invokevirtual i, 3)) (h8 : (rest.map fun v => v.category).sum ≤ 8) (hst : st = As.reverse ++ .ref b :: rest) (hf : k + rm.cells ≤ R.cells ∧ n + rm.slots ≤ R.slots)
    (kx : ∀ E x', px E x' → vt (picL D cC cI cJ ad al A) A nL p l e R s m args below meth c Q (x', X, Y) (k + rm.cells) (n + rm.slots) pc lv rest E)
    (kk : ∀ r x', post r x' → vv (picL D cC cI cJ ad al A) A nL p l e R s m args below meth c Q (x', X, Y) (k + rm.cells) (n + rm.slots) (pc + 3) lv (.int r :: rest)) : vv (picL D cC cI cJ ad al A) A nL p l e R s m args below meth c Q (x, X, Y) k n pc lv st := by
  subst hst
  exact fun H locs ls hP hS hl => vx_calli (vx_runV C.1 hM cw ⟨ct_blind, v_recv C hc hr (N_base hP), fun U hU hW => ⟨rfl, by rw [hU]; exact (N_base hP), L_kwF (C.2.1.step hS hU hW) (by rw [hU]; exact hP)⟩⟩ rfl hn hl.1 rfl (lv_room h8) d hf) hS (fun _ _ h => h.1) (fun _ h => h.1) (fun _ _ h => h.1)
    (fun E ce q9 u _ H1 locs1 ht _ _ hB _ hk hS1 hq hv hcl => kx E u hB.1 H1 locs1 ls q9 ce (L_afterF hP (by rw [← ht]; exact hB.2) hk) hS1 hl hq hv hcl)
    (fun r u _ H1 locs1 ht _ hp hB _ hk hS1 => kk r u hp H1 locs1 ls (L_afterF hP (by rw [← ht]; exact hB) hk) hS1 hl)
/-- a static call of a method with a table -/
theorem l_cS {σ : Type} {pic : σ → Heap → Prop} {x : σ} (C : cx p s m args meth c cc nL Ts own D tys z0 A) {post : Int32 → σ → Prop} {hh : List (Nat × Nat × Nat × Nat)} (hM : ct D tys z0 A pic l y9 ws rm As x (qI pic A post)) (cw : vx_CSW R s args own i y9 bytes maxL ret hh ws rm rm.cells rm.slots nA) (hn : As.length = nA) (d : decode cc pc = .ok (.invokestatic i, 3)) (h8 : (rest.map fun v => v.category).sum ≤ 8) (hst : st = As.reverse ++ rest) (hf : k + rm.cells ≤ R.cells ∧ n + rm.slots ≤ R.slots)
    (kk : ∀ r x', post r x' → vv pic A nL p l e R s m args below meth c Q x' (k + rm.cells) (n + rm.slots) (pc + 3) lv (.int r :: rest)) : vv pic A nL p l e R s m args below meth c Q x k n pc lv st := by
  subst hst
  exact fun H locs ls hP hS hl => va_calli (vx_runSW C.1 hM cw ⟨ct_blind, fun U hU hW => ⟨rfl, by rw [hU]; exact hP, C.2.1.step hS hU hW⟩⟩ rfl hn hl.1 rfl (lv_room h8) d hf) hS (fun _ _ h => h) (fun _ h => h)
    (fun r u _ H1 locs1 ht _ hp hB _ _ hS1 => kk r u hp H1 locs1 ls (by rw [← ht]; exact hB) hS1 hl)
/-- a method with a table: from its body to its contract -/
theorem ct_ofH {σ : Type} {pic : σ → Heap → Prop} {x : σ} {y : MethodName} {ws ws' : List Cond} {rm : Room} {maxL : Nat} {ret : Option FieldType} {hh : List (Nat × Nat × Nat × Nat)} {av : List Value} {Qc : Array Value → State → Outcome → State → Prop} (own : String) (hy : plainName y.cls = true) (hcl : y.cls = own) (hw : ws = Cond.codeWith y cc maxL ret hh :: ws') (hn : (lg_sl av).length ≤ maxL)
    (body : ∀ p e s m below meth c, cx p s m av.toArray meth c cc maxL ws own D tys z0 A → meth.sig.returnType = ret → c.exceptionTable.toList = tableOf hh → vv pic A maxL p l e rm s m av.toArray below meth c (MQ below Qc av.toArray s rm.cells rm.slots A) x 0 0 0 (lv_args 0 av) []) : ct D tys z0 A pic l y ws rm av x Qc := by
  show MetFree l y (headSpec ws rm) (va_Pc av (fun U => pic x U.heap ∧ kw D tys z0 A U)) (fun _ _ _ _ _ => True) (fun a st o t => Qc a st o t ∧ ∃ L, FrameEnd st o t L rm.cells rm.slots ∧ ∀ q ∈ L, A q.base)
  refine MetFree.of_bodyS (code := cc) (maxLocals := maxL) (ret := ret) hy ?_ ?_
  · intro args s m h hn
    obtain ⟨m9, meth, c, hn9, h1, h2, h3, h4, -, h5, h6, -⟩ := Cond.codeWith_spec (atoms_spec (ws := ws) h _ (by rw [hw]; exact List.mem_cons_self))
    cases hn.symm.trans hn9
    exact ⟨meth, c, h1, h2, h3, h4, h5, h6⟩
  · intro p e s m args below meth c s₁ B hml hv _
    obtain ⟨rfl, hP, hK⟩ := hv
    have hh0 : s₁.heap = s.heap := by rw [B.state]; rfl
    have hts := atoms_spec (ws := ws) B.pre
    have hown : s.vm.findClass own = some m.cls := by rw [← hcl]; exact findClass_of_methodNamed B.named
    have hT : c.exceptionTable.toList = tableOf hh := vx_table (x := y) B (hts _ (by rw [hw]; exact List.mem_cons_self))
    have K := body p e s m below meth c ⟨⟨B.exec, B.bytes, hml, hown, hts⟩, hK, B.notSynchronized⟩ B.returns hT s.heap [] _ hP va_S.rf (lv_entry av hn)
    rw [← lg_entry_eq] at K
    obtain ⟨t, a1, o, b1, b2, b3⟩ := K s₁ hh0 (Stand.of_body B)
    exact ⟨t, o, a1, b1, b2, ⟨b3.1, b3.2⟩⟩
/-- caught here -/
theorem v_catch {σ : Type} {pic : σ → Heap → Prop} {x : σ} (C : cx p s m args meth c cc nL Ts own D tys z0 A) {E : String} (pre : List ExceptionTableEntry) (xh : ExceptionTableEntry) (suf : List ExceptionTableEntry) (hsplit : c.exceptionTable.toList = pre ++ xh :: suf) (hpass : ∀ z ∈ pre, z.catchType ≠ 0 ∧ ∃ nm : String, Cond.classLink own z.catchType nm ∈ Ts ∧ va_Nc E nm s) (hx : covers xh pc = true) (h0 : xh.catchType ≠ 0) (hlink : Cond.classLink own xh.catchType E ∈ Ts) (hcast : va_Nw (.castable E E) s)
    (kk : ∀ q, vv pic A nL p l e R s m args below meth c Q x k n xh.handlerPc lv [.ref q]) : vt pic A nL p l e R s m args below meth c Q x k n pc lv rest E :=
  fun H locs ls q ce hP hS hl hq hv hcl => vx_catch C.1.2.2.2.1 pre xh suf hsplit (fun z hz => by
    obtain ⟨h1, nm, h2, h3⟩ := hpass z hz
    exact Or.inr ⟨h1, nm, C.1.2.2.2.2 _ h2, h3⟩) hx h0 (C.1.2.2.2.2 _ hlink) (va_Nw.use rfl hcast) hq hv hcl (kk q H locs ls hP hS hl)
theorem v_ncl (C : cx p s m args meth c cc nL Ts own D tys z0 A) {a b : String} (i : Nat) (h : ncl[i]? = some (a, b)) : va_Nc a b s := C.2.1.2.2.2.2.2.2.1 _ (List.mem_of_getElem? h)
end LR
theorem ct_mono {σ : Type} {D : va_G} {tys : List (ClassId × FieldType)} {z0 : Nat} {A : Nat → Prop} {pic : σ → Heap → Prop} {l : Launch} {y : MethodName} {ws : List Cond} {rm : Room} {av : List Value} {x : σ} {post post' : Int32 → σ → Prop} (h : ct D tys z0 A pic l y ws rm av x (qI pic A post)) (hp : ∀ r x', post r x' → post' r x') : ct D tys z0 A pic l y ws rm av x (qI pic A post') := by
  have h2 : MetFree l y (headSpec ws rm) (va_Pc av (fun U => pic x U.heap ∧ kw D tys z0 A U)) (fun _ _ _ _ _ => True) (fun a st o t => qI pic A post a st o t ∧ ∃ L, FrameEnd st o t L rm.cells rm.slots ∧ ∀ q ∈ L, A q.base) := h
  show MetFree l y (headSpec ws rm) (va_Pc av (fun U => pic x U.heap ∧ kw D tys z0 A U)) (fun _ _ _ _ _ => True) (fun a st o t => qI pic A post' a st o t ∧ ∃ L, FrameEnd st o t L rm.cells rm.slots ∧ ∀ q ∈ L, A q.base)
  refine MetFree.mono h2 (fun a s hP => hP) (fun _ _ _ _ _ _ => trivial) (fun a s o t _ hQ => ?_)
  obtain ⟨⟨⟨r, u, h1, h2, h3⟩, h4⟩, h5⟩ := hQ
  exact ⟨⟨⟨r, u, h1, hp r u h2, h3⟩, h4⟩, h5⟩
theorem ct_monoV {σ : Type} {D : va_G} {tys : List (ClassId × FieldType)} {z0 : Nat} {A : Nat → Prop} {pic : σ → Heap → Prop} {l : Launch} {y : MethodName} {ws : List Cond} {rm : Room} {av : List Value} {x : σ} {post post' : σ → Prop} (h : ct D tys z0 A pic l y ws rm av x (qV pic A post)) (hp : ∀ x', post x' → post' x') : ct D tys z0 A pic l y ws rm av x (qV pic A post') := by
  have h2 : MetFree l y (headSpec ws rm) (va_Pc av (fun U => pic x U.heap ∧ kw D tys z0 A U)) (fun _ _ _ _ _ => True) (fun a st o t => qV pic A post a st o t ∧ ∃ L, FrameEnd st o t L rm.cells rm.slots ∧ ∀ q ∈ L, A q.base) := h
  show MetFree l y (headSpec ws rm) (va_Pc av (fun U => pic x U.heap ∧ kw D tys z0 A U)) (fun _ _ _ _ _ => True) (fun a st o t => qV pic A post' a st o t ∧ ∃ L, FrameEnd st o t L rm.cells rm.slots ∧ ∀ q ∈ L, A q.base)
  refine MetFree.mono h2 (fun a s hP => hP) (fun _ _ _ _ _ _ => trivial) (fun a s o t _ hQ => ?_)
  obtain ⟨⟨⟨u, h1, h2, h3⟩, h4⟩, h5⟩ := hQ
  exact ⟨⟨⟨u, h1, hp u h2, h3⟩, h4⟩, h5⟩
section SF
variable {l : Launch} {D : va_G} {tys : List (ClassId × FieldType)} {z0 : Nat} {A : Nat → Prop} {cC cI cZ cJ cO cT cR : ClassId} {ad al a na : Nat → Nat} {xf : fS} {S : aS}
theorem fI.gC {D : va_G} {B : Nat → Prop} (h : fI z0 cI cO cT cR a na xf S) : gC D (picF D cC B) xf 11 (a 0) := by
  obtain ⟨f, T⟩ := xf
  obtain ⟨stk, lab, lf, hW, -, -⟩ := h
  exact (FF_get hW.1 (k := 0) rfl).gC
/-- FieldScribe's answer -/
def fR (z0 : Nat) (cI cO cT cR : ClassId) (a na : Nat → Nat) (op : oR) (q : Int32) (x : fS) : Prop := q = op.2.1 ∧ fI z0 cI cO cT cR a na x op.2.2
theorem F_end (ht : tys[0]? = some (cC, .char)) (ht1 : tys[1]? = some (cI, .int)) (ht3 : tys[3]? = some (cR, .object RX6)) (ht4 : tys[4]? = some (cT, .object RX10)) (ht5 : tys[5]? = some (cO, .object "java/lang/Object")) (hsep : ch S.1) (hF : fI z0 cI cO cT cR a na xf S) : ct D tys z0 A (picF D cC A) l yX11_end wsX11_end (rmL 10 178) [.ref (a 0)] xf (qI (picF D cC A) A (fR z0 cI cO cT cR a na (opEnd S))) := by
  obtain ⟨f, T⟩ := xf
  obtain ⟨stk, lab, lf, hW, hL, hR⟩ := hF
  refine ct_mono (k_end ht ht1 ht3 ht4 ht5 hW hL hsep hR) (fun q x hp => ?_)
  obtain ⟨f', T', rfl, rfl, w1, r1⟩ := hp
  exact ⟨rfl, stk, lab, lf, w1, hL, r1⟩
theorem F_fields (hF : fI z0 cI cO cT cR a na xf S) : ct D tys z0 A (picF D cC A) l yX11_fields wsX11_fields rm0 [.ref (a 0)] xf (qI (picF D cC A) A (fR z0 cI cO cT cR a na (opVal S (nI (nfd S.1 S.2.2.2.1.1))))) := by
  obtain ⟨f, T⟩ := xf
  have hF0 := hF
  obtain ⟨stk, lab, lf, hW, hL, hR⟩ := hF
  refine ct_mono (k_fields hW) (fun q x hp => ?_)
  obtain ⟨rfl, rfl⟩ := hp
  exact ⟨rfl, hF0⟩
theorem F_rows (hF : fI z0 cI cO cT cR a na xf S) : ct D tys z0 A (picF D cC A) l yX11_rows wsX11_rows rm0 [.ref (a 0)] xf (qI (picF D cC A) A (fR z0 cI cO cT cR a na (opVal S (nI S.2.2.2.1.2.1.length)))) := by
  obtain ⟨f, T⟩ := xf
  have hF0 := hF
  obtain ⟨stk, lab, lf, hW, hL, hR⟩ := hF
  refine ct_mono (k_rows hW) (fun q x hp => ?_)
  obtain ⟨rfl, rfl⟩ := hp
  exact ⟨rfl, hF0⟩
theorem F_lines (hF : fI z0 cI cO cT cR a na xf S) : ct D tys z0 A (picF D cC A) l yX11_lines wsX11_lines rm0 [.ref (a 0)] xf (qI (picF D cC A) A (fR z0 cI cO cT cR a na (opVal S (nI S.2.2.2.1.2.2.1.length)))) := by
  obtain ⟨f, T⟩ := xf
  have hF0 := hF
  obtain ⟨stk, lab, lf, hW, hL, hR⟩ := hF
  refine ct_mono (k_lines hW) (fun q x hp => ?_)
  obtain ⟨rfl, rfl⟩ := hp
  exact ⟨rfl, hF0⟩
theorem F_faults (hF : fI z0 cI cO cT cR a na xf S) : ct D tys z0 A (picF D cC A) l yX11_faults wsX11_faults rm0 [.ref (a 0)] xf (qI (picF D cC A) A (fR z0 cI cO cT cR a na (opVal S S.2.2.2.1.2.2.2))) := by
  obtain ⟨f, T⟩ := xf
  have hF0 := hF
  obtain ⟨stk, lab, lf, hW, hL, hR⟩ := hF
  refine ct_mono (k_faults hW) (fun q x hp => ?_)
  obtain ⟨rfl, rfl⟩ := hp
  exact ⟨rfl, hF0⟩
theorem F_useStack (hF : fI z0 cI cO cT cR a na xf S) (b : Bool) : ct D tys z0 A (picF D cC A) l yX11_useStack wsX11_useStack rm0 [.ref (a 0), .int (bI b)] xf (qV (picF D cC A) A (fun x => fI z0 cI cO cT cR a na x S)) := by
  obtain ⟨f, T⟩ := xf
  obtain ⟨stk, lab, lf, hW, hL, hR⟩ := hF
  refine ct_monoV (k_useStack hW hL b) (fun x hp => ?_)
  obtain ⟨f', rfl, k1, w1⟩ := hp
  exact ⟨b, lab, lf, w1, hL, hR.kp k1 (lpT.rf (ls := [])) (by decide) (by decide) (by decide) (by decide) (by decide) (by decide) (by decide) (by decide)⟩
end SF
