/-! ===== the walk's own judgement: the heap is seen through a picture 'pic x H' of one's own; locals are a list ===== -/
/-- ArrayList's shared empty array, at z0 -/
def kz (z0 : Nat) (A : Nat → Prop) (U : State) (H : Heap) : Prop :=
  va_Z "java/util/ArrayList" "DEFAULTCAPACITY_EMPTY_ELEMENTDATA" "[Ljava/lang/Object;" (.ref z0) A U H ∧ ¬ A z0 ∧ ∃ cell : Cell, H[z0]? = some cell ∧ U.isArrayOf cell (.object "java/lang/Object") ∧ cell.slots.size.toInt32 = 0
theorem kz.moved {z0 : Nat} {A : Nat → Prop} {u U : State} {H : Heap} (hvm : u.vm.Alike U.vm) (h : kz z0 A u H) : kz z0 A U H := by
  obtain ⟨h1, h2, cell, h3, h4, h5⟩ := h
  exact ⟨h1.moved hvm, h2, cell, h3, State.isArrayOf_alike hvm h4, h5⟩
theorem kz.kept {z0 : Nat} {A : Nat → Prop} {U : State} {H H1 : Heap} (h : kz z0 A U H) (hq : ∀ a : Nat, a < H.size → ¬ A a → H1[a]? = H[a]?) : kz z0 A U H1 := by
  obtain ⟨h1, h2, cell, h3, h4, h5⟩ := h
  exact ⟨h1.kept hq, h2, cell, by rw [hq z0 (Array.getElem?_eq_some_iff.mp h3).1 h2]; exact h3, h4, h5⟩
/-- the words that aren't 'good' ones: they are carried along -/
def nwl : List Cond := [.methodLinkNest RX11 46 yX10_init RX11, .methodLinkNest RX1 1 yX3_init RX11, .methodLinkNest RX1 33 yX11_combine RX11, .methodLinkNest RX1 9 yX10_init RX11, .methodLinkNest RX2 1 yX3_init RX11, .methodLinkNest RX4 11 yX10_init RX11, .methodLinkNest RX5 17 yX10_init RX11, .methodLinkNest RX6 9 yX10_init RX11, .methodLinkNest RX8 17 yX10_init RX11, .methodLinkNest RX8 24 yX11_combine RX11, .methodLinkNest RX9 17 yX6_init RX11, .methodLinkNest RX9 47 yX11_isInt RX11, .methodLinkNest RX10 48 yX11_rankOf RX11,
  .declares ⟨"FieldScribe$Node", "find", "(LFieldScribe$Page;LFieldScribe$Text;)I"⟩, .declares ⟨"java/lang/Object", "getClass", "()Ljava/lang/Class;"⟩, .castable RX7 "java/lang/Object", .castable RX0 "java/lang/Object", .castable "java/lang/IllegalArgumentException" "java/lang/IllegalArgumentException", .castable "java/lang/IllegalStateException" "java/lang/IllegalStateException", .castable "java/lang/IndexOutOfBoundsException" "java/lang/IndexOutOfBoundsException", .castable "[Ljava/lang/Object;" "java/lang/Object", .arrayOver (.object "java/lang/Object"), .arrayOver (.object "FieldScribe$Text"), .arrayOver (.object "FieldScribe$Row"),
  .fieldLinkNest RX11 103 "FieldScribe$Rule" "actions" "Ljava/util/ArrayList;" RX11, .fieldLinkNest RX11 133 "FieldScribe$Page" "separator" "C" RX11, .fieldLinkNest RX11 140 "FieldScribe$Page" "count" "I" RX11, .fieldLinkNest RX11 144 "FieldScribe$Text" "length" "I" RX11, .fieldLinkNest RX11 153 "FieldScribe$Page" "number" "I" RX11, .fieldLinkNest RX11 187 "FieldScribe$Table" "count" "I" RX11, .fieldLinkNest RX11 195 "FieldScribe$Row" "sum" "I" RX11, .fieldLinkNest RX11 200 "FieldScribe$Row" "name" "LFieldScribe$Text;" RX11, .fieldLinkNest RX11 203 "FieldScribe$Printout" "count" "I" RX11, .fieldLinkNest RX11 224 "FieldScribe$Action" "kind" "I" RX11, .fieldLinkNest RX11 227 "FieldScribe$Action" "field" "I" RX11, .fieldLinkNest RX11 234 "FieldScribe$Action" "code" "[I" RX11, .fieldLinkNest RX11 242 "FieldScribe$Action" "tree" "LFieldScribe$Node;" RX11, .fieldLinkNest RX4 61 "FieldScribe$Text" "length" "I" RX11, .fieldLinkNest RX9 26 "FieldScribe$Row" "name" "LFieldScribe$Text;" RX11, .fieldLinkNest RX9 44 "FieldScribe$Row" "sum" "I" RX11, .declares (Bundle.initS "java/lang/RuntimeException"), .declares (Bundle.initS "java/lang/Exception"), .declares (Bundle.initS Bundle.tN)]
def ncl : List (String × String) := [("java/lang/IllegalStateException", "java/lang/IllegalArgumentException"), ("java/lang/IllegalStateException", "java/lang/IndexOutOfBoundsException"), ("java/lang/IllegalArgumentException", "java/lang/IndexOutOfBoundsException")]
/-- the exceptions' texts -/
def stl : List (Nat × String) := [(60, "no such pattern"), (71, "there are 8 rules"), (85, "no such rule"), (92, "no such action"), (97, "no such expression"), (106, "the rule has 6 actions"), (213, "no such character code"), (147, "60 characters are typed"), (211, "no such field"), (215, "no such place")]
def nw_kind : Cond → Bool
  | .methodLinkNest _ _ _ _ => true
  | .fieldLinkNest _ _ _ _ _ _ => true
  | .castable _ _ => true
  | .declares _ => true
  | .arrayOver (.object _) => true
  | _ => false
theorem nw_warm {w : Cond} (h : nw_kind w = true) {s U : State} (hW : s.WarmedH U.vm) (hZ : va_Nw w s) : va_Nw w U := by
  unfold nw_kind at h
  split at h
  · exact hZ.warmM hW
  · exact hZ.warmF hW
  · exact hZ.warmC hW
  · exact hZ.warmD hW
  · exact va_AO.moved hW.alike hZ
  · cases h
def kn (U : State) : Prop := (∀ w ∈ nwl, va_Nw w U) ∧ (∀ q ∈ ncl, va_Nc q.1 q.2 U) ∧ (∀ q ∈ stl, ∃ a : Nat, vk_R RX11 q.1 q.2 a U) ∧ ∃ mi : Nat, va_Mi "[Ljava/lang/Object;" mi U
theorem nwl_ok : ∀ w ∈ nwl, nw_kind w = true := by
  unfold nwl
  simp [nw_kind]
theorem kn.step {s U : State} (h : kn s) (hW : s.WarmedH U.vm) : kn U := by
  obtain ⟨h1, h2, h4, mi, h3⟩ := h
  exact ⟨fun w hw => nw_warm (nwl_ok w hw) hW (h1 w hw), fun q hq => (h2 q hq).moved hW.alike, fun q hq => by obtain ⟨a, ha⟩ := h4 q hq; exact ⟨a, ha.warm hW⟩, mi, h3.moved hW.alike⟩
/-- the tables, where new cells may come, and the statics, as a state has them -/
def kw (D : va_G) (tys : List (ClassId × FieldType)) (z0 : Nat) (A : Nat → Prop) (U : State) : Prop :=
  va_K D vwCl tys U ∧ (∀ q, U.heap.size ≤ q → A q) ∧ vx_Zq Bundle.tN "UNASSIGNED_STACK" Bundle.steD A U U.heap ∧ vx_Zq Bundle.tN "SUPPRESSED_SENTINEL" Bundle.listD A U U.heap ∧ kz z0 A U U.heap ∧ kn U
theorem kw.step {D : va_G} {tys : List (ClassId × FieldType)} {z0 : Nat} {A : Nat → Prop} {s U : State} {H : Heap} {locs : List Loc} (h : kw D tys z0 A s) (hS : va_S A s.heap H locs) (hU : U.heap = H) (hW : s.WarmedH U.vm) : kw D tys z0 A U := by
  obtain ⟨h1, h2, h3, h4, h5, h6⟩ := h
  have hq : ∀ a : Nat, a < s.heap.size → ¬ A a → H[a]? = s.heap[a]? := hS.2.1
  refine ⟨h1.moved hW.alike, fun q hz => h2 q (Nat.le_trans hS.1 (by rw [← hU]; exact hz)), ?_, ?_, ?_, h6.step hW⟩
  · rw [hU]; exact (h3.moved hW.alike).kept hq
  · rw [hU]; exact (h4.moved hW.alike).kept hq
  · rw [hU]; exact (h5.moved hW.alike).kept hq
def cx (p : Program) (s : State) (m : MethodId) (args : Array Value) (meth : Method) (c : Code) (cc : ByteArray) (nL : Nat) (Ts : List Cond) (own : String) (D : va_G) (tys : List (ClassId × FieldType)) (z0 : Nat) (A : Nat → Prop) : Prop :=
  CallFix p m c cc nL s args Ts own ∧ kw D tys z0 A s ∧ meth.locks = false
def vv {σ : Type} (pic : σ → Heap → Prop) (A : Nat → Prop) (nL : Nat) (p : Program) (l : Launch) (e : Env) (R : Room) (s : State) (m : MethodId) (args : Array Value) (below : List Frame) (meth : Method) (c : Code) (Q : State → Prop) (x : σ) (k n pc : Nat) (lv : List (Nat × Value)) (st : List Value) : Prop :=
  ∀ (H : Heap) (locs : List Loc) (ls : Array Slot), pic x H → va_S A s.heap H locs → lv_has ls nL lv → W p l e R s m args below meth c H locs k n Q (F0 m pc ls st)
/-- what a picture says of field k of the object a, of kind ci -/
def gO {σ : Type} (D : va_G) (pic : σ → Heap → Prop) (x : σ) (ci a k : Nat) (v : Value) : Prop := ∀ H, pic x H → ∃ fs, va_at D vwCl (a, .inr (ci, fs)) H ∧ fs[k]? = some v
/-- the same field written: the picture that comes of it -/
def pO {σ : Type} (D : va_G) (pic : σ → Heap → Prop) (A : Nat → Prop) (x : σ) (ci a k : Nat) (v : Value) (x' : σ) : Prop := ∀ H, pic x H → A a ∧ ∃ fs, va_at D vwCl (a, .inr (ci, fs)) H ∧ k < fs.length ∧ ∀ H', va_at D vwCl (a, .inr (ci, fs.set k v)) H' → H'.size = H.size → (∀ q, q ≠ a → H'[q]? = H[q]?) → pic x' H'
/-- an array a -/
def gA {σ : Type} (pic : σ → Heap → Prop) (x : σ) (cA : ClassId) (a : Nat) (y : vp_A) : Prop := ∀ H, pic x H → H[a]? = some (vp_cell cA y)
def pA {σ : Type} (pic : σ → Heap → Prop) (A : Nat → Prop) (x : σ) (cA : ClassId) (a : Nat) (y y' : vp_A) (x' : σ) : Prop := ∀ H, pic x H → A a ∧ H[a]? = some (vp_cell cA y) ∧ ∀ H', H'[a]? = some (vp_cell cA y') → H'.size = H.size → (∀ q, q ≠ a → H'[q]? = H[q]?) → pic x' H'
/-- a new cell: the picture that comes of it, what is known of its address -/
def nO {σ : Type} (D : va_G) (pic : σ → Heap → Prop) (A : Nat → Prop) (x : σ) (ce : va_E) (x' : Nat → σ) (fr : Nat → Prop) : Prop := ∀ H, pic x H → fr H.size ∧ (A H.size → ∀ H', va_at D vwCl (H.size, ce) H' → H'.size = H.size + 1 → (∀ q, q < H.size → H'[q]? = H[q]?) → pic (x' H.size) H')
section VV
variable {p : Program} {l : Launch} {e : Env} {R : Room} {s : State} {m : MethodId} {args : Array Value} {below : List Frame} {meth : Method} {c : Code} {Q : State → Prop}
variable {σ : Type} {pic : σ → Heap → Prop} {A : Nat → Prop} {D : va_G} {tys : List (ClassId × FieldType)} {z0 : Nat} {cc : ByteArray} {nL : Nat} {Ts : List Cond} {own : String}
variable {x : σ} {k n pc : Nat} {lv : List (Nat × Value)} {st : List Value}
theorem v_nw (C : cx p s m args meth c cc nL Ts own D tys z0 A) {w : Cond} (i : Nat) (h : nwl[i]? = some w) : va_Nw w s := C.2.1.2.2.2.2.2.1 w (List.mem_of_getElem? h)
theorem v_sub {lv' : List (Nat × Value)} (ks : List Nat) (hl : lv_pick lv ks = lv') (kk : vv pic A nL p l e R s m args below meth c Q x k n pc lv' st) : vv pic A nL p l e R s m args below meth c Q x k n pc lv st := fun H locs ls hP hS h => kk H locs ls hP hS (lv_sub h ks hl)
theorem v_eq {v w : Value} (h : v = w) (kk : vv pic A nL p l e R s m args below meth c Q x k n pc lv (w :: st)) : vv pic A nL p l e R s m args below meth c Q x k n pc lv (v :: st) := by rw [h]; exact kk
theorem v_int {a b : Int32} (h : a = b) (kk : vv pic A nL p l e R s m args below meth c Q x k n pc lv (.int b :: st)) : vv pic A nL p l e R s m args below meth c Q x k n pc lv (.int a :: st) := by rw [h]; exact kk
theorem v_long {a b : Int64} (h : a = b) (kk : vv pic A nL p l e R s m args below meth c Q x k n pc lv (.long b :: st)) : vv pic A nL p l e R s m args below meth c Q x k n pc lv (.long a :: st) := by rw [h]; exact kk
theorem v_lv {lv' : List (Nat × Value)} (h : lv = lv') (kk : vv pic A nL p l e R s m args below meth c Q x k n pc lv' st) : vv pic A nL p l e R s m args below meth c Q x k n pc lv st := by rw [h]; exact kk
theorem v_x {x' : σ} (h : ∀ H, pic x H → pic x' H) (kk : vv pic A nL p l e R s m args below meth c Q x' k n pc lv st) : vv pic A nL p l e R s m args below meth c Q x k n pc lv st := fun H locs ls hP hS hl => kk H locs ls (h H hP) hS hl
theorem v_use {G : Prop} (h : ∀ H, pic x H → G) (kk : G → vv pic A nL p l e R s m args below meth c Q x k n pc lv st) : vv pic A nL p l e R s m args below meth c Q x k n pc lv st := fun H locs ls hP hS hl => kk (h H hP) H locs ls hP hS hl
theorem v_cut {pcj : Nat} {lvj : List (Nat × Value)} {stj : List Value} (P : Int32 → Prop) (K : ∀ w, P w → vv pic A nL p l e R s m args below meth c Q x k n pcj lvj (.int w :: stj)) (kk : (∀ w, P w → vv pic A nL p l e R s m args below meth c Q x k n pcj lvj (.int w :: stj)) → vv pic A nL p l e R s m args below meth c Q x k n pc lv st) : vv pic A nL p l e R s m args below meth c Q x k n pc lv st := kk K
theorem v_cut0 {pcj : Nat} {lvj : List (Nat × Value)} {stj : List Value} (P : Prop) (K : P → vv pic A nL p l e R s m args below meth c Q x k n pcj lvj stj) (kk : (P → vv pic A nL p l e R s m args below meth c Q x k n pcj lvj stj) → vv pic A nL p l e R s m args below meth c Q x k n pc lv st) : vv pic A nL p l e R s m args below meth c Q x k n pc lv st := kk K
theorem v_cutX {α : Type} (xj : α → σ) {pcj : Nat} (lvj : α → List (Nat × Value)) (stj : α → List Value) (P : α → Prop) (K : ∀ w, P w → vv pic A nL p l e R s m args below meth c Q (xj w) k n pcj (lvj w) (stj w)) (kk : (∀ w, P w → vv pic A nL p l e R s m args below meth c Q (xj w) k n pcj (lvj w) (stj w)) → vv pic A nL p l e R s m args below meth c Q x k n pc lv st) : vv pic A nL p l e R s m args below meth c Q x k n pc lv st := kk K
theorem v_kn {k' n' : Nat} (hk : k ≤ k') (hn : n ≤ n') (kk : vv pic A nL p l e R s m args below meth c Q x k' n' pc lv st) : vv pic A nL p l e R s m args below meth c Q x k n pc lv st := fun H locs ls hP hS hl => W.widen hk hn (kk H locs ls hP hS hl)
theorem v_iconst (C : cx p s m args meth c cc nL Ts own D tys z0 A) {i : Int} {v : Int32} (d : decode cc pc = .ok (.iconst i, 1)) (hv : Int32.ofInt i = v) (kk : vv pic A nL p l e R s m args below meth c Q x k n (pc + 1) lv (.int v :: st)) : vv pic A nL p l e R s m args below meth c Q x k n pc lv (st) := fun H locs ls hP hS hl => lv_iconst C.1.1 C.1.2.1 d hv (kk H locs ls hP hS hl)
theorem v_bipush (C : cx p s m args meth c cc nL Ts own D tys z0 A) {i : Int} {v : Int32} (d : decode cc pc = .ok (.bipush i, 2)) (hv : (Int8.ofInt i).toInt32 = v) (kk : vv pic A nL p l e R s m args below meth c Q x k n (pc + 2) lv (.int v :: st)) : vv pic A nL p l e R s m args below meth c Q x k n pc lv (st) := fun H locs ls hP hS hl => lv_bipush C.1.1 C.1.2.1 d hv (kk H locs ls hP hS hl)
theorem v_sipush (C : cx p s m args meth c cc nL Ts own D tys z0 A) {i : Int} {v : Int32} (d : decode cc pc = .ok (.sipush i, 3)) (hv : (Int16.ofInt i).toInt32 = v) (kk : vv pic A nL p l e R s m args below meth c Q x k n (pc + 3) lv (.int v :: st)) : vv pic A nL p l e R s m args below meth c Q x k n pc lv (st) := fun H locs ls hP hS hl => lv_sipush C.1.1 C.1.2.1 d hv (kk H locs ls hP hS hl)
theorem v_lconst (C : cx p s m args meth c cc nL Ts own D tys z0 A) {i : Fin 2} {v : Int64} (d : decode cc pc = .ok (.lconst i, 1)) (hv : Int64.ofNat (i : Nat) = v) (kk : vv pic A nL p l e R s m args below meth c Q x k n (pc + 1) lv (.long v :: st)) : vv pic A nL p l e R s m args below meth c Q x k n pc lv (st) := fun H locs ls hP hS hl => lv_lconst C.1.1 C.1.2.1 d hv (kk H locs ls hP hS hl)
theorem v_null (C : cx p s m args meth c cc nL Ts own D tys z0 A)  (d : decode cc pc = .ok (.aconst_null, 1)) (kk : vv pic A nL p l e R s m args below meth c Q x k n (pc + 1) lv (.null :: st)) : vv pic A nL p l e R s m args below meth c Q x k n pc lv (st) := fun H locs ls hP hS hl => lv_null C.1.1 C.1.2.1 d (kk H locs ls hP hS hl)
theorem v_iload_n (C : cx p s m args meth c cc nL Ts own D tys z0 A) {i : Fin 4} {i' j : Nat} {y : Int32} (d : decode cc pc = .ok (.iload_n i, 1)) (h : lv[j]? = some (i', .int y)) (hi : (i : Nat) = i') (kk : vv pic A nL p l e R s m args below meth c Q x k n (pc + 1) lv (.int y :: st)) : vv pic A nL p l e R s m args below meth c Q x k n pc lv (st) := fun H locs ls hP hS hl => lv_iload_n C.1.1 C.1.2.1 d hi (lv_at hl j h) (kk H locs ls hP hS hl)
theorem v_iload (C : cx p s m args meth c cc nL Ts own D tys z0 A) {i j : Nat} {y : Int32} (d : decode cc pc = .ok (.iload i, 2)) (h : lv[j]? = some (i, .int y)) (kk : vv pic A nL p l e R s m args below meth c Q x k n (pc + 2) lv (.int y :: st)) : vv pic A nL p l e R s m args below meth c Q x k n pc lv (st) := fun H locs ls hP hS hl => lv_iload C.1.1 C.1.2.1 d (lv_at hl j h) (kk H locs ls hP hS hl)
theorem v_istore_n (C : cx p s m args meth c cc nL Ts own D tys z0 A) {i : Fin 4} {i' : Nat} {y : Int32} {lv' : List (Nat × Value)} (d : decode cc pc = .ok (.istore_n i, 1)) (hi : (i : Nat) = i') (hn : i' < nL) (hq : (i', Value.int y) :: lv.filter (fun q => !(q.1 == i') && !(q.1 + 1 == i' && q.2.category == 2)) = lv') (kk : vv pic A nL p l e R s m args below meth c Q x k n (pc + 1) lv' st) : vv pic A nL p l e R s m args below meth c Q x k n pc lv (.int y :: st) := fun H locs ls hP hS hl => lv_istore_n C.1.1 C.1.2.1 d hi hl hn hq (fun ls' hl' => kk H locs ls' hP hS hl')
theorem v_istore (C : cx p s m args meth c cc nL Ts own D tys z0 A) {i' : Nat} {y : Int32} {lv' : List (Nat × Value)} (d : decode cc pc = .ok (.istore i', 2)) (hn : i' < nL) (hq : (i', Value.int y) :: lv.filter (fun q => !(q.1 == i') && !(q.1 + 1 == i' && q.2.category == 2)) = lv') (kk : vv pic A nL p l e R s m args below meth c Q x k n (pc + 2) lv' st) : vv pic A nL p l e R s m args below meth c Q x k n pc lv (.int y :: st) := fun H locs ls hP hS hl => lv_istore C.1.1 C.1.2.1 d hl hn hq (fun ls' hl' => kk H locs ls' hP hS hl')
theorem v_lload_n (C : cx p s m args meth c cc nL Ts own D tys z0 A) {i : Fin 4} {i' j : Nat} {y : Int64} (d : decode cc pc = .ok (.lload_n i, 1)) (h : lv[j]? = some (i', .long y)) (hi : (i : Nat) = i') (kk : vv pic A nL p l e R s m args below meth c Q x k n (pc + 1) lv (.long y :: st)) : vv pic A nL p l e R s m args below meth c Q x k n pc lv (st) := fun H locs ls hP hS hl => lv_lload_n C.1.1 C.1.2.1 d hi (lv_at hl j h) (kk H locs ls hP hS hl)
theorem v_lload (C : cx p s m args meth c cc nL Ts own D tys z0 A) {i j : Nat} {y : Int64} (d : decode cc pc = .ok (.lload i, 2)) (h : lv[j]? = some (i, .long y)) (kk : vv pic A nL p l e R s m args below meth c Q x k n (pc + 2) lv (.long y :: st)) : vv pic A nL p l e R s m args below meth c Q x k n pc lv (st) := fun H locs ls hP hS hl => lv_lload C.1.1 C.1.2.1 d (lv_at hl j h) (kk H locs ls hP hS hl)
theorem v_lstore_n (C : cx p s m args meth c cc nL Ts own D tys z0 A) {i : Fin 4} {i' : Nat} {y : Int64} {lv' : List (Nat × Value)} (d : decode cc pc = .ok (.lstore_n i, 1)) (hi : (i : Nat) = i') (hn : i' + 1 < nL) (hq : (i', Value.long y) :: lv.filter (fun q => !(q.1 == i') && (!(q.1 == i' + 1) && !(q.1 + 1 == i' && q.2.category == 2))) = lv') (kk : vv pic A nL p l e R s m args below meth c Q x k n (pc + 1) lv' st) : vv pic A nL p l e R s m args below meth c Q x k n pc lv (.long y :: st) := fun H locs ls hP hS hl => lv_lstore_n C.1.1 C.1.2.1 d hi hl hn hq (fun ls' hl' => kk H locs ls' hP hS hl')
theorem v_lstore (C : cx p s m args meth c cc nL Ts own D tys z0 A) {i' : Nat} {y : Int64} {lv' : List (Nat × Value)} (d : decode cc pc = .ok (.lstore i', 2)) (hn : i' + 1 < nL) (hq : (i', Value.long y) :: lv.filter (fun q => !(q.1 == i') && (!(q.1 == i' + 1) && !(q.1 + 1 == i' && q.2.category == 2))) = lv') (kk : vv pic A nL p l e R s m args below meth c Q x k n (pc + 2) lv' st) : vv pic A nL p l e R s m args below meth c Q x k n pc lv (.long y :: st) := fun H locs ls hP hS hl => lv_lstore C.1.1 C.1.2.1 d hl hn hq (fun ls' hl' => kk H locs ls' hP hS hl')
theorem v_aload_n (C : cx p s m args meth c cc nL Ts own D tys z0 A) {i : Fin 4} {i' j : Nat} {y : Nat} (d : decode cc pc = .ok (.aload_n i, 1)) (h : lv[j]? = some (i', .ref y)) (hi : (i : Nat) = i') (kk : vv pic A nL p l e R s m args below meth c Q x k n (pc + 1) lv (.ref y :: st)) : vv pic A nL p l e R s m args below meth c Q x k n pc lv (st) := fun H locs ls hP hS hl => lv_aload_n C.1.1 C.1.2.1 d hi (lv_at hl j h) (kk H locs ls hP hS hl)
theorem v_aload (C : cx p s m args meth c cc nL Ts own D tys z0 A) {i j : Nat} {y : Nat} (d : decode cc pc = .ok (.aload i, 2)) (h : lv[j]? = some (i, .ref y)) (kk : vv pic A nL p l e R s m args below meth c Q x k n (pc + 2) lv (.ref y :: st)) : vv pic A nL p l e R s m args below meth c Q x k n pc lv (st) := fun H locs ls hP hS hl => lv_aload C.1.1 C.1.2.1 d (lv_at hl j h) (kk H locs ls hP hS hl)
theorem v_astore_n (C : cx p s m args meth c cc nL Ts own D tys z0 A) {i : Fin 4} {i' : Nat} {y : Nat} {lv' : List (Nat × Value)} (d : decode cc pc = .ok (.astore_n i, 1)) (hi : (i : Nat) = i') (hn : i' < nL) (hq : (i', Value.ref y) :: lv.filter (fun q => !(q.1 == i') && !(q.1 + 1 == i' && q.2.category == 2)) = lv') (kk : vv pic A nL p l e R s m args below meth c Q x k n (pc + 1) lv' st) : vv pic A nL p l e R s m args below meth c Q x k n pc lv (.ref y :: st) := fun H locs ls hP hS hl => lv_astore_n C.1.1 C.1.2.1 d hi hl hn hq (fun ls' hl' => kk H locs ls' hP hS hl')
theorem v_astore (C : cx p s m args meth c cc nL Ts own D tys z0 A) {i' : Nat} {y : Nat} {lv' : List (Nat × Value)} (d : decode cc pc = .ok (.astore i', 2)) (hn : i' < nL) (hq : (i', Value.ref y) :: lv.filter (fun q => !(q.1 == i') && !(q.1 + 1 == i' && q.2.category == 2)) = lv') (kk : vv pic A nL p l e R s m args below meth c Q x k n (pc + 2) lv' st) : vv pic A nL p l e R s m args below meth c Q x k n pc lv (.ref y :: st) := fun H locs ls hP hS hl => lv_astore C.1.1 C.1.2.1 d hl hn hq (fun ls' hl' => kk H locs ls' hP hS hl')
theorem v_iinc (C : cx p s m args meth c cc nL Ts own D tys z0 A) {i' j : Nat} {z : Int} {y v : Int32} {lv' : List (Nat × Value)} (d : decode cc pc = .ok (.iinc i' z, 3)) (hk : lv[j]? = some (i', .int y)) (hv : y + Int32.ofInt z = v) (hn : i' < nL) (hq : (i', Value.int v) :: lv.filter (fun q => !(q.1 == i') && !(q.1 + 1 == i' && q.2.category == 2)) = lv') (kk : vv pic A nL p l e R s m args below meth c Q x k n (pc + 3) lv' st) : vv pic A nL p l e R s m args below meth c Q x k n pc lv st := fun H locs ls hP hS hl => lv_iinc (k := j) C.1.1 C.1.2.1 d hl hk hv hn hq (fun ls' hl' => kk H locs ls' hP hS hl')
theorem v_iadd (C : cx p s m args meth c cc nL Ts own D tys z0 A) {a b : Int32} (d : decode cc pc = .ok (.iadd, 1)) (kk : vv pic A nL p l e R s m args below meth c Q x k n (pc + 1) lv (.int (a + b) :: st)) : vv pic A nL p l e R s m args below meth c Q x k n pc lv (.int b :: .int a :: st) := fun H locs ls hP hS hl => lv_iadd C.1.1 C.1.2.1 d (kk H locs ls hP hS hl)
theorem v_isub (C : cx p s m args meth c cc nL Ts own D tys z0 A) {a b : Int32} (d : decode cc pc = .ok (.isub, 1)) (kk : vv pic A nL p l e R s m args below meth c Q x k n (pc + 1) lv (.int (a - b) :: st)) : vv pic A nL p l e R s m args below meth c Q x k n pc lv (.int b :: .int a :: st) := fun H locs ls hP hS hl => lv_isub C.1.1 C.1.2.1 d (kk H locs ls hP hS hl)
theorem v_imul (C : cx p s m args meth c cc nL Ts own D tys z0 A) {a b : Int32} (d : decode cc pc = .ok (.imul, 1)) (kk : vv pic A nL p l e R s m args below meth c Q x k n (pc + 1) lv (.int (a * b) :: st)) : vv pic A nL p l e R s m args below meth c Q x k n pc lv (.int b :: .int a :: st) := fun H locs ls hP hS hl => lv_imul C.1.1 C.1.2.1 d (kk H locs ls hP hS hl)
theorem v_iand (C : cx p s m args meth c cc nL Ts own D tys z0 A) {a b : Int32} (d : decode cc pc = .ok (.iand, 1)) (kk : vv pic A nL p l e R s m args below meth c Q x k n (pc + 1) lv (.int (a &&& b) :: st)) : vv pic A nL p l e R s m args below meth c Q x k n pc lv (.int b :: .int a :: st) := fun H locs ls hP hS hl => lv_iand C.1.1 C.1.2.1 d (kk H locs ls hP hS hl)
theorem v_ior (C : cx p s m args meth c cc nL Ts own D tys z0 A) {a b : Int32} (d : decode cc pc = .ok (.ior, 1)) (kk : vv pic A nL p l e R s m args below meth c Q x k n (pc + 1) lv (.int (a ||| b) :: st)) : vv pic A nL p l e R s m args below meth c Q x k n pc lv (.int b :: .int a :: st) := fun H locs ls hP hS hl => lv_ior C.1.1 C.1.2.1 d (kk H locs ls hP hS hl)
theorem v_ishl (C : cx p s m args meth c cc nL Ts own D tys z0 A) {a b : Int32} (d : decode cc pc = .ok (.ishl, 1)) (kk : vv pic A nL p l e R s m args below meth c Q x k n (pc + 1) lv (.int (a <<< (b &&& 31)) :: st)) : vv pic A nL p l e R s m args below meth c Q x k n pc lv (.int b :: .int a :: st) := fun H locs ls hP hS hl => lv_ishl C.1.1 C.1.2.1 d (kk H locs ls hP hS hl)
theorem v_ishr (C : cx p s m args meth c cc nL Ts own D tys z0 A) {a b : Int32} (d : decode cc pc = .ok (.ishr, 1)) (kk : vv pic A nL p l e R s m args below meth c Q x k n (pc + 1) lv (.int (a >>> (b &&& 31)) :: st)) : vv pic A nL p l e R s m args below meth c Q x k n pc lv (.int b :: .int a :: st) := fun H locs ls hP hS hl => lv_ishr C.1.1 C.1.2.1 d (kk H locs ls hP hS hl)
theorem v_ineg (C : cx p s m args meth c cc nL Ts own D tys z0 A) {a : Int32} (d : decode cc pc = .ok (.ineg, 1)) (kk : vv pic A nL p l e R s m args below meth c Q x k n (pc + 1) lv (.int (-a) :: st)) : vv pic A nL p l e R s m args below meth c Q x k n pc lv (.int a :: st) := fun H locs ls hP hS hl => lv_ineg C.1.1 C.1.2.1 d (kk H locs ls hP hS hl)
theorem v_irem (C : cx p s m args meth c cc nL Ts own D tys z0 A) {a b : Int32} (d : decode cc pc = .ok (.irem, 1)) (hne : ¬ b = 0) (kk : vv pic A nL p l e R s m args below meth c Q x k n (pc + 1) lv (.int (a - a / b * b) :: st)) : vv pic A nL p l e R s m args below meth c Q x k n pc lv (.int b :: .int a :: st) := fun H locs ls hP hS hl => lv_irem C.1.1 C.1.2.1 d hne (kk H locs ls hP hS hl)
theorem v_ladd (C : cx p s m args meth c cc nL Ts own D tys z0 A) {a b : Int64} (d : decode cc pc = .ok (.ladd, 1)) (kk : vv pic A nL p l e R s m args below meth c Q x k n (pc + 1) lv (.long (a + b) :: st)) : vv pic A nL p l e R s m args below meth c Q x k n pc lv (.long b :: .long a :: st) := fun H locs ls hP hS hl => lv_ladd C.1.1 C.1.2.1 d (kk H locs ls hP hS hl)
theorem v_lsub (C : cx p s m args meth c cc nL Ts own D tys z0 A) {a b : Int64} (d : decode cc pc = .ok (.lsub, 1)) (kk : vv pic A nL p l e R s m args below meth c Q x k n (pc + 1) lv (.long (a - b) :: st)) : vv pic A nL p l e R s m args below meth c Q x k n pc lv (.long b :: .long a :: st) := fun H locs ls hP hS hl => lv_lsub C.1.1 C.1.2.1 d (kk H locs ls hP hS hl)
theorem v_lmul (C : cx p s m args meth c cc nL Ts own D tys z0 A) {a b : Int64} (d : decode cc pc = .ok (.lmul, 1)) (kk : vv pic A nL p l e R s m args below meth c Q x k n (pc + 1) lv (.long (a * b) :: st)) : vv pic A nL p l e R s m args below meth c Q x k n pc lv (.long b :: .long a :: st) := fun H locs ls hP hS hl => lv_lmul C.1.1 C.1.2.1 d (kk H locs ls hP hS hl)
theorem v_ldiv (C : cx p s m args meth c cc nL Ts own D tys z0 A) {a b : Int64} (d : decode cc pc = .ok (.ldiv, 1)) (hne : ¬ b = 0) (kk : vv pic A nL p l e R s m args below meth c Q x k n (pc + 1) lv (.long (a / b) :: st)) : vv pic A nL p l e R s m args below meth c Q x k n pc lv (.long b :: .long a :: st) := fun H locs ls hP hS hl => lv_ldiv C.1.1 C.1.2.1 d hne (kk H locs ls hP hS hl)
theorem v_lrem (C : cx p s m args meth c cc nL Ts own D tys z0 A) {a b : Int64} (d : decode cc pc = .ok (.lrem, 1)) (hne : ¬ b = 0) (kk : vv pic A nL p l e R s m args below meth c Q x k n (pc + 1) lv (.long (a - a / b * b) :: st)) : vv pic A nL p l e R s m args below meth c Q x k n pc lv (.long b :: .long a :: st) := fun H locs ls hP hS hl => lv_lrem C.1.1 C.1.2.1 d hne (kk H locs ls hP hS hl)
theorem v_lneg (C : cx p s m args meth c cc nL Ts own D tys z0 A) {a : Int64} (d : decode cc pc = .ok (.lneg, 1)) (kk : vv pic A nL p l e R s m args below meth c Q x k n (pc + 1) lv (.long (-a) :: st)) : vv pic A nL p l e R s m args below meth c Q x k n pc lv (.long a :: st) := fun H locs ls hP hS hl => lv_lneg C.1.1 C.1.2.1 d (kk H locs ls hP hS hl)
theorem v_lcmp (C : cx p s m args meth c cc nL Ts own D tys z0 A) {a b : Int64} (d : decode cc pc = .ok (.lcmp, 1)) (kk : vv pic A nL p l e R s m args below meth c Q x k n (pc + 1) lv (.int (lg_cmp a b) :: st)) : vv pic A nL p l e R s m args below meth c Q x k n pc lv (.long b :: .long a :: st) := fun H locs ls hP hS hl => W.lcmp C.1.1 C.1.2.1 d (kk H locs ls hP hS hl)
theorem v_i2l (C : cx p s m args meth c cc nL Ts own D tys z0 A) {a : Int32} (d : decode cc pc = .ok (.i2l, 1)) (kk : vv pic A nL p l e R s m args below meth c Q x k n (pc + 1) lv (.long a.toInt64 :: st)) : vv pic A nL p l e R s m args below meth c Q x k n pc lv (.int a :: st) := fun H locs ls hP hS hl => lv_i2l C.1.1 C.1.2.1 d rfl (kk H locs ls hP hS hl)
theorem v_l2i (C : cx p s m args meth c cc nL Ts own D tys z0 A) {a : Int64} (d : decode cc pc = .ok (.l2i, 1)) (kk : vv pic A nL p l e R s m args below meth c Q x k n (pc + 1) lv (.int a.toInt32 :: st)) : vv pic A nL p l e R s m args below meth c Q x k n pc lv (.long a :: st) := fun H locs ls hP hS hl => lv_l2i C.1.1 C.1.2.1 d rfl (kk H locs ls hP hS hl)
theorem v_i2c (C : cx p s m args meth c cc nL Ts own D tys z0 A) {a : Int32} (d : decode cc pc = .ok (.i2c, 1)) (kk : vv pic A nL p l e R s m args below meth c Q x k n (pc + 1) lv (.int (a.toUInt32 % 65536).toInt32 :: st)) : vv pic A nL p l e R s m args below meth c Q x k n pc lv (.int a :: st) := fun H locs ls hP hS hl => lv_i2c C.1.1 C.1.2.1 d rfl (kk H locs ls hP hS hl)
theorem v_dup (C : cx p s m args meth c cc nL Ts own D tys z0 A) {v : Value} (d : decode cc pc = .ok (.dup, 1)) (h : v.category = 1) (kk : vv pic A nL p l e R s m args below meth c Q x k n (pc + 1) lv (v :: v :: st)) : vv pic A nL p l e R s m args below meth c Q x k n pc lv (v :: st) := fun H locs ls hP hS hl => lv_dup C.1.1 C.1.2.1 d h (kk H locs ls hP hS hl)
theorem v_dup_x1 (C : cx p s m args meth c cc nL Ts own D tys z0 A) {v w : Value} (d : decode cc pc = .ok (.dup_x1, 1)) (h : v.category = 1) (h' : w.category = 1) (kk : vv pic A nL p l e R s m args below meth c Q x k n (pc + 1) lv (v :: w :: v :: st)) : vv pic A nL p l e R s m args below meth c Q x k n pc lv (v :: w :: st) := fun H locs ls hP hS hl => lv_dup_x1 C.1.1 C.1.2.1 d h h' (kk H locs ls hP hS hl)
theorem v_dup2 (C : cx p s m args meth c cc nL Ts own D tys z0 A) {v w : Value} (d : decode cc pc = .ok (.dup2, 1)) (h : v.category = 1) (h' : w.category = 1) (kk : vv pic A nL p l e R s m args below meth c Q x k n (pc + 1) lv (v :: w :: v :: w :: st)) : vv pic A nL p l e R s m args below meth c Q x k n pc lv (v :: w :: st) := fun H locs ls hP hS hl => lv_dup2_11 C.1.1 C.1.2.1 d h h' (kk H locs ls hP hS hl)
theorem v_pop (C : cx p s m args meth c cc nL Ts own D tys z0 A) {v : Value} (d : decode cc pc = .ok (.pop, 1)) (h : v.category = 1) (kk : vv pic A nL p l e R s m args below meth c Q x k n (pc + 1) lv (st)) : vv pic A nL p l e R s m args below meth c Q x k n pc lv (v :: st) := fun H locs ls hP hS hl => lv_pop C.1.1 C.1.2.1 d h (kk H locs ls hP hS hl)
theorem v_goto (C : cx p s m args meth c cc nL Ts own D tys z0 A) {off : Int} (tgt : Nat) (d : decode cc pc = .ok (.goto off, 3)) (ht : (pc : Int) + off = (tgt : Int)) (kk : vv pic A nL p l e R s m args below meth c Q x k n tgt lv st) : vv pic A nL p l e R s m args below meth c Q x k n pc lv st := fun H locs ls hP hS hl => lv_goto C.1.1 C.1.2.1 d ht (kk H locs ls hP hS hl)
theorem v_icmp_eq (C : cx p s m args meth c cc nL Ts own D tys z0 A) {a b : Int32} {off : Int} (tgt : Nat) (d : decode cc pc = .ok (.if_icmp .eq off, 3)) (ht : (pc : Int) + off = (tgt : Int)) (kt : a = b → vv pic A nL p l e R s m args below meth c Q x k n tgt lv st) (kf : ¬ a = b → vv pic A nL p l e R s m args below meth c Q x k n (pc + 3) lv st) : vv pic A nL p l e R s m args below meth c Q x k n pc lv (.int b :: .int a :: st) := fun H locs ls hP hS hl => lv_icmp_eq C.1.1 C.1.2.1 d ht (fun h => kt h H locs ls hP hS hl) (fun h => kf h H locs ls hP hS hl)
theorem v_if_eq (C : cx p s m args meth c cc nL Ts own D tys z0 A) {a : Int32} {off : Int} (tgt : Nat) (d : decode cc pc = .ok (.ifCond .eq off, 3)) (ht : (pc : Int) + off = (tgt : Int)) (kt : a = 0 → vv pic A nL p l e R s m args below meth c Q x k n tgt lv st) (kf : ¬ a = 0 → vv pic A nL p l e R s m args below meth c Q x k n (pc + 3) lv st) : vv pic A nL p l e R s m args below meth c Q x k n pc lv (.int a :: st) := fun H locs ls hP hS hl => lv_if_eq C.1.1 C.1.2.1 d ht (fun h => kt h H locs ls hP hS hl) (fun h => kf h H locs ls hP hS hl)
theorem v_icmp_ne (C : cx p s m args meth c cc nL Ts own D tys z0 A) {a b : Int32} {off : Int} (tgt : Nat) (d : decode cc pc = .ok (.if_icmp .ne off, 3)) (ht : (pc : Int) + off = (tgt : Int)) (kt : ¬ a = b → vv pic A nL p l e R s m args below meth c Q x k n tgt lv st) (kf : a = b → vv pic A nL p l e R s m args below meth c Q x k n (pc + 3) lv st) : vv pic A nL p l e R s m args below meth c Q x k n pc lv (.int b :: .int a :: st) := fun H locs ls hP hS hl => lv_icmp_ne C.1.1 C.1.2.1 d ht (fun h => kt h H locs ls hP hS hl) (fun h => kf h H locs ls hP hS hl)
theorem v_if_ne (C : cx p s m args meth c cc nL Ts own D tys z0 A) {a : Int32} {off : Int} (tgt : Nat) (d : decode cc pc = .ok (.ifCond .ne off, 3)) (ht : (pc : Int) + off = (tgt : Int)) (kt : ¬ a = 0 → vv pic A nL p l e R s m args below meth c Q x k n tgt lv st) (kf : a = 0 → vv pic A nL p l e R s m args below meth c Q x k n (pc + 3) lv st) : vv pic A nL p l e R s m args below meth c Q x k n pc lv (.int a :: st) := fun H locs ls hP hS hl => lv_if_ne C.1.1 C.1.2.1 d ht (fun h => kt h H locs ls hP hS hl) (fun h => kf h H locs ls hP hS hl)
theorem v_icmp_lt (C : cx p s m args meth c cc nL Ts own D tys z0 A) {a b : Int32} {off : Int} (tgt : Nat) (d : decode cc pc = .ok (.if_icmp .lt off, 3)) (ht : (pc : Int) + off = (tgt : Int)) (kt : a < b → vv pic A nL p l e R s m args below meth c Q x k n tgt lv st) (kf : ¬ a < b → vv pic A nL p l e R s m args below meth c Q x k n (pc + 3) lv st) : vv pic A nL p l e R s m args below meth c Q x k n pc lv (.int b :: .int a :: st) := fun H locs ls hP hS hl => lv_icmp_lt C.1.1 C.1.2.1 d ht (fun h => kt h H locs ls hP hS hl) (fun h => kf h H locs ls hP hS hl)
theorem v_if_lt (C : cx p s m args meth c cc nL Ts own D tys z0 A) {a : Int32} {off : Int} (tgt : Nat) (d : decode cc pc = .ok (.ifCond .lt off, 3)) (ht : (pc : Int) + off = (tgt : Int)) (kt : a < 0 → vv pic A nL p l e R s m args below meth c Q x k n tgt lv st) (kf : ¬ a < 0 → vv pic A nL p l e R s m args below meth c Q x k n (pc + 3) lv st) : vv pic A nL p l e R s m args below meth c Q x k n pc lv (.int a :: st) := fun H locs ls hP hS hl => lv_if_lt C.1.1 C.1.2.1 d ht (fun h => kt h H locs ls hP hS hl) (fun h => kf h H locs ls hP hS hl)
theorem v_icmp_ge (C : cx p s m args meth c cc nL Ts own D tys z0 A) {a b : Int32} {off : Int} (tgt : Nat) (d : decode cc pc = .ok (.if_icmp .ge off, 3)) (ht : (pc : Int) + off = (tgt : Int)) (kt : b ≤ a → vv pic A nL p l e R s m args below meth c Q x k n tgt lv st) (kf : ¬ b ≤ a → vv pic A nL p l e R s m args below meth c Q x k n (pc + 3) lv st) : vv pic A nL p l e R s m args below meth c Q x k n pc lv (.int b :: .int a :: st) := fun H locs ls hP hS hl => lv_icmp_ge C.1.1 C.1.2.1 d ht (fun h => kt h H locs ls hP hS hl) (fun h => kf h H locs ls hP hS hl)
theorem v_if_ge (C : cx p s m args meth c cc nL Ts own D tys z0 A) {a : Int32} {off : Int} (tgt : Nat) (d : decode cc pc = .ok (.ifCond .ge off, 3)) (ht : (pc : Int) + off = (tgt : Int)) (kt : 0 ≤ a → vv pic A nL p l e R s m args below meth c Q x k n tgt lv st) (kf : ¬ 0 ≤ a → vv pic A nL p l e R s m args below meth c Q x k n (pc + 3) lv st) : vv pic A nL p l e R s m args below meth c Q x k n pc lv (.int a :: st) := fun H locs ls hP hS hl => lv_if_ge C.1.1 C.1.2.1 d ht (fun h => kt h H locs ls hP hS hl) (fun h => kf h H locs ls hP hS hl)
theorem v_icmp_gt (C : cx p s m args meth c cc nL Ts own D tys z0 A) {a b : Int32} {off : Int} (tgt : Nat) (d : decode cc pc = .ok (.if_icmp .gt off, 3)) (ht : (pc : Int) + off = (tgt : Int)) (kt : b < a → vv pic A nL p l e R s m args below meth c Q x k n tgt lv st) (kf : ¬ b < a → vv pic A nL p l e R s m args below meth c Q x k n (pc + 3) lv st) : vv pic A nL p l e R s m args below meth c Q x k n pc lv (.int b :: .int a :: st) := fun H locs ls hP hS hl => lv_icmp_gt C.1.1 C.1.2.1 d ht (fun h => kt h H locs ls hP hS hl) (fun h => kf h H locs ls hP hS hl)
theorem v_if_gt (C : cx p s m args meth c cc nL Ts own D tys z0 A) {a : Int32} {off : Int} (tgt : Nat) (d : decode cc pc = .ok (.ifCond .gt off, 3)) (ht : (pc : Int) + off = (tgt : Int)) (kt : 0 < a → vv pic A nL p l e R s m args below meth c Q x k n tgt lv st) (kf : ¬ 0 < a → vv pic A nL p l e R s m args below meth c Q x k n (pc + 3) lv st) : vv pic A nL p l e R s m args below meth c Q x k n pc lv (.int a :: st) := fun H locs ls hP hS hl => lv_if_gt C.1.1 C.1.2.1 d ht (fun h => kt h H locs ls hP hS hl) (fun h => kf h H locs ls hP hS hl)
theorem v_icmp_le (C : cx p s m args meth c cc nL Ts own D tys z0 A) {a b : Int32} {off : Int} (tgt : Nat) (d : decode cc pc = .ok (.if_icmp .le off, 3)) (ht : (pc : Int) + off = (tgt : Int)) (kt : a ≤ b → vv pic A nL p l e R s m args below meth c Q x k n tgt lv st) (kf : ¬ a ≤ b → vv pic A nL p l e R s m args below meth c Q x k n (pc + 3) lv st) : vv pic A nL p l e R s m args below meth c Q x k n pc lv (.int b :: .int a :: st) := fun H locs ls hP hS hl => lv_icmp_le C.1.1 C.1.2.1 d ht (fun h => kt h H locs ls hP hS hl) (fun h => kf h H locs ls hP hS hl)
theorem v_if_le (C : cx p s m args meth c cc nL Ts own D tys z0 A) {a : Int32} {off : Int} (tgt : Nat) (d : decode cc pc = .ok (.ifCond .le off, 3)) (ht : (pc : Int) + off = (tgt : Int)) (kt : a ≤ 0 → vv pic A nL p l e R s m args below meth c Q x k n tgt lv st) (kf : ¬ a ≤ 0 → vv pic A nL p l e R s m args below meth c Q x k n (pc + 3) lv st) : vv pic A nL p l e R s m args below meth c Q x k n pc lv (.int a :: st) := fun H locs ls hP hS hl => lv_if_le C.1.1 C.1.2.1 d ht (fun h => kt h H locs ls hP hS hl) (fun h => kf h H locs ls hP hS hl)
theorem v_acmp_eq (C : cx p s m args meth c cc nL Ts own D tys z0 A) {a b : Option Nat} {off : Int} (tgt : Nat) (d : decode cc pc = .ok (.if_acmp .eq off, 3)) (ht : (pc : Int) + off = (tgt : Int)) (kt : a = b → vv pic A nL p l e R s m args below meth c Q x k n tgt lv st) (kf : ¬ a = b → vv pic A nL p l e R s m args below meth c Q x k n (pc + 3) lv st) : vv pic A nL p l e R s m args below meth c Q x k n pc lv (va_rf b :: va_rf a :: st) := fun H locs ls hP hS hl => lv_acmp_eq C.1.1 C.1.2.1 d ht (fun h => kt h H locs ls hP hS hl) (fun h => kf h H locs ls hP hS hl)
theorem v_acmp_ne (C : cx p s m args meth c cc nL Ts own D tys z0 A) {a b : Option Nat} {off : Int} (tgt : Nat) (d : decode cc pc = .ok (.if_acmp .ne off, 3)) (ht : (pc : Int) + off = (tgt : Int)) (kt : ¬ a = b → vv pic A nL p l e R s m args below meth c Q x k n tgt lv st) (kf : a = b → vv pic A nL p l e R s m args below meth c Q x k n (pc + 3) lv st) : vv pic A nL p l e R s m args below meth c Q x k n pc lv (va_rf b :: va_rf a :: st) := fun H locs ls hP hS hl => lv_acmp_ne C.1.1 C.1.2.1 d ht (fun h => kt h H locs ls hP hS hl) (fun h => kf h H locs ls hP hS hl)
theorem v_tabIn (C : cx p s m args meth c cc nL Ts own D tys z0 A) {dflt lo hi : Int} {offs : Array Int} {len : Nat} {a : Int32} {off : Int} (tgt : Nat) (d : decode cc pc = .ok (.tableswitch dflt lo hi offs, len)) (h1 : ¬ a.toInt < lo) (h2 : ¬ hi < a.toInt) (ho : offs[(a.toInt - lo).toNat]? = some off) (ht : (pc : Int) + off = (tgt : Int)) (kk : vv pic A nL p l e R s m args below meth c Q x k n tgt lv st) : vv pic A nL p l e R s m args below meth c Q x k n pc lv (.int a :: st) := fun H locs ls hP hS hl => lv_tableIn C.1.1 C.1.2.1 d h1 h2 ho ht (kk H locs ls hP hS hl)
theorem v_tabOut (C : cx p s m args meth c cc nL Ts own D tys z0 A) {dflt lo hi : Int} {offs : Array Int} {len : Nat} {a : Int32} (tgt : Nat) (d : decode cc pc = .ok (.tableswitch dflt lo hi offs, len)) (h : a.toInt < lo ∨ hi < a.toInt) (ht : (pc : Int) + dflt = (tgt : Int)) (kk : vv pic A nL p l e R s m args below meth c Q x k n tgt lv st) : vv pic A nL p l e R s m args below meth c Q x k n pc lv (.int a :: st) := fun H locs ls hP hS hl => lv_tableOut C.1.1 C.1.2.1 d h ht (kk H locs ls hP hS hl)
theorem v_lookup (C : cx p s m args meth c cc nL Ts own D tys z0 A) {dflt : Int} {ps : Array (Int × Int)} {len : Nat} {a : Int32} {off : Int} (tgt : Nat) (d : decode cc pc = .ok (.lookupswitch dflt ps, len)) (hp : (ps.toList.zip (ps.toList.drop 1)).all (fun (a, next) => a.1 < next.1) = true) (ho : Op.lookupswitch.offset ps.toList dflt a.toInt = off) (ht : (pc : Int) + off = (tgt : Int)) (kk : vv pic A nL p l e R s m args below meth c Q x k n tgt lv st) : vv pic A nL p l e R s m args below meth c Q x k n pc lv (.int a :: st) := fun H locs ls hP hS hl => lv_lookup C.1.1 C.1.2.1 d hp ho ht (kk H locs ls hP hS hl)
theorem v_ldc (C : cx p s m args meth c cc nL Ts own D tys z0 A) {i : Nat} {v : Int32} (d : decode cc pc = .ok (.ldc i, 2)) (hc : Cond.constant own i v ∈ Ts) (kk : vv pic A nL p l e R s m args below meth c Q x k n (pc + 2) lv (.int v :: st)) : vv pic A nL p l e R s m args below meth c Q x k n pc lv st := fun H locs ls hP hS hl => lv_ldc C.1.1 C.1.2.1 C.1.2.2.2.1 (C.1.2.2.2.2 _ hc) d (kk H locs ls hP hS hl)
theorem v_ldc2 (C : cx p s m args meth c cc nL Ts own D tys z0 A) {i : Nat} {v : Int64} (d : decode cc pc = .ok (.ldc2_w i, 3)) (hc : Cond.constantLong own i v ∈ Ts) (kk : vv pic A nL p l e R s m args below meth c Q x k n (pc + 3) lv (.long v :: st)) : vv pic A nL p l e R s m args below meth c Q x k n pc lv st := fun H locs ls hP hS hl => lv_ldc2 C.1.1 C.1.2.1 C.1.2.2.2.1 (C.1.2.2.2.2 _ hc) d (kk H locs ls hP hS hl)
theorem v_get (C : cx p s m args meth c cc nL Ts own D tys z0 A) {ref Cn : String} {T : u_T} {N ci i a j : Nat} {v : Value} (d : decode cc pc = .ok (.getfield i, 3)) (hin : ∀ w ∈ u_ws Cn T N, w ∈ Ts) (hc : vwCl[ci]? = some (Cn, T, N)) (hj : j < N) (hlink : Cond.fieldLink own i ref (T j).2.1 (T j).2.2.1 ∈ Ts) (hsame : ∀ x, s.fieldFound? (T j).1 (T j).2.1 (T j).2.2.1 = some x → s.fieldFound? ref (T j).2.1 (T j).2.2.1 = some x) (g : gO D pic x ci a j v)
    (kk : vv pic A nL p l e R s m args below meth c Q x k n (pc + 3) lv (v :: st)) : vv pic A nL p l e R s m args below meth c Q x k n pc lv (.ref a :: st) := by
  intro H locs ls hP hS hl
  obtain ⟨fs, h1, h2⟩ := g H hP
  have hP1 : va_P D vwCl [(a, .inr (ci, fs))] H := fun i q hq => by
    cases i with
    | zero => cases hq; exact h1
    | succ i => simp at hq
  exact va_get C.1.1 C.1.2.1 C.1.2.2.2.2 hin C.1.2.2.2.1 C.2.1.1 hP1 0 rfl hc j hj (C.1.2.2.2.2 _ hlink) hsame h2 d (kk H locs ls hP hS hl)
theorem v_put (C : cx p s m args meth c cc nL Ts own D tys z0 A) {ref Cn : String} {T : u_T} {N ci i a j : Nat} {v : Value} {ty : FieldType} {x' : σ} (d : decode cc pc = .ok (.putfield i, 3)) (hin : ∀ w ∈ u_ws Cn T N, w ∈ Ts) (ty0 : Nat → FieldType) (hty : ∀ k, k < N → parseFieldDescriptor (T k).2.2.1 = some (ty0 k)) (hnm : ∀ a, a < N → ∀ b, b < N → a ≠ b → (T a).2.1 ≠ (T b).2.1) (hc : vwCl[ci]? = some (Cn, T, N)) (hj : j < N) (hlink : Cond.fieldLink own i ref (T j).2.1 (T j).2.2.1 ∈ Ts) (hsame : ∀ x, s.fieldFound? (T j).1 (T j).2.1 (T j).2.2.1 = some x → s.fieldFound? ref (T j).2.1 (T j).2.2.1 = some x)
    (hfin : (T j).2.2.2 = false) (hd : ty0 j = ty) (hn : narrow ty v = v) (hfit : fits ty v = true) (g : pO D pic A x ci a j v x')
    (kk : vv pic A nL p l e R s m args below meth c Q x' k n (pc + 3) lv st) : vv pic A nL p l e R s m args below meth c Q x k n pc lv (v :: .ref a :: st) := by
  intro H locs ls hP hS hl
  obtain ⟨hA, fs, h1, h2, h3⟩ := g H hP
  have hts := C.1.2.2.2.2
  have hK := C.2.1.1
  have hap := va_apart (own := own) hts hin ty0 hty hnm hK hc
  obtain ⟨r, e1, cell, q1, q2, q3, q4⟩ := h1
  have hr : r = (Cn, T, N) := Option.some.inj (e1.symm.trans hc)
  subst hr
  obtain ⟨hS9, hfc, kC, hkC, hkind⟩ := hK.1 ci _ hc
  obtain ⟨cf, kf, fi, f, hi, hsl⟩ := hS9 j hj
  have hlay := hts _ (hin _ (u_in_lay hj))
  unfold u_lay at hlay
  rw [if_neg (by rw [hfin]; decide)] at hlay
  have hst := (u_facts hfc hkC (u_lays hts hin hj) hi).1
  have h6 := u_store hfc hkC hkind hlay hi ((hty j hj).trans (by rw [hd])) hn hfit
  refine W.putK C.1.1 C.1.2.1 (f := f) ⟨C.1.2.2.2.1, hts _ hlink, ⟨_, _, _, hsame _ hi⟩, hst⟩ (by rw [q2]; exact h6) q1 q3 (by rw [hsl]; exact k2_hasslot (q4 j hj)) rfl rfl d fun H' e1 e2 e3 => ?_
  rw [hsl] at e1 ⊢
  exact kk H' _ ls (h3 H' ⟨_, hc, t_OB.to (V := updV (vp_V fs) j v) ⟨_, e1, q2, q3, t_set q4 hap hj v⟩ (fun i _ => vp_updV_set h2 v i)⟩ e2 e3) (hS.put e2 e3 hA) hl
theorem v_getN (C : cx p s m args meth c cc nL Ts own D tys z0 A) {ref Cn host : String} {T : u_T} {N ci i a j : Nat} {v : Value} (d : decode cc pc = .ok (.getfield i, 3)) (hin : ∀ w ∈ u_ws Cn T N, w ∈ Ts) (hc : vwCl[ci]? = some (Cn, T, N)) (hj : j < N) (hlink : va_Nw (.fieldLinkNest own i ref (T j).2.1 (T j).2.2.1 host) s) (hsame : ∀ x, s.fieldFound? (T j).1 (T j).2.1 (T j).2.2.1 = some x → s.fieldFound? ref (T j).2.1 (T j).2.2.1 = some x) (g : gO D pic x ci a j v)
    (kk : vv pic A nL p l e R s m args below meth c Q x k n (pc + 3) lv (v :: st)) : vv pic A nL p l e R s m args below meth c Q x k n pc lv (.ref a :: st) := by
  intro H locs ls hP hS hl
  obtain ⟨fs, h1, h2⟩ := g H hP
  have hP1 : va_P D vwCl [(a, .inr (ci, fs))] H := fun i q hq => by
    cases i with
    | zero => cases hq; exact h1
    | succ i => simp at hq
  exact va_getN C.1.1 C.1.2.1 C.1.2.2.2.2 hin C.1.2.2.2.1 C.2.1.1 hP1 0 rfl hc j hj (va_Nw.use rfl hlink) hsame h2 d (kk H locs ls hP hS hl)
theorem v_putN (C : cx p s m args meth c cc nL Ts own D tys z0 A) {ref Cn host : String} {T : u_T} {N ci i a j : Nat} {v : Value} {ty : FieldType} {x' : σ} (d : decode cc pc = .ok (.putfield i, 3)) (hin : ∀ w ∈ u_ws Cn T N, w ∈ Ts) (ty0 : Nat → FieldType) (hty : ∀ k, k < N → parseFieldDescriptor (T k).2.2.1 = some (ty0 k)) (hnm : ∀ a, a < N → ∀ b, b < N → a ≠ b → (T a).2.1 ≠ (T b).2.1) (hc : vwCl[ci]? = some (Cn, T, N)) (hj : j < N) (hlink : va_Nw (.fieldLinkNest own i ref (T j).2.1 (T j).2.2.1 host) s) (hsame : ∀ x, s.fieldFound? (T j).1 (T j).2.1 (T j).2.2.1 = some x → s.fieldFound? ref (T j).2.1 (T j).2.2.1 = some x)
    (hfin : (T j).2.2.2 = false) (hd : ty0 j = ty) (hn : narrow ty v = v) (hfit : fits ty v = true) (g : pO D pic A x ci a j v x')
    (kk : vv pic A nL p l e R s m args below meth c Q x' k n (pc + 3) lv st) : vv pic A nL p l e R s m args below meth c Q x k n pc lv (v :: .ref a :: st) := by
  intro H locs ls hP hS hl
  obtain ⟨hA, fs, h1, h2, h3⟩ := g H hP
  have hts := C.1.2.2.2.2
  have hK := C.2.1.1
  have hap := va_apart (own := own) hts hin ty0 hty hnm hK hc
  obtain ⟨r, e1, cell, q1, q2, q3, q4⟩ := h1
  have hr : r = (Cn, T, N) := Option.some.inj (e1.symm.trans hc)
  subst hr
  obtain ⟨hS9, hfc, kC, hkC, hkind⟩ := hK.1 ci _ hc
  obtain ⟨cf, kf, fi, f, hi, hsl⟩ := hS9 j hj
  have hlay := hts _ (hin _ (u_in_lay hj))
  unfold u_lay at hlay
  rw [if_neg (by rw [hfin]; decide)] at hlay
  have hst := (u_facts hfc hkC (u_lays hts hin hj) hi).1
  have h6 := u_store hfc hkC hkind hlay hi ((hty j hj).trans (by rw [hd])) hn hfit
  refine va_WputK C.1.1 C.1.2.1 (f := f) C.1.2.2.2.1 (va_Nw.use rfl hlink) (hsame _ hi) hst (by rw [q2]; exact h6) q1 q3 (by rw [hsl]; exact k2_hasslot (q4 j hj)) rfl rfl d fun H' e1 e2 e3 => ?_
  rw [hsl] at e1 ⊢
  exact kk H' _ ls (h3 H' ⟨_, hc, t_OB.to (V := updV (vp_V fs) j v) ⟨_, e1, q2, q3, t_set q4 hap hj v⟩ (fun i _ => vp_updV_set h2 v i)⟩ e2 e3) (hS.put e2 e3 hA) hl
theorem v_putF (C : cx p s m args meth c cc nL Ts own D tys z0 A) {ref Cn : String} {T : u_T} {N ci i a j : Nat} {v : Value} {ty : FieldType} {x' : σ} (d : decode cc pc = .ok (.putfield i, 3)) (hin : ∀ w ∈ u_ws Cn T N, w ∈ Ts) (ty0 : Nat → FieldType) (hty : ∀ k, k < N → parseFieldDescriptor (T k).2.2.1 = some (ty0 k)) (hnm : ∀ a, a < N → ∀ b, b < N → a ≠ b → (T a).2.1 ≠ (T b).2.1) (hc : vwCl[ci]? = some (Cn, T, N)) (hj : j < N) (hlink : Cond.fieldLink own i ref (T j).2.1 (T j).2.2.1 ∈ Ts) (hsame : ∀ x, s.fieldFound? (T j).1 (T j).2.1 (T j).2.2.1 = some x → s.fieldFound? ref (T j).2.1 (T j).2.2.1 = some x)
    (hfin : (T j).2.2.2 = true) (hin2 : meth.name = "<init>") (hdecl : (T j).1 = own) (hd : ty0 j = ty) (hn : narrow ty v = v) (hfit : fits ty v = true) (g : pO D pic A x ci a j v x')
    (kk : vv pic A nL p l e R s m args below meth c Q x' k n (pc + 3) lv st) : vv pic A nL p l e R s m args below meth c Q x k n pc lv (v :: .ref a :: st) := by
  intro H locs ls hP hS hl
  obtain ⟨hA, fs, h1, h2, h3⟩ := g H hP
  have hts := C.1.2.2.2.2
  have hown := C.1.2.2.2.1
  have hK := C.2.1.1
  have hap := va_apart (own := own) hts hin ty0 hty hnm hK hc
  obtain ⟨r, e1, cell, q1, q2, q3, q4⟩ := h1
  have hr : r = (Cn, T, N) := Option.some.inj (e1.symm.trans hc)
  subst hr
  obtain ⟨hS9, hfc, kC, hkC, hkind⟩ := hK.1 ci _ hc
  obtain ⟨cf, kf, fi, f, hi, hsl⟩ := hS9 j hj
  have hlay := hts _ (hin _ (u_in_lay hj))
  unfold u_lay at hlay
  rw [if_pos hfin] at hlay
  have hst := (u_facts hfc hkC (u_lays hts hin hj) hi).1
  have hcf : m.cls = cf := by
    obtain ⟨_, _, c', _, _, _, -, -, hf', -, -, -, hown2, -⟩ := Cond.laysFinal_spec hlay
    have e1 : c' = cf := by have := hi.symm.trans hf'; simp at this; exact this.1.symm
    rw [hdecl] at hown2
    rw [← e1]; exact Option.some.inj (hown.symm.trans hown2)
  have h6 := u_fits hfc hkC hkind (Or.inr hlay) hi ((hty j hj).trans (by rw [hd])) hn hfit
  refine W.putFinK C.1.1 C.1.2.1 hown (hts _ hlink) (hsame _ hi) hst hcf hin2 (by rw [q2]; exact h6) q1 q3 (by rw [hsl]; exact k2_hasslot (q4 j hj)) rfl rfl d fun H' e1 e2 e3 => ?_
  rw [hsl] at e1 ⊢
  exact kk H' _ ls (h3 H' ⟨_, hc, t_OB.to (V := updV (vp_V fs) j v) ⟨_, e1, q2, q3, t_set q4 hap hj v⟩ (fun i _ => vp_updV_set h2 v i)⟩ e2 e3) (hS.put e2 e3 hA) hl
theorem v_iald (C : cx p s m args meth c cc nL Ts own D tys z0 A) {cA : ClassId} {a N : Nat} {f : Nat → Int32} {i : Int32} (d : decode cc pc = .ok (.iaload, 1)) (t0 : Nat) (ht : tys[t0]? = some (cA, .int)) (g : gA pic x cA a (N, .inl f)) (hi : vp_in i N) (kk : vv pic A nL p l e R s m args below meth c Q x k n (pc + 1) lv (.int (f i.toNatClampNeg) :: st)) : vv pic A nL p l e R s m args below meth c Q x k n pc lv (.int i :: .ref a :: st) := fun H locs ls hP hS hl => va_iald C.1.1 C.1.2.1 C.2.1.1 (ws := [(a, .inl (cA, (N, .inl f)))]) (fun i q hq => by
    cases i with
    | zero => cases hq; exact g H hP
    | succ i => simp at hq) 0 t0 rfl ht hi d (kk H locs ls hP hS hl)
theorem v_cald (C : cx p s m args meth c cc nL Ts own D tys z0 A) {cA : ClassId} {a N : Nat} {f : Nat → Int32} {i : Int32} (d : decode cc pc = .ok (.caload, 1)) (t0 : Nat) (ht : tys[t0]? = some (cA, .char)) (g : gA pic x cA a (N, .inl f)) (hi : vp_in i N) (kk : vv pic A nL p l e R s m args below meth c Q x k n (pc + 1) lv (.int (f i.toNatClampNeg) :: st)) : vv pic A nL p l e R s m args below meth c Q x k n pc lv (.int i :: .ref a :: st) := fun H locs ls hP hS hl => va_cald C.1.1 C.1.2.1 C.2.1.1 (ws := [(a, .inl (cA, (N, .inl f)))]) (fun i q hq => by
    cases i with
    | zero => cases hq; exact g H hP
    | succ i => simp at hq) 0 t0 rfl ht hi d (kk H locs ls hP hS hl)
theorem v_zald (C : cx p s m args meth c cc nL Ts own D tys z0 A) {cA : ClassId} {a N : Nat} {f : Nat → Int32} {i : Int32} (d : decode cc pc = .ok (.baload, 1)) (t0 : Nat) (ht : tys[t0]? = some (cA, .boolean)) (g : gA pic x cA a (N, .inl f)) (hi : vp_in i N) (kk : vv pic A nL p l e R s m args below meth c Q x k n (pc + 1) lv (.int (f i.toNatClampNeg) :: st)) : vv pic A nL p l e R s m args below meth c Q x k n pc lv (.int i :: .ref a :: st) := fun H locs ls hP hS hl => va_zald C.1.1 C.1.2.1 C.2.1.1 (ws := [(a, .inl (cA, (N, .inl f)))]) (fun i q hq => by
    cases i with
    | zero => cases hq; exact g H hP
    | succ i => simp at hq) 0 t0 rfl ht hi d (kk H locs ls hP hS hl)
theorem v_lald (C : cx p s m args meth c cc nL Ts own D tys z0 A) {cA : ClassId} {a N : Nat} {f : Nat → Int64} {i : Int32} (d : decode cc pc = .ok (.laload, 1)) (t0 : Nat) (ht : tys[t0]? = some (cA, .long)) (g : gA pic x cA a (N, .inr (.inl f))) (hi : vp_in i N) (kk : vv pic A nL p l e R s m args below meth c Q x k n (pc + 1) lv (.long (f i.toNatClampNeg) :: st)) : vv pic A nL p l e R s m args below meth c Q x k n pc lv (.int i :: .ref a :: st) := fun H locs ls hP hS hl => va_lald C.1.1 C.1.2.1 C.2.1.1 (ws := [(a, .inl (cA, (N, .inr (.inl f))))]) (fun i q hq => by
    cases i with
    | zero => cases hq; exact g H hP
    | succ i => simp at hq) 0 t0 rfl ht hi d (kk H locs ls hP hS hl)
theorem v_aald (C : cx p s m args meth c cc nL Ts own D tys z0 A) {cA : ClassId} {Cn : String} {a N : Nat} {f : Nat → Option Nat} {i : Int32} {w : Option Nat} (d : decode cc pc = .ok (.aaload, 1)) (t0 : Nat) (ht : tys[t0]? = some (cA, .object Cn)) (g : gA pic x cA a (N, .inr (.inr (.inr (.inr f))))) (hi : vp_in i N) (hw : f i.toNatClampNeg = w) (kk : vv pic A nL p l e R s m args below meth c Q x k n (pc + 1) lv (va_rf w :: st)) : vv pic A nL p l e R s m args below meth c Q x k n pc lv (.int i :: .ref a :: st) := by
  subst hw
  exact fun H locs ls hP hS hl => va_aldq C.1.1 C.1.2.1 C.2.1.1 (ws := [(a, .inl (cA, (N, .inr (.inr (.inr (.inr f))))))]) (fun i q hq => by
    cases i with
    | zero => cases hq; exact g H hP
    | succ i => simp at hq) 0 t0 rfl ht hi d (kk H locs ls hP hS hl)
theorem v_alen (C : cx p s m args meth c cc nL Ts own D tys z0 A) {cA : ClassId} {ty : FieldType} {a : Nat} {y : vp_A} {v : Int32} (d : decode cc pc = .ok (.arraylength, 1)) (t0 : Nat) (ht : tys[t0]? = some (cA, ty)) (g : gA pic x cA a y) (hv : Int32.ofNat y.1 = v) (kk : vv pic A nL p l e R s m args below meth c Q x k n (pc + 1) lv (.int v :: st)) : vv pic A nL p l e R s m args below meth c Q x k n pc lv (.ref a :: st) := fun H locs ls hP hS hl => va_alen C.1.1 C.1.2.1 C.2.1.1 (ws := [(a, .inl (cA, y))]) (fun i q hq => by
    cases i with
    | zero => cases hq; exact g H hP
    | succ i => simp at hq) 0 t0 rfl ht hv d (kk H locs ls hP hS hl)
theorem v_iast (C : cx p s m args meth c cc nL Ts own D tys z0 A) {cA : ClassId} {a N : Nat} {f : Nat → Int32} {i v : Int32} {x' : σ} (d : decode cc pc = .ok (.iastore, 1)) (t0 : Nat) (ht : tys[t0]? = some (cA, .int)) (hi : vp_in i N) (g : pA pic A x cA a (N, .inl f) (N, .inl (upd f i.toNatClampNeg v)) x') (kk : vv pic A nL p l e R s m args below meth c Q x' k n (pc + 1) lv st) : vv pic A nL p l e R s m args below meth c Q x k n pc lv (.int v :: .int i :: .ref a :: st) := by
  intro H locs ls hP hS hl
  obtain ⟨hA, h1, h3⟩ := g H hP
  refine W.iast C.1.1 C.1.2.1 h1 ((C.2.1.1.2 t0 _ ht).1 N (fun j => .int (f j))) (fun q => by cases q) (by show ¬ (i < 0 ∨ (arrV _ _ _).slots.size ≤ _); rw [arrV_size]; exact hi) rfl rfl d fun H1 e z oq => ?_
  refine kk H1 _ ls (h3 H1 ?_ z oq) (hS.put z oq hA) hl
  rw [e]
  rw [vp_cell_i, vp_cell_i, arrV_store]
  congr 2
  funext q
  by_cases hq : q = i.toNatClampNeg
  · subst hq
    simp [updV, upd, vp_nar]
    try rfl
  · simp [updV, upd, hq]
theorem v_cast (C : cx p s m args meth c cc nL Ts own D tys z0 A) {cA : ClassId} {a N : Nat} {f : Nat → Int32} {i v : Int32} {x' : σ} (d : decode cc pc = .ok (.castore, 1)) (t0 : Nat) (ht : tys[t0]? = some (cA, .char)) (hi : vp_in i N) (g : pA pic A x cA a (N, .inl f) (N, .inl (upd f i.toNatClampNeg (vp_nar .char v))) x') (kk : vv pic A nL p l e R s m args below meth c Q x' k n (pc + 1) lv st) : vv pic A nL p l e R s m args below meth c Q x k n pc lv (.int v :: .int i :: .ref a :: st) := by
  intro H locs ls hP hS hl
  obtain ⟨hA, h1, h3⟩ := g H hP
  refine W.cast C.1.1 C.1.2.1 h1 ((C.2.1.1.2 t0 _ ht).1 N (fun j => .int (f j))) (fun q => by cases q) (by show ¬ (i < 0 ∨ (arrV _ _ _).slots.size ≤ _); rw [arrV_size]; exact hi) rfl rfl d fun H1 e z oq => ?_
  refine kk H1 _ ls (h3 H1 ?_ z oq) (hS.put z oq hA) hl
  rw [e]
  rw [vp_cell_i, vp_cell_i, arrV_store]
  congr 2
  funext q
  by_cases hq : q = i.toNatClampNeg
  · subst hq
    simp [updV, upd, vp_nar]
    try rfl
  · simp [updV, upd, hq]
theorem v_zast (C : cx p s m args meth c cc nL Ts own D tys z0 A) {cA : ClassId} {a N : Nat} {f : Nat → Int32} {i v : Int32} {x' : σ} (d : decode cc pc = .ok (.bastore, 1)) (t0 : Nat) (ht : tys[t0]? = some (cA, .boolean)) (hi : vp_in i N) (g : pA pic A x cA a (N, .inl f) (N, .inl (upd f i.toNatClampNeg (vp_nar .boolean v))) x') (kk : vv pic A nL p l e R s m args below meth c Q x' k n (pc + 1) lv st) : vv pic A nL p l e R s m args below meth c Q x k n pc lv (.int v :: .int i :: .ref a :: st) := by
  intro H locs ls hP hS hl
  obtain ⟨hA, h1, h3⟩ := g H hP
  refine W.zast C.1.1 C.1.2.1 h1 ((C.2.1.1.2 t0 _ ht).1 N (fun j => .int (f j))) (fun q => by cases q) (by show ¬ (i < 0 ∨ (arrV _ _ _).slots.size ≤ _); rw [arrV_size]; exact hi) rfl rfl d fun H1 e z oq => ?_
  refine kk H1 _ ls (h3 H1 ?_ z oq) (hS.put z oq hA) hl
  rw [e]
  rw [vp_cell_i, vp_cell_i, arrV_store]
  congr 2
  funext q
  by_cases hq : q = i.toNatClampNeg
  · subst hq
    simp [updV, upd, vp_nar]
    try rfl
  · simp [updV, upd, hq]
theorem v_last (C : cx p s m args meth c cc nL Ts own D tys z0 A) {cA : ClassId} {a N : Nat} {f : Nat → Int64} {i : Int32} {v : Int64} {x' : σ} (d : decode cc pc = .ok (.lastore, 1)) (t0 : Nat) (ht : tys[t0]? = some (cA, .long)) (hi : vp_in i N) (g : pA pic A x cA a (N, .inr (.inl f)) (N, .inr (.inl (vp_updL f i.toNatClampNeg v))) x') (kk : vv pic A nL p l e R s m args below meth c Q x' k n (pc + 1) lv st) : vv pic A nL p l e R s m args below meth c Q x k n pc lv (.long v :: .int i :: .ref a :: st) := by
  intro H locs ls hP hS hl
  obtain ⟨hA, h1, h3⟩ := g H hP
  refine W.last C.1.1 C.1.2.1 h1 ((C.2.1.1.2 t0 _ ht).1 N (fun j => .long (f j))) (fun q => by cases q) (by show ¬ (i < 0 ∨ (arrV _ _ _).slots.size ≤ _); rw [arrV_size]; exact hi) rfl rfl d fun H1 e z oq => ?_
  refine kk H1 _ ls (h3 H1 ?_ z oq) (hS.put z oq hA) hl
  rw [e]
  rw [vp_cell_l, vp_cell_l, arrV_store]
  congr 2
  funext q
  by_cases hq : q = i.toNatClampNeg
  · subst hq
    simp [updV, vp_updL]
  · simp [updV, vp_updL, hq]
end VV
