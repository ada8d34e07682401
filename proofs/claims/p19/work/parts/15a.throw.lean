/-! ===== throw new E("text") in FieldScribe ===== -/
abbrev xnm : List String := ["java/lang/RuntimeException", "java/lang/Exception"]
abbrev xIAE : String := "java/lang/IllegalArgumentException"
abbrev xISE : String := "java/lang/IllegalStateException"
abbrev xIOO : String := "java/lang/IndexOutOfBoundsException"
abbrev wgIAE : List Cond := (vx_atS RX11 62 xIAE xnm).filter goodWord
abbrev wgISE : List Cond := (vx_atS RX11 73 xISE xnm).filter goodWord
abbrev wgIOO : List Cond := (vx_atS RX11 87 xIOO xnm).filter goodWord
abbrev xwl (E : String) : List Cond := [.castable E E, .declares (Bundle.initS "java/lang/RuntimeException"), .declares (Bundle.initS "java/lang/Exception"), .declares (Bundle.initS Bundle.tN)]
theorem wbIAE : ∀ w ∈ (vx_atS RX11 62 xIAE xnm).filter (fun w => !goodWord w), w ∈ xwl xIAE := by decide +kernel
theorem wbISE : ∀ w ∈ (vx_atS RX11 73 xISE xnm).filter (fun w => !goodWord w), w ∈ xwl xISE := by decide +kernel
theorem wbIOO : ∀ w ∈ (vx_atS RX11 87 xIOO xnm).filter (fun w => !goodWord w), w ∈ xwl xIOO := by decide +kernel
theorem woIAE : ∀ w ∈ Cond.classLink RX11 58 xIAE :: Cond.initialized xIAE :: vx_atS RX11 62 xIAE xnm, vx_ot w = true := by decide +kernel
theorem woISE : ∀ w ∈ Cond.classLink RX11 69 xISE :: Cond.initialized xISE :: vx_atS RX11 73 xISE xnm, vx_ot w = true := by decide +kernel
theorem woIOO : ∀ w ∈ Cond.classLink RX11 83 xIOO :: Cond.initialized xIOO :: vx_atS RX11 87 xIOO xnm, vx_ot w = true := by decide +kernel
/-- a picture that stands when cells are added -/
def gS {σ : Type} (pic : σ → Heap → Prop) : Prop := ∀ x H H', pic x H → H.size ≤ H'.size → (∀ q : Nat, q < H.size → H'[q]? = H[q]?) → pic x H'
theorem gS_F {D : va_G} {cC : ClassId} {A : Nat → Prop} : gS (picF D cC A) := by
  intro x H H' hP h1 h2
  obtain ⟨ar, ln, g, h3, ⟨h4, h5, h6, h7⟩⟩ := hP
  exact ⟨ar, ln, g, h3, ⟨fun a e h => ⟨(h4 a e h).1, (h4 a e h).2.kept (h2 a (h4 a e h).2.lt)⟩, fun t a h => by
    obtain ⟨b1, b2, b3, b4, b5⟩ := h5 t a h
    exact ⟨b1, b2, b3.kept (h2 t b3.lt), b4.kept (h2 a b4.lt), b5⟩, h6, h7⟩⟩
section VT
variable {p : Program} {l : Launch} {e : Env} {R : Room} {s : State} {m : MethodId} {args : Array Value} {below : List Frame} {meth : Method} {c : Code} {Q : State → Prop}
variable {σ : Type} {pic : σ → Heap → Prop} {A : Nat → Prop} {D : va_G} {tys : List (ClassId × FieldType)} {z0 : Nat} {cc : ByteArray} {nL : Nat} {Ts : List Cond} {own : String}
variable {x : σ} {k n pc : Nat} {lv : List (Nat × Value)} {st : List Value}
theorem v_throwS {Qc : Array Value → State → Outcome → State → Prop} {px : String → σ → Prop} {mc ms : Nat} (C : cx p s m args meth c cc nL Ts RX11 D tys z0 A) (hl : l.stackTraces = false) {cls text : String} {ik is ic : Nat} (i : Nat) (hi : nwl[i]? = some (.castable cls cls)) (hfit : Bundle.fit cls = true) (hk : Cond.classLink RX11 ik cls ∈ Ts) (hini : Cond.initialized cls ∈ Ts) (hs : (is, text) ∈ stl) (hw : ∀ w ∈ (vx_atS RX11 ic cls xnm).filter goodWord, w ∈ Ts) (hb : ∀ w ∈ (vx_atS RX11 ic cls xnm).filter (fun w => !goodWord w), w ∈ xwl cls) (hgood : ∀ w ∈ Cond.classLink RX11 ik cls :: Cond.initialized cls :: vx_atS RX11 ic cls xnm, vx_ot w = true)
    (d0 : decode cc pc = .ok (.new ik, 3)) (d3 : decode cc (pc + 3) = .ok (.dup, 1)) (d4 : decode cc (pc + 4) = .ok (.ldc is, 2)) (d6 : decode cc (pc + 6) = .ok (.invokespecial ic, 3)) (d9 : decode cc (pc + 9) = .ok (.athrow, 1)) (hex : ∀ z ∈ c.exceptionTable.toList, False) (hRf : 5 < R.frames) (hRl : 82 ≤ R.locals) (hRc : k + 1 ≤ R.cells) (hRs : n + 6 ≤ R.slots) (hc : k + 1 ≤ mc) (hm : n + 6 ≤ ms) (hg : gS pic) (h : px cls x) :
    vv pic A nL p l e R s m args below meth c (vx_MQ below Qc (xX pic A px) args s mc ms A) x k n pc lv [] := by
  intro H locs ls hP hS hl9
  have hts := C.1.2.2.2.2
  obtain ⟨sa, hsa⟩ := C.2.1.2.2.2.2.2.2.2.1 _ hs
  refine vx_throwS (names := xnm) C.1.1 C.1.2.1 hl C.1.2.2.2.1 hfit (by decide +kernel) (hts _ hk) (hts _ hini) hsa (vx_hat (fun w hw9 => hts w (hw w hw9)) hb (vx_c (va_Nw.use rfl (v_nw C i hi)) (vx_c (va_Nw.use rfl (v_nw C 40 rfl)) (vx_c (va_Nw.use rfl (v_nw C 41 rfl)) (vx_c (va_Nw.use rfl (v_nw C 42 rfl)) vx_n))))) hgood C.2.1.2.2.1 C.2.1.2.2.2.1 hS (hl9.1.trans C.1.2.2.1.symm) d0 d3 d4 d6 d9 (fun z hz => absurd (hex z hz) (fun h => h)) (by simpa using hRf) (by simpa using hRl) hRc hRs C.2.2 (fun t _ h1 h2 => ⟨x, trivial, ⟨h, hg x H t.heap hP h1 h2⟩, Nat.le_trans hS.1 h1, fun q q1 q2 => (h2 q (Nat.lt_of_lt_of_le q1 hS.1)).trans (hS.2.1 q q1 q2)⟩) hS.2.2 hc hm
end VT
