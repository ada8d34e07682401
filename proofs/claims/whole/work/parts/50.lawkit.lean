/-! ===== the two programs side by side ===== -/
theorem kw.narrow {D : va_G} {tys : List (ClassId × FieldType)} {z0 : Nat} {A A' : Nat → Prop} {U : State} (h : kw D tys z0 A U) (hs : ∀ q, A' q → A q) (hn : ∀ q, U.heap.size ≤ q → A' q) : kw D tys z0 A' U := by
  obtain ⟨h1, h2, h3, h4, h5, h6⟩ := h
  obtain ⟨g1, g2, g3⟩ := h5
  exact ⟨h1, hn, h3.narrow hs, h4.narrow hs, ⟨g1.narrow hs, fun z => g2 (hs _ z), g3⟩, h6⟩
theorem picF_kept {D : va_G} {cC : ClassId} {A : Nat → Prop} {x : fS} {H H1 : Heap} (h : picF D cC A x H) (hq : ∀ q : Nat, q < H.size → A q → H1[q]? = H[q]?) : picF D cC A x H1 := by
  obtain ⟨ar, ln, g, h3, ⟨h4, h5, h6, h7⟩⟩ := h
  exact ⟨ar, ln, g, h3, ⟨fun a e h => ⟨(h4 a e h).1, (h4 a e h).2.kept (hq a (h4 a e h).2.lt (h4 a e h).1)⟩, fun t a h => by
    obtain ⟨b1, b2, b3, b4, b5⟩ := h5 t a h
    exact ⟨b1, b2, b3.kept (hq t b3.lt b1), b4.kept (hq a b4.lt b2), b5⟩, h6, h7⟩⟩
/-- FieldScribe's cells: neither the reference's nor the law's array oa -/
def AF (md oa : Nat) (ad : Nat → Nat) (A : Nat → Prop) (q : Nat) : Prop := A q ∧ q ≠ md ∧ q ≠ oa ∧ ∀ j, isArr j = true → q ≠ ad j
/-- the reference's cells, and new ones -/
def AM (md : Nat) (ad : Nat → Nat) (n q : Nat) : Prop := q = md ∨ (∃ j, isArr j = true ∧ q = ad j) ∨ n ≤ q
abbrev lS : Type := fS × mS × (Nat → Int64)
def picL (D : va_G) (cC cI cZ cJ : ClassId) (md oa : Nat) (ad : Nat → Nat) (A : Nat → Prop) (x : lS) (H : Heap) : Prop :=
  picF D cC (AF md oa ad A) x.1 H ∧ picM D cI cZ md ad A x.2.1 H ∧ (A oa ∧ va_at D vwCl (oa, .inl (cJ, 1, .inr (.inl x.2.2))) H) ∧ oa ≠ md ∧ ∀ j, isArr j = true → oa ≠ ad j
section LK
variable {D : va_G} {cC cI cZ cJ : ClassId} {md oa : Nat} {ad : Nat → Nat} {A : Nat → Prop} {x : fS} {y : mS} {g : Nat → Int64} {H H1 : Heap} {U : State} {tys : List (ClassId × FieldType)} {z0 : Nat}
theorem picM_re {A A' : Nat → Prop} (h : picM D cI cZ md ad A y H) (h1 : A' md) (h2 : ∀ j, isArr j = true → A' (ad j)) : picM D cI cZ md ad A' y H := ⟨⟨h1, h.1.2⟩, fun j hj => ⟨h2 j hj, (h.2.1 j hj).2⟩, h.2.2⟩
theorem picM_kept (h : picM D cI cZ md ad A y H) (h1 : H1[md]? = H[md]?) (h2 : ∀ j, isArr j = true → H1[ad j]? = H[ad j]?) : picM D cI cZ md ad A y H1 := ⟨⟨h.1.1, h.1.2.kept h1⟩, fun j hj => ⟨(h.2.1 j hj).1, (h.2.1 j hj).2.kept (h2 j hj)⟩, h.2.2⟩
theorem L_afterF {x' : fS} (h : picL D cC cI cZ cJ md oa ad A (x, y, g) H) (h1 : picF D cC (AF md oa ad A) x' H1) (hk : ∀ q : Nat, q < H.size → ¬ AF md oa ad A q → H1[q]? = H[q]?) : picL D cC cI cZ cJ md oa ad A (x', y, g) H1 :=
  ⟨h1, picM_kept h.2.1 (hk md h.2.1.1.2.lt (fun z => z.2.1 rfl)) (fun j hj => hk _ (h.2.1.2.1 j hj).2.lt (fun z => z.2.2.2 j hj rfl)), ⟨h.2.2.1.1, h.2.2.1.2.kept (hk oa h.2.2.1.2.lt (fun z => z.2.2.1 rfl))⟩, h.2.2.2⟩
theorem L_afterM {y' : mS} {n : Nat} (h : picL D cC cI cZ cJ md oa ad A (x, y, g) H) (h1 : picM D cI cZ md ad (AM md ad n) y' H1) (hk : ∀ q : Nat, q < H.size → ¬ AM md ad H.size q → H1[q]? = H[q]?) : picL D cC cI cZ cJ md oa ad A (x, y', g) H1 :=
  ⟨picF_kept h.1 (fun q hq hA => hk q hq (fun z => by
    rcases z with z | ⟨j, hj, z⟩ | z
    · exact hA.2.1 z
    · exact hA.2.2.2 j hj z
    · omega)), picM_re h1 h.2.1.1.1 (fun j hj => (h.2.1.2.1 j hj).1), ⟨h.2.2.1.1, h.2.2.1.2.kept (hk oa h.2.2.1.2.lt (fun z => by
    rcases z with z | ⟨j, hj, z⟩ | z
    · exact h.2.2.2.1 z
    · exact h.2.2.2.2 j hj z
    · exact absurd h.2.2.1.2.lt (Nat.not_lt.mpr z)))⟩, h.2.2.2⟩
theorem L_kwF (h : kw D tys z0 A U) (hP : picL D cC cI cZ cJ md oa ad A (x, y, g) U.heap) : kw D tys z0 (AF md oa ad A) U :=
  h.narrow (fun q z => z.1) (fun q hq => ⟨h.2.1 q hq, fun z => absurd hP.2.1.1.2.lt (by rw [← z]; exact Nat.not_lt.mpr hq), fun z => absurd hP.2.2.1.2.lt (by rw [← z]; exact Nat.not_lt.mpr hq), fun j hj z => absurd (hP.2.1.2.1 j hj).2.lt (by rw [← z]; exact Nat.not_lt.mpr hq)⟩)
theorem L_kwM (h : kw D tys z0 A U) (hP : picL D cC cI cZ cJ md oa ad A (x, y, g) U.heap) : kw D tys z0 (AM md ad U.heap.size) U :=
  h.narrow (fun q z => by
    rcases z with z | ⟨j, hj, z⟩ | z
    · rw [z]; exact hP.2.1.1.1
    · rw [z]; exact (hP.2.1.2.1 j hj).1
    · exact h.2.1 q z) (fun q hq => Or.inr (Or.inr hq))
theorem L_picM {n : Nat} (hP : picL D cC cI cZ cJ md oa ad A (x, y, g) H) : picM D cI cZ md ad (AM md ad n) y H := picM_re hP.2.1 (Or.inl rfl) (fun j hj => Or.inr (Or.inl ⟨j, hj, rfl⟩))
theorem L_AM (hP : picL D cC cI cZ cJ md oa ad A (x, y, g) H) (hA : ∀ q, H.size ≤ q → A q) : ∀ q, AM md ad H.size q → A q := fun q z => by
  rcases z with z | ⟨j, hj, z⟩ | z
  · rw [z]; exact hP.2.1.1.1
  · rw [z]; exact (hP.2.1.2.1 j hj).1
  · exact hA q z
theorem L_out : gA (picL D cC cI cZ cJ md oa ad A) (x, y, g) cJ oa (1, .inr (.inl g)) := fun _ hP => hP.2.2.1.2
theorem L_setout (g' : Nat → Int64) : pA (picL D cC cI cZ cJ md oa ad A) A (x, y, g) cJ oa (1, .inr (.inl g)) (1, .inr (.inl g')) (x, y, g') := fun H hP =>
  ⟨hP.2.2.1.1, hP.2.2.1.2, fun H' e1 e2 e3 => ⟨picF_kept hP.1 (fun q _ hA => e3 q hA.2.2.1), picM_kept hP.2.1 (e3 md (Ne.symm hP.2.2.2.1)) (fun j hj => e3 _ (Ne.symm (hP.2.2.2.2 j hj))), ⟨hP.2.2.1.1, e1⟩, hP.2.2.2⟩⟩
theorem L_gC {ci b : Nat} (h : gC D (picF D cC (AF md oa ad A)) x ci b) : gC D (picL D cC cI cZ cJ md oa ad A) (x, y, g) ci b := fun H hP => h H hP.1
end LK
section LR
variable {p : Program} {l : Launch} {e : Env} {R : Room} {s : State} {m : MethodId} {args : Array Value} {below : List Frame} {meth : Method} {c : Code} {Q : State → Prop}
variable {A : Nat → Prop} {D : va_G} {tys : List (ClassId × FieldType)} {z0 : Nat} {cc : ByteArray} {nL : Nat} {Ts : List Cond} {own : String}
variable {k n pc : Nat} {lv : List (Nat × Value)} {st rest : List Value}
variable {cC cI cZ cJ : ClassId} {md oa : Nat} {ad : Nat → Nat} {x : fS} {y : mS} {g : Nat → Int64}
variable {y9 : MethodName} {bytes : ByteArray} {maxL i nA : Nat} {ret : Option FieldType} {ws : List Cond} {rm : Room} {Cn : String} {As : List Value} {b : Nat} {px : String → fS → Prop}
/-- calls of FieldScribe's methods -/
theorem l_iF (C : cx p s m args meth c cc nL Ts own D tys z0 A) {post : Int32 → fS → Prop} {T : u_T} {N ci : Nat} (hM : ct D tys z0 (AF md oa ad A) (picF D cC (AF md oa ad A)) l y9 ws rm (.ref b :: As) x (qI (picF D cC (AF md oa ad A)) (AF md oa ad A) post)) (cw : CallW R s args own Cn i y9 bytes maxL ret ws rm rm.cells rm.slots nA) (hn : As.length = nA) (hc : vwCl[ci]? = some (Cn, T, N)) (hr : gC D (picF D cC (AF md oa ad A)) x ci b) (d : decode cc pc = .ok (.invokevirtual i, 3)) (h8 : (rest.map fun v => v.category).sum ≤ 8) (hst : st = As.reverse ++ .ref b :: rest) (hf : k + rm.cells ≤ R.cells ∧ n + rm.slots ≤ R.slots)
    (kk : ∀ r x', post r x' → vv (picL D cC cI cZ cJ md oa ad A) A nL p l e R s m args below meth c Q (x', y, g) (k + rm.cells) (n + rm.slots) (pc + 3) lv (.int r :: rest)) : vv (picL D cC cI cZ cJ md oa ad A) A nL p l e R s m args below meth c Q (x, y, g) k n pc lv st := by
  subst hst
  exact fun H locs ls hP hS hl => va_calli (va_runV C.1 hM cw ⟨ct_blind, v_recv C hc hr hP.1, fun U hU hW => ⟨rfl, by rw [hU]; exact hP.1, L_kwF (C.2.1.step hS hU hW) (by rw [hU]; exact hP)⟩⟩ rfl hn hl.1 rfl (lv_room h8) d hf) hS (fun _ _ h => h.1) (fun _ h => h.1)
    (fun r u _ H1 locs1 ht _ hp hB _ hk hS1 => kk r u hp H1 locs1 ls (L_afterF hP (by rw [← ht]; exact hB) hk) hS1 hl)
theorem l_vF (C : cx p s m args meth c cc nL Ts own D tys z0 A) {post : fS → Prop} {T : u_T} {N ci : Nat} (hM : ct D tys z0 (AF md oa ad A) (picF D cC (AF md oa ad A)) l y9 ws rm (.ref b :: As) x (qV (picF D cC (AF md oa ad A)) (AF md oa ad A) post)) (cw : CallW R s args own Cn i y9 bytes maxL ret ws rm rm.cells rm.slots nA) (hn : As.length = nA) (hc : vwCl[ci]? = some (Cn, T, N)) (hr : gC D (picF D cC (AF md oa ad A)) x ci b) (d : decode cc pc = .ok (.invokevirtual i, 3)) (h8 : (rest.map fun v => v.category).sum ≤ 8) (hst : st = As.reverse ++ .ref b :: rest) (hf : k + rm.cells ≤ R.cells ∧ n + rm.slots ≤ R.slots)
    (kk : ∀ x', post x' → vv (picL D cC cI cZ cJ md oa ad A) A nL p l e R s m args below meth c Q (x', y, g) (k + rm.cells) (n + rm.slots) (pc + 3) lv rest) : vv (picL D cC cI cZ cJ md oa ad A) A nL p l e R s m args below meth c Q (x, y, g) k n pc lv st := by
  subst hst
  exact fun H locs ls hP hS hl => va_callv (va_runV C.1 hM cw ⟨ct_blind, v_recv C hc hr hP.1, fun U hU hW => ⟨rfl, by rw [hU]; exact hP.1, L_kwF (C.2.1.step hS hU hW) (by rw [hU]; exact hP)⟩⟩ rfl hn hl.1 rfl (lv_room h8) d hf) hS (fun _ _ h => h.1) (fun _ h => h.1)
    (fun u _ H1 locs1 ht _ hp hB _ hk hS1 => kk u hp H1 locs1 ls (L_afterF hP (by rw [← ht]; exact hB) hk) hS1 hl)
theorem l_xF (C : cx p s m args meth c cc nL Ts own D tys z0 A) {post : Int32 → fS → Prop} {T : u_T} {N ci : Nat} (hM : cX D tys z0 (AF md oa ad A) (picF D cC (AF md oa ad A)) l y9 ws rm (.ref b :: As) x (qI (picF D cC (AF md oa ad A)) (AF md oa ad A) post) px) (cw : CallW R s args own Cn i y9 bytes maxL ret ws rm rm.cells rm.slots nA) (hn : As.length = nA) (hc : vwCl[ci]? = some (Cn, T, N)) (hr : gC D (picF D cC (AF md oa ad A)) x ci b) (d : decode cc pc = .ok (.invokevirtual i, 3)) (h8 : (rest.map fun v => v.category).sum ≤ 8) (hst : st = As.reverse ++ .ref b :: rest) (hf : k + rm.cells ≤ R.cells ∧ n + rm.slots ≤ R.slots)
    (kx : ∀ E x', px E x' → vt (picL D cC cI cZ cJ md oa ad A) A nL p l e R s m args below meth c Q (x', y, g) (k + rm.cells) (n + rm.slots) pc lv rest E)
    (kk : ∀ r x', post r x' → vv (picL D cC cI cZ cJ md oa ad A) A nL p l e R s m args below meth c Q (x', y, g) (k + rm.cells) (n + rm.slots) (pc + 3) lv (.int r :: rest)) : vv (picL D cC cI cZ cJ md oa ad A) A nL p l e R s m args below meth c Q (x, y, g) k n pc lv st := by
  subst hst
  exact fun H locs ls hP hS hl => vx_calli (vx_runV C.1 hM cw ⟨ct_blind, v_recv C hc hr hP.1, fun U hU hW => ⟨rfl, by rw [hU]; exact hP.1, L_kwF (C.2.1.step hS hU hW) (by rw [hU]; exact hP)⟩⟩ rfl hn hl.1 rfl (lv_room h8) d hf) hS (fun _ _ h => h.1) (fun _ h => h.1) (fun _ _ h => h.1)
    (fun E ce q9 u _ H1 locs1 ht _ _ hB _ hk hS1 hq hv hcl => kx E u hB.1 H1 locs1 ls q9 ce (L_afterF hP (by rw [← ht]; exact hB.2) hk) hS1 hl hq hv hcl)
    (fun r u _ H1 locs1 ht _ hp hB _ hk hS1 => kk r u hp H1 locs1 ls (L_afterF hP (by rw [← ht]; exact hB) hk) hS1 hl)
/-- calls of the reference's methods -/
theorem l_iM (C : cx p s m args meth c cc nL Ts own D tys z0 A) {post : Int32 → mS → Prop} (hM : ∀ n9, ct D tys z0 (AM md ad n9) (picM D cI cZ md ad (AM md ad n9)) l y9 ws rm (.ref md :: As) y (qI (picM D cI cZ md ad (AM md ad n9)) (AM md ad n9) post)) (cw : CallW R s args own RX12 i y9 bytes maxL ret ws rm rm.cells rm.slots nA) (hn : As.length = nA) (d : decode cc pc = .ok (.invokevirtual i, 3)) (h8 : (rest.map fun v => v.category).sum ≤ 8) (hst : st = As.reverse ++ .ref md :: rest) (hf : k + rm.cells ≤ R.cells ∧ n + rm.slots ≤ R.slots)
    (kk : ∀ r y', post r y' → vv (picL D cC cI cZ cJ md oa ad A) A nL p l e R s m args below meth c Q (x, y', g) (k + rm.cells) (n + rm.slots) (pc + 3) lv (.int r :: rest)) : vv (picL D cC cI cZ cJ md oa ad A) A nL p l e R s m args below meth c Q (x, y, g) k n pc lv st := by
  subst hst
  intro H locs ls hP hS hl
  have hA : ∀ q, H.size ≤ q → A q := fun q hq => C.2.1.2.1 q (Nat.le_trans hS.1 hq)
  exact va_calli (va_runV C.1 (hM H.size) cw ⟨ct_blind, v_recv C (T := TX12) (N := 34) (ci := 12) rfl M_gC hP.2.1, fun U hU hW => ⟨rfl, by rw [hU]; exact L_picM hP, by
      have h9 := L_kwM (C.2.1.step hS hU hW) (by rw [hU]; exact hP)
      rw [hU] at h9
      exact h9⟩⟩ rfl hn hl.1 rfl (lv_room h8) d hf) hS (fun q _ h => L_AM hP hA q h) (fun q h => L_AM hP hA q h)
    (fun r u _ H1 locs1 ht _ hp hB _ hk hS1 => kk r u hp H1 locs1 ls (L_afterM (n := H.size) hP (by rw [← ht]; exact hB) hk) hS1 hl)
theorem l_vM (C : cx p s m args meth c cc nL Ts own D tys z0 A) {post : mS → Prop} (hM : ∀ n9, ct D tys z0 (AM md ad n9) (picM D cI cZ md ad (AM md ad n9)) l y9 ws rm (.ref md :: As) y (qV (picM D cI cZ md ad (AM md ad n9)) (AM md ad n9) post)) (cw : CallW R s args own RX12 i y9 bytes maxL ret ws rm rm.cells rm.slots nA) (hn : As.length = nA) (d : decode cc pc = .ok (.invokevirtual i, 3)) (h8 : (rest.map fun v => v.category).sum ≤ 8) (hst : st = As.reverse ++ .ref md :: rest) (hf : k + rm.cells ≤ R.cells ∧ n + rm.slots ≤ R.slots)
    (kk : ∀ y', post y' → vv (picL D cC cI cZ cJ md oa ad A) A nL p l e R s m args below meth c Q (x, y', g) (k + rm.cells) (n + rm.slots) (pc + 3) lv rest) : vv (picL D cC cI cZ cJ md oa ad A) A nL p l e R s m args below meth c Q (x, y, g) k n pc lv st := by
  subst hst
  intro H locs ls hP hS hl
  have hA : ∀ q, H.size ≤ q → A q := fun q hq => C.2.1.2.1 q (Nat.le_trans hS.1 hq)
  exact va_callv (va_runV C.1 (hM H.size) cw ⟨ct_blind, v_recv C (T := TX12) (N := 34) (ci := 12) rfl M_gC hP.2.1, fun U hU hW => ⟨rfl, by rw [hU]; exact L_picM hP, by
      have h9 := L_kwM (C.2.1.step hS hU hW) (by rw [hU]; exact hP)
      rw [hU] at h9
      exact h9⟩⟩ rfl hn hl.1 rfl (lv_room h8) d hf) hS (fun q _ h => L_AM hP hA q h) (fun q h => L_AM hP hA q h)
    (fun u _ H1 locs1 ht _ hp hB _ hk hS1 => kk u hp H1 locs1 ls (L_afterM (n := H.size) hP (by rw [← ht]; exact hB) hk) hS1 hl)
/-- a static call of a method with a table -/
theorem l_cS {σ : Type} {pic : σ → Heap → Prop} {x : σ} (C : cx p s m args meth c cc nL Ts own D tys z0 A) {post : Int32 → σ → Prop} {hh : List (Nat × Nat × Nat × Nat)} (hM : ct D tys z0 A pic l y9 ws rm As x (qI pic A post)) (cw : vx_CSW R s args own i y9 bytes maxL ret hh ws rm rm.cells rm.slots nA) (hn : As.length = nA) (d : decode cc pc = .ok (.invokestatic i, 3)) (h8 : (rest.map fun v => v.category).sum ≤ 8) (hst : st = As.reverse ++ rest) (hf : k + rm.cells ≤ R.cells ∧ n + rm.slots ≤ R.slots)
    (kk : ∀ r x', post r x' → vv pic A nL p l e R s m args below meth c Q x' (k + rm.cells) (n + rm.slots) (pc + 3) lv (.int r :: rest)) : vv pic A nL p l e R s m args below meth c Q x k n pc lv st := by
  subst hst
  exact fun H locs ls hP hS hl => va_calli (vx_runSW C.1 hM cw ⟨ct_blind, fun U hU hW => ⟨rfl, by rw [hU]; exact hP, C.2.1.step hS hU hW⟩⟩ rfl hn hl.1 rfl (lv_room h8) d hf) hS (fun _ _ h => h) (fun _ h => h)
    (fun r u _ H1 locs1 ht _ hp hB _ _ hS1 => kk r u hp H1 locs1 ls (by rw [← ht]; exact hB) hS1 hl)
/-- a method with a table: from its body to its contract -/
theorem ct_ofH {σ : Type} {pic : σ → Heap → Prop} {x : σ} {y : MethodName} {ws ws' : List Cond} {rm : Room} {maxL : Nat} {ret : Option FieldType} {hh : List (Nat × Nat × Nat × Nat)} {av : List Value} {Qc : Array Value → State → Outcome → State → Prop} (own : String) (hy : plainName y.cls = true) (hcl : y.cls = own) (hw : ws = Cond.codeWith y cc maxL ret hh :: ws') (hn : (lg_sl av).length ≤ maxL)
    (body : ∀ p e s m below meth c, cx p s m av.toArray meth c cc maxL ws own D tys z0 A → meth.sig.returnType = ret → c.exceptionTable.toList = tableOf hh → vv pic A maxL p l e rm s m av.toArray below meth c (MQ below Qc av.toArray s rm.cells rm.slots A) x 0 0 0 (lv_args 0 av) []) : ct D tys z0 A pic l y ws rm av x Qc := by
  show MetFree l y (headSpec ws rm) (va_Pc av (fun U => pic x U.heap ∧ kw D tys z0 A U)) (fun _ _ _ _ _ => True) (fun a st o t => Qc a st o t ∧ ∃ L, FrameEnd st o t L rm.cells rm.slots ∧ ∀ q ∈ L, A q.base)
  refine MetFree.of_bodyS (code := cc) (maxLocals := maxL) (ret := ret) hy ?_ ?_
  · intro args s m h hn
    obtain ⟨m9, meth, c, hn9, h1, h2, h3, h4, -, h5, h6, -⟩ := Cond.codeWith_spec (atoms_spec (ws := ws) h _ (by rw [hw]; exact List.mem_cons_self))
    cases hn.symm.trans hn9
    exact ⟨meth, c, h1, h2, h3, h4, h5, h6⟩
  · intro p e s m args below meth c s₁ B hml hv _
    obtain ⟨rfl, hP, hK⟩ := hv
    have hh0 : s₁.heap = s.heap := by rw [B.state]; rfl
    have hts := atoms_spec (ws := ws) B.pre
    have hown : s.vm.findClass own = some m.cls := by rw [← hcl]; exact findClass_of_methodNamed B.named
    have hT : c.exceptionTable.toList = tableOf hh := vx_table (x := y) B (hts _ (by rw [hw]; exact List.mem_cons_self))
    have K := body p e s m below meth c ⟨⟨B.exec, B.bytes, hml, hown, hts⟩, hK, B.notSynchronized⟩ B.returns hT s.heap [] _ hP va_S.rf (lv_entry av hn)
    rw [← lg_entry_eq] at K
    obtain ⟨t, a1, o, b1, b2, b3⟩ := K s₁ hh0 (Stand.of_body B)
    exact ⟨t, o, a1, b1, b2, ⟨b3.1, b3.2⟩⟩
/-- caught here -/
theorem v_catch {σ : Type} {pic : σ → Heap → Prop} {x : σ} (C : cx p s m args meth c cc nL Ts own D tys z0 A) {E : String} (pre : List ExceptionTableEntry) (xh : ExceptionTableEntry) (suf : List ExceptionTableEntry) (hsplit : c.exceptionTable.toList = pre ++ xh :: suf) (hpass : ∀ z ∈ pre, z.catchType ≠ 0 ∧ ∃ nm : String, Cond.classLink own z.catchType nm ∈ Ts ∧ va_Nc E nm s) (hx : covers xh pc = true) (h0 : xh.catchType ≠ 0) (hlink : Cond.classLink own xh.catchType E ∈ Ts) (hcast : va_Nw (.castable E E) s)
    (kk : ∀ q, vv pic A nL p l e R s m args below meth c Q x k n xh.handlerPc lv [.ref q]) : vt pic A nL p l e R s m args below meth c Q x k n pc lv rest E :=
  fun H locs ls q ce hP hS hl hq hv hcl => vx_catch C.1.2.2.2.1 pre xh suf hsplit (fun z hz => by
    obtain ⟨h1, nm, h2, h3⟩ := hpass z hz
    exact Or.inr ⟨h1, nm, C.1.2.2.2.2 _ h2, h3⟩) hx h0 (C.1.2.2.2.2 _ hlink) (va_Nw.use rfl hcast) hq hv hcl (kk q H locs ls hP hS hl)
theorem v_ncl (C : cx p s m args meth c cc nL Ts own D tys z0 A) {a b : String} (i : Nat) (h : ncl[i]? = some (a, b)) : va_Nc a b s := C.2.1.2.2.2.2.2.2.1 _ (List.mem_of_getElem? h)
/-- the script -/
theorem v_sld {σ : Type} {pic : σ → Heap → Prop} {x : σ} (C : cx p s m args meth c cc nL Ts own D tys z0 A) {b L : Nat} {xs : Nat → Int32} (hX : va_X b L xs s s.heap) (hbl : b < s.heap.size) (hbA : ¬ A b) {i : Int32} (hin : vp_in i L) (d : decode cc pc = .ok (.iaload, 1)) (kk : vv pic A nL p l e R s m args below meth c Q x k n (pc + 1) lv (.int (xs i.toNatClampNeg) :: st)) : vv pic A nL p l e R s m args below meth c Q x k n pc lv (.int i :: .ref b :: st) :=
  fun H locs ls hP hS hl => va_sld C.1.1 C.1.2.1 hX hbl hbA hS hin d (kk H locs ls hP hS hl)
theorem v_slen {σ : Type} {pic : σ → Heap → Prop} {x : σ} (C : cx p s m args meth c cc nL Ts own D tys z0 A) {b L : Nat} {xs : Nat → Int32} (hX : va_X b L xs s s.heap) (hbl : b < s.heap.size) (hbA : ¬ A b) (d : decode cc pc = .ok (.arraylength, 1)) (kk : vv pic A nL p l e R s m args below meth c Q x k n (pc + 1) lv (.int (nI L) :: st)) : vv pic A nL p l e R s m args below meth c Q x k n pc lv (.ref b :: st) :=
  fun H locs ls hP hS hl => va_slen C.1.1 C.1.2.1 hX hbl hbA hS d (kk H locs ls hP hS hl)
/-- script[i + j], j a constant -/
theorem v_arg {σ : Type} {pic : σ → Heap → Prop} {x : σ} (C : cx p s m args meth c cc nL Ts own D tys z0 A) {b L : Nat} {xs : Nat → Int32} (hX : va_X b L xs s s.heap ∧ b < s.heap.size ∧ ¬ A b ∧ L ≤ 3584) {i j j0 j4 : Nat} {z : Int} (hij : i + j < L) (dA : decode cc pc = .ok (.aload_n 0, 1)) (dB : decode cc (pc + 1) = .ok (.iload 4, 2)) (dC : decode cc (pc + 3) = .ok (.iconst z, 1)) (dD : decode cc (pc + 4) = .ok (.iadd, 1)) (dE : decode cc (pc + 5) = .ok (.iaload, 1)) (hz : Int32.ofInt z = nI j) (h0 : lv[j0]? = some (0, .ref b)) (h4 : lv[j4]? = some (4, .int (nI i)))
    (kk : vv pic A nL p l e R s m args below meth c Q x k n (pc + 6) lv (.int (xs (i + j)) :: st)) : vv pic A nL p l e R s m args below meth c Q x k n pc lv st := by
  obtain ⟨hX1, hX2, hX3, hX4⟩ := hX
  refine v_aload_n C dA h0 rfl ?_
  refine v_iload C dB h4 ?_
  refine v_iconst C dC hz ?_
  refine v_iadd C dD ?_
  refine v_int (b := nI (i + j)) (nI_add i j) ?_
  refine v_sld C hX1 hX2 hX3 (vp_in_nI hij (by omega)) dE ?_
  rw [nI_clamp (by omega)]
  exact kk
theorem v_argb {σ : Type} {pic : σ → Heap → Prop} {x : σ} (C : cx p s m args meth c cc nL Ts own D tys z0 A) {b L : Nat} {xs : Nat → Int32} (hX : va_X b L xs s s.heap ∧ b < s.heap.size ∧ ¬ A b ∧ L ≤ 3584) {i j j0 j4 : Nat} {z : Int} (hij : i + j < L) (dA : decode cc pc = .ok (.aload_n 0, 1)) (dB : decode cc (pc + 1) = .ok (.iload 4, 2)) (dC : decode cc (pc + 3) = .ok (.bipush z, 2)) (dD : decode cc (pc + 5) = .ok (.iadd, 1)) (dE : decode cc (pc + 6) = .ok (.iaload, 1)) (hz : (Int8.ofInt z).toInt32 = nI j) (h0 : lv[j0]? = some (0, .ref b)) (h4 : lv[j4]? = some (4, .int (nI i)))
    (kk : vv pic A nL p l e R s m args below meth c Q x k n (pc + 7) lv (.int (xs (i + j)) :: st)) : vv pic A nL p l e R s m args below meth c Q x k n pc lv st := by
  obtain ⟨hX1, hX2, hX3, hX4⟩ := hX
  refine v_aload_n C dA h0 rfl ?_
  refine v_iload C dB h4 ?_
  refine v_bipush C dC hz ?_
  refine v_iadd C dD ?_
  refine v_int (b := nI (i + j)) (nI_add i j) ?_
  refine v_sld C hX1 hX2 hX3 (vp_in_nI hij (by omega)) dE ?_
  rw [nI_clamp (by omega)]
  exact kk
end LR
