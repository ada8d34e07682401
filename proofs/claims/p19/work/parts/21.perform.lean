/-! ===== the whole object: what it holds; perform ===== -/
theorem wiX11_perform_X0 : ∀ w ∈ u_ws RX0 TX0 4, w ∈ wsX11_perform := by decide +kernel
theorem wfX11_perform_19 : Cond.fieldLink RX11 19 "FieldScribe" (TX11 1).2.1 (TX11 1).2.2.1 ∈ wsX11_perform := by decide +kernel
theorem wiX11_perform_X11 : ∀ w ∈ u_ws RX11 TX11 9, w ∈ wsX11_perform := by decide +kernel
theorem wfX11_perform_205 : Cond.fieldLink RX11 205 "FieldScribe" (TX11 8).2.1 (TX11 8).2.2.1 ∈ wsX11_perform := by decide +kernel
theorem wfX11_perform_33 : Cond.fieldLink RX11 33 "FieldScribe" (TX11 3).2.1 (TX11 3).2.2.1 ∈ wsX11_perform := by decide +kernel
theorem wfX11_perform_51 : Cond.fieldLink RX11 51 "FieldScribe" (TX11 6).2.1 (TX11 6).2.2.1 ∈ wsX11_perform := by decide +kernel
theorem wfX11_perform_26 : Cond.fieldLink RX11 26 "FieldScribe" (TX11 2).2.1 (TX11 2).2.2.1 ∈ wsX11_perform := by decide +kernel
theorem wfX11_perform_121 : Cond.fieldLink RX11 121 "FieldScribe" (TX11 7).2.1 (TX11 7).2.2.1 ∈ wsX11_perform := by decide +kernel
theorem wfX11_perform_40 : Cond.fieldLink RX11 40 "FieldScribe" (TX11 4).2.1 (TX11 4).2.2.1 ∈ wsX11_perform := by decide +kernel
abbrev Ac : Type := Int32 × Int32 × Int32 × Int32 × Int32
abbrev Rl : Type := (Int32 × Int32 × Int32) × Bool × List Ac
/-- the record, the rows, the lines, the faults -/
abbrev WS : Type := List Int32 × RR × List (List Int32) × Int32
def actS (sep rnum : Int32) (w : WS) (c : Ac) : WS :=
  if c.1 = 3 then (w.1, dropR w.2.1 (fld sep w.1 c.2.1.toNatClampNeg), w.2.2.1, w.2.2.2)
  else if c.1 = 0 then (setR sep w.1 c.2.1.toNatClampNeg (exV sep w.1 rnum c.2.2.1 c.2.2.2.1 c.2.2.2.2), w.2.1, w.2.2.1, w.2.2.2 + exG sep w.1 rnum c.2.2.1 c.2.2.2.1 c.2.2.2.2)
  else if c.1 = 1 then (w.1, growR w.2.1 (fld sep w.1 c.2.1.toNatClampNeg) (num (exV sep w.1 rnum c.2.2.1 c.2.2.2.1 c.2.2.2.2)), w.2.2.1, w.2.2.2 + exG sep w.1 rnum c.2.2.1 c.2.2.2.1 c.2.2.2.2 + growF w.2.1 (fld sep w.1 c.2.1.toNatClampNeg) (num (exV sep w.1 rnum c.2.2.1 c.2.2.2.1 c.2.2.2.2)))
  else (w.1, w.2.1, addL w.2.2.1 (exV sep w.1 rnum c.2.2.1 c.2.2.2.1 c.2.2.2.2), w.2.2.2 + exG sep w.1 rnum c.2.2.1 c.2.2.2.1 c.2.2.2.2)
def actsS (sep rnum : Int32) : List Ac → WS → Bool × WS
  | [], w => (true, w)
  | c :: t, w => if c.1 = 4 then (false, w) else actsS sep rnum t (actS sep rnum w c)
/-- the kind of a cell: its class's number, or a hundred and its length -/
def kdn (e : va_E) : Nat := match e with
  | .inl x => 100 + x.2.1
  | .inr x => x.1
/-- only cells of the kinds ns change -/
def kpN (ns : List Nat) (f f' : Nat → Option va_E) : Prop := ∀ p e, f p = some e → kdn e ∉ ns → f' p = some e
theorem kpN.rf {ns : List Nat} {f : Nat → Option va_E} : kpN ns f f := fun _ _ h _ => h
theorem kpN.tr {ns : List Nat} {f f' f'' : Nat → Option va_E} (h : kpN ns f f') (h2 : kpN ns f' f'') : kpN ns f f'' := fun p e hp hk => h2 p e (h p e hp hk) hk
theorem kpN.mo {ns ms : List Nat} {f f' : Nat → Option va_E} (h : kpN ns f f') (hs : ∀ k ∈ ns, k ∈ ms) : kpN ms f f' := fun p e hp hk => h p e hp (fun z => hk (hs _ z))
theorem kpN_up {ns : List Nat} {f : Nat → Option va_E} {p0 : Nat} {e0 : va_E} (h : f p0 = some e0) (hk : kdn e0 ∈ ns) (x : Option va_E) : kpN ns f (va_up f p0 x) := fun p e hp hn => by
  rw [va_up_other _ _ _ (fun z => by rw [z, h] at hp; cases hp; exact hn hk)]
  exact hp
/-- only texts of the labels ls change; none goes -/
def lpT (lab : Nat → Nat) (ls : List Nat) (T T' : Nat → Option (List Int32)) : Prop := (∀ p, lab p ∉ ls → T' p = T p) ∧ ∀ p, (∃ s, T p = some s) → ∃ s, T' p = some s
theorem lpT.rf {lab : Nat → Nat} {ls : List Nat} {T : Nat → Option (List Int32)} : lpT lab ls T T := ⟨fun _ _ => rfl, fun _ h => h⟩
theorem lpT.tr {lab : Nat → Nat} {ls : List Nat} {T T' T'' : Nat → Option (List Int32)} (h : lpT lab ls T T') (h2 : lpT lab ls T' T'') : lpT lab ls T T'' := ⟨fun p hp => (h2.1 p hp).trans (h.1 p hp), fun p hp => h2.2 p (h.2 p hp)⟩
theorem lpT.mo {lab : Nat → Nat} {ls ms : List Nat} {T T' : Nat → Option (List Int32)} (h : lpT lab ls T T') (hs : ∀ k ∈ ls, k ∈ ms) : lpT lab ms T T' := ⟨fun p hp => h.1 p (fun z => hp (hs _ z)), h.2⟩
theorem lpT_up {lab : Nat → Nat} {ls : List Nat} {T : Nat → Option (List Int32)} {p0 : Nat} (h : lab p0 ∈ ls) (s : List Int32) : lpT lab ls T (va_up T p0 (some s)) := ⟨fun p hp => va_up_other _ _ _ (fun z => hp (by rw [z]; exact h)), fun p hp => by
  by_cases z : p = p0
  · rw [z, va_up_same]; exact ⟨_, rfl⟩
  · rw [va_up_other _ _ _ z]; exact hp⟩
abbrev pcA (a : Nat → Nat) (k : Nat) : Nat := a (20 + k)
abbrev qA (a : Nat → Nat) (k : Nat) : Nat := a (40 + k)
def fsE (a : Nat → Nat) (stk : Bool) (flt : Int32) : Option va_E := some (.inr (11, [.ref (a 1), .ref (a 2), .ref (a 5), .ref (a 7), .ref (a 9), .ref (a 11), .ref (a 12), .int (bI stk), .int flt]))
/-- who is who among the texts -/
def labI (a lab : Nat → Nat) : Prop := lab (a 3) = 1 ∧ (∀ k, k < 12 → lab (pcA a k) = 2) ∧ lab (a 11) = 3 ∧ lab (a 12) = 4 ∧ lab (a 13) = 5 ∧ lab (a 14) = 6 ∧ (∀ k, k < 40 → lab (qA a k) = 7) ∧ pgD (a 3) (pcA a) ∧ ringD (qA a)
def wPg (f : Nat → Option va_E) (T : Nat → Option (List Int32)) (cT : ClassId) (a : Nat → Nat) (sep rnum : Int32) (r : List Int32) : Prop := pgO f cT (a 2) (a 3) (a 4) (pcA a) sep (nI (nfd sep r)) rnum ∧ pgT T (a 3) (pcA a) sep r
def wTb (f : Nat → Option va_E) (T : Nat → Option (List Int32)) (cR : ClassId) (a na lab : Nat → Nat) (rs : RR) : Prop := ∃ ro, f (a 5) = tbE (a 6) rs.length ∧ tbA f cR (a 6) ro ∧ tbD ro na ∧ tbT f T ro na rs ∧ ∀ k, k < 20 → lab (na (ro k)) = 8
def wPo (f : Nat → Option va_E) (T : Nat → Option (List Int32)) (cT : ClassId) (a : Nat → Nat) (ls : List (List Int32)) : Prop := ∃ st, f (a 7) = poE (a 8) st ls.length ∧ ringA f cT (a 8) (qA a) ∧ ringT T (qA a) st ls
def wSm (f : Nat → Option va_E) (T : Nat → Option (List Int32)) (cT : ClassId) (a : Nat → Nat) : Prop := f (a 9) = some (.inr (8, [.ref (a 10)])) ∧ (∃ sf : Nat → Option Nat, f (a 10) = some (.inl (cT, 2, .inr (.inr (.inr (.inr sf))))) ∧ sf 0 = some (a 13) ∧ sf 1 = some (a 14)) ∧ (∃ s, T (a 13) = some s) ∧ ∃ s, T (a 14) = some s
def wI (f : Nat → Option va_E) (T : Nat → Option (List Int32)) (cT cR : ClassId) (a na lab : Nat → Nat) (sep rnum : Int32) (typ : List Int32) (stk : Bool) (w : WS) : Prop :=
  f (a 0) = fsE a stk w.2.2.2 ∧ wPg f T cT a sep rnum w.1 ∧ wTb f T cR a na lab w.2.1 ∧ wPo f T cT a w.2.2.1 ∧ wSm f T cT a ∧ T (a 11) = some typ ∧ ∃ v, T (a 12) = some v
section KP
variable {f f' : Nat → Option va_E} {T T' : Nat → Option (List Int32)} {cT cR cI : ClassId} {a na lab : Nat → Nat} {sep rnum : Int32} {r typ : List Int32} {rs : RR} {ls : List (List Int32)} {ns ms : List Nat} {stk : Bool} {w : WS}
theorem wPg.kp (h : wPg f T cT a sep rnum r) (hL : labI a lab) (k : kpN ns f f') (t : lpT lab ms T T') (n1 : 4 ∉ ns) (n2 : 112 ∉ ns) (m1 : 1 ∉ ms) (m2 : 2 ∉ ms) : wPg f' T' cT a sep rnum r := by
  obtain ⟨⟨h1, pf, h2, h3⟩, h4, h5⟩ := h
  exact ⟨⟨k _ _ h1 n1, pf, k _ _ h2 n2, h3⟩, by rw [t.1 _ (by rw [hL.1]; exact m1)]; exact h4, fun j hj => by rw [t.1 _ (by rw [hL.2.1 j hj]; exact m2)]; exact h5 j hj⟩
theorem wTb.kp (h : wTb f T cR a na lab rs) (k : kpN ns f f') (t : lpT lab ms T T') (n1 : 9 ∉ ns) (n2 : 120 ∉ ns) (n3 : 6 ∉ ns) (m1 : 8 ∉ ms) : wTb f' T' cR a na lab rs := by
  obtain ⟨ro, h1, ⟨rf, h2, h3⟩, h4, ⟨h5, h6, h7⟩, h8⟩ := h
  refine ⟨ro, k _ _ h1 n1, ⟨rf, k _ _ h2 n2, h3⟩, h4, ⟨h5, fun j hj => ?_, fun j hj => ?_⟩, h8⟩
  · obtain ⟨s, z, e1, e2⟩ := h6 j hj
    exact ⟨s, z, by rw [t.1 _ (by rw [h8 j hj]; exact m1)]; exact e1, k _ _ e2 n3⟩
  · obtain ⟨e1, e2⟩ := h7 j hj
    exact ⟨by rw [t.1 _ (by rw [h8 j (by omega)]; exact m1)]; exact e1, k _ _ e2 n3⟩
theorem wPo.kp (h : wPo f T cT a ls) (hL : labI a lab) (k : kpN ns f f') (t : lpT lab ms T T') (n1 : 5 ∉ ns) (n2 : 140 ∉ ns) (m1 : 7 ∉ ms) : wPo f' T' cT a ls := by
  obtain ⟨st, h1, ⟨rf, h2, h3⟩, h4, h5, h6, h7⟩ := h
  refine ⟨st, k _ _ h1 n1, ⟨rf, k _ _ h2 n2, h3⟩, h4, h5, fun j hj => ?_, fun j hj => ?_⟩
  · rw [t.1 _ (by rw [hL.2.2.2.2.2.2.1 j hj]; exact m1)]; exact h6 j hj
  · rw [t.1 _ (by rw [hL.2.2.2.2.2.2.1 _ (Nat.mod_lt _ (by decide))]; exact m1)]; exact h7 j hj
theorem wSm.kp (h : wSm f T cT a) (k : kpN ns f f') (t : lpT lab ms T T') (n1 : 8 ∉ ns) (n2 : 102 ∉ ns) : wSm f' T' cT a := by
  obtain ⟨h1, ⟨sf, h2, h3⟩, h4, h5⟩ := h
  exact ⟨k _ _ h1 n1, ⟨sf, k _ _ h2 n2, h3⟩, t.2 _ h4, t.2 _ h5⟩
/-- texts of the labels 4, 5, 6, 9 alone change -/
theorem wI.tx (h : wI f T cT cR a na lab sep rnum typ stk w) (hL : labI a lab) (t : lpT lab [4, 5, 6, 9] T T') : wI f T' cT cR a na lab sep rnum typ stk w := by
  obtain ⟨h1, h2, h3, h4, h5, h6, h7⟩ := h
  exact ⟨h1, h2.kp hL (kpN.rf (ns := [])) t (by decide) (by decide) (by decide) (by decide), h3.kp (kpN.rf (ns := [])) t (by decide) (by decide) (by decide) (by decide), h4.kp hL (kpN.rf (ns := [])) t (by decide) (by decide) (by decide), h5.kp (kpN.rf (ns := [])) t (by decide) (by decide), by rw [t.1 _ (by rw [hL.2.2.1]; decide)]; exact h6, t.2 _ h7⟩
theorem wI.flt (h : wI f T cT cR a na lab sep rnum typ stk w) (hL : labI a lab) (z : Int32) : wI (va_up f (a 0) (fsE a stk z)) T cT cR a na lab sep rnum typ stk (w.1, w.2.1, w.2.2.1, z) ∧ kpN [11] f (va_up f (a 0) (fsE a stk z)) := by
  obtain ⟨h1, h2, h3, h4, h5, h6, h7⟩ := h
  have k : kpN [11] f (va_up f (a 0) (fsE a stk z)) := kpN_up h1 (by first | decide | simp [kdn]) _
  exact ⟨⟨va_up_same _ _ _, h2.kp hL k (lpT.rf (ls := [])) (by decide) (by decide) (by decide) (by decide), h3.kp k (lpT.rf (ls := [])) (by decide) (by decide) (by decide) (by decide), h4.kp hL k (lpT.rf (ls := [])) (by decide) (by decide) (by decide), h5.kp (lab := lab) k (lpT.rf (ls := [])) (by decide) (by decide), h6, h7⟩, k⟩
end KP
/-- an action's object -/
def acI (f : Nat → Option va_E) (T : Nat → Option (List Int32)) (cI : ClassId) (lab : Nat → Nat) (ac : Nat) (c : Ac) : Prop :=
  ∃ tr cd sc, f ac = acE c.1 c.2.1 tr cd ∧ trI f T c.2.2.1 c.2.2.2.1 c.2.2.2.2 tr sc ∧ f cd = some (cdE cI c.2.2.1 c.2.2.2.1 c.2.2.2.2) ∧ (c.1 = 0 ∨ c.1 = 1 ∨ c.1 = 2 ∨ c.1 = 3 ∨ c.1 = 4) ∧ (∃ k, k ≤ 12 ∧ c.2.1 = nI k) ∧ okOp c.2.2.2.1 ∧ okOp c.2.2.2.2 ∧ (c.2.2.1 ≠ 0 → lab sc = 9)
theorem acI.kp {f f' : Nat → Option va_E} {T T' : Nat → Option (List Int32)} {cI : ClassId} {lab : Nat → Nat} {ac : Nat} {c : Ac} {ns ms : List Nat} (h : acI f T cI lab ac c) (k : kpN ns f f') (t : lpT lab ms T T') (n1 : 1 ∉ ns) (n2 : 2 ∉ ns) (n3 : 3 ∉ ns) (n4 : 102 ∉ ns) (n5 : 106 ∉ ns) : acI f' T' cI lab ac c := by
  obtain ⟨tr, cd, sc, h1, h2, h3, h4⟩ := h
  refine ⟨tr, cd, sc, k _ _ h1 n1, ?_, k _ _ h3 (by unfold cdE; by_cases hz : c.2.2.1 = 0; rw [if_pos hz]; exact n4; rw [if_neg hz]; exact n5), h4⟩
  unfold trI at h2 ⊢
  split
  · rename_i hz; rw [if_pos hz] at h2; exact k _ _ h2 n3
  · rename_i hz
    rw [if_neg hz] at h2
    obtain ⟨l1, l2, g1, g2, g3, g4⟩ := h2
    exact ⟨l1, l2, k _ _ g1 n2, k _ _ g2 n3, k _ _ g3 n3, t.2 _ g4⟩
section PF
variable {p : Program} {l : Launch} {e : Env} {R : Room} {s : State} {m : MethodId} {args : Array Value} {below : List Frame} {meth : Method} {c : Code} {Q : State → Prop}
variable {σ : Type} {pic : σ → Heap → Prop} {A : Nat → Prop} {D : va_G} {tys : List (ClassId × FieldType)} {z0 : Nat} {cc : ByteArray} {nL : Nat} {Ts : List Cond} {own : String}
variable {x : σ} {k n pc : Nat} {lv : List (Nat × Value)} {st : List Value}
variable {y y0 : MethodName} {bytes : ByteArray} {maxL i nA : Nat} {ret : Option FieldType} {ws : List Cond} {rm : Room} {Cn owner : String} {As rest : List Value} {b : Nat} {Qc : Array Value → State → Outcome → State → Prop}
theorem v_runU (C : cx p s m args meth c cc nL Ts own D tys z0 A) {T : u_T} {N ci : Nat} (hM : ct D tys z0 A pic l y ws rm (.ref b :: As) x Qc) (cw : va_CU R s args own Cn owner i y0 y bytes maxL ret ws rm rm.cells rm.slots nA) (hn : As.length = nA) (hc : vwCl[ci]? = some (Cn, T, N)) (hr : gC D pic x ci b) (d : decode cc pc = .ok (.invokevirtual i, 3)) (h8 : (rest.map fun v => v.category).sum ≤ 8) (hst : st = As.reverse ++ .ref b :: rest) (hf : k + rm.cells ≤ R.cells ∧ n + rm.slots ≤ R.slots) :
    vr pic A nL p l e R s m args below meth c x k n pc lv st rest rm.cells rm.slots (Qc (Value.ref b :: As).toArray) := by
  subst hst
  exact fun H locs ls hP hS hl => va_runU C.1 hM cw ⟨ct_blind, v_recv C hc hr hP, fun U hU hW => ⟨rfl, by rw [hU]; exact hP, C.2.1.step hS hU hW⟩⟩ rfl hn hl.1 rfl (lv_room h8) d hf
end PF
section PG
variable {l : Launch} {D : va_G} {tys : List (ClassId × FieldType)} {z0 : Nat} {A : Nat → Prop} {cC cT cR cI : ClassId} {f : Nat → Option va_E} {T : Nat → Option (List Int32)} {a na lab : Nat → Nat} {sep rnum : Int32} {typ : List Int32} {stk : Bool} {w : WS} {ac : Nat} {c9 : Ac}
abbrev nsP : List Nat := [11, 4, 9, 120, 6, 5]
abbrev lsP : List Nat := [1, 2, 4, 5, 6, 7, 8, 9]
set_option maxRecDepth 100000 in
set_option maxHeartbeats 16000000 in
theorem k_perform (ht : tys[0]? = some (cC, .char)) (ht1 : tys[1]? = some (cI, .int)) (ht3 : tys[3]? = some (cR, .object RX6)) (ht4 : tys[4]? = some (cT, .object RX10)) (hW : wI f T cT cR a na lab sep rnum typ stk w) (hL : labI a lab) (hsep : ch sep) (hA : acI f T cI lab ac c9) : ct D tys z0 A (picF D cC A) l yX11_perform wsX11_perform (rmL 4 97) [.ref (a 0), .ref ac] (f, T) (qI (picF D cC A) A (fun q x => ∃ f' T', x = (f', T') ∧ kpN nsP f f' ∧ lpT lab lsP T T' ∧ if c9.1 = 4 then q = 0 ∧ wI f' T' cT cR a na lab sep rnum typ stk w else q = 1 ∧ wI f' T' cT cR a na lab sep rnum typ stk (actS sep rnum w c9))) := by
  obtain ⟨r, rs, ls, flt⟩ := w
  obtain ⟨kd, fd, op, x0, y0⟩ := c9
  have hW2 := hW
  obtain ⟨h1, ⟨h2, h2t⟩, ⟨ro, h3, h3a, h3d, h3t, h3l⟩, ⟨st, h4, h4a, h4t⟩, ⟨h5, ⟨sf, h5a, h5b, h5c⟩, ⟨u1, h5d⟩, ⟨u2, h5e⟩⟩, h6, ⟨v0, h7⟩⟩ := hW2
  have hL2 := hL
  obtain ⟨b1, b2, b3, b4, b5, b6, b7, b8, b9⟩ := hL2
  obtain ⟨tr, cd, sc, g1, g2, g3, g4, ⟨kf, g5, g5e⟩, g6, g7, g8⟩ := hA
  dsimp only at h1 h2 h2t h3 h3t h4 h4t g1 g2 g3 g4 g5e g6 g7 g8
  have hfl : fd.toNatClampNeg = kf := by rw [g5e]; exact nI_clamp (by omega)
  refine ct_of RX11 (by decide +kernel) rfl rfl (Nat.le_of_ble_eq_true rfl) ?_
  intro p e s m below meth c C hr hm
  refine v_lv (lv' := [(0, _), (1, _)]) rfl ?_
  refine v_aload_n C dX11_perform_0 (j := 1) rfl rfl ?_
  refine v_getN C (T := TX0) (ci := 1) (j := 0) dX11_perform_1 wiX11_perform_X0 rfl (by decide) (v_nw C 33 rfl) (fun _ h => h) (FF_get g1 rfl) ?_
  refine v_iconst C dX11_perform_4 (v := 4) (by decide) ?_
  refine v_icmp_ne C 10 dX11_perform_5 (by decide) (fun c1 => ?_) (fun c1 => ?_)
  · skip
    refine v_aload_n C dX11_perform_10 (j := 0) rfl rfl ?_
    refine v_get C (T := TX11) (ci := 11) (j := 1) dX11_perform_11 wiX11_perform_X11 rfl (by decide) wfX11_perform_19 (fun _ h => h) (FF_get h1 rfl) ?_
    refine v_aload_n C dX11_perform_14 (j := 1) rfl rfl ?_
    refine v_getN C (T := TX0) (ci := 1) (j := 1) dX11_perform_15 wiX11_perform_X0 rfl (by decide) (v_nw C 34 rfl) (fun _ h => h) (FF_get g1 rfl) ?_
    rw [g5e]
    refine v_cr (v_runV C (k_pget ht4 h2 g5) (cwV 1 C.1.2.2.2.2 gX11_perform_X4_get rfl rfl rfl (by decide +kernel) ⟨Nat.le_of_ble_eq_true rfl, Nat.le_of_ble_eq_true rfl⟩) rfl rfl ((FF_get h2.1 (k := 0) rfl).gC) dX11_perform_18 (rest := []) (Nat.le_of_ble_eq_true rfl) rfl ⟨(by first | exact Nat.le_of_ble_eq_true rfl | (dsimp only; omega)), (by first | exact Nat.le_of_ble_eq_true rfl | (dsimp only; omega))⟩) (fun tg x' hx' => ?_)
    obtain ⟨rfl, htg⟩ := hx'
    have htT : T tg = some (fld sep r kf) := by
        rw [htg]
        by_cases h0 : kf = 0
        · rw [if_pos h0, h0]; exact h2t.1
        · rw [if_neg h0, h2t.2 (kf - 1) (by omega), Nat.sub_add_cancel (by omega)]
    have htl : lab tg = 1 ∨ lab tg = 2 := by
        rw [htg]
        by_cases h0 : kf = 0
        · rw [if_pos h0]; exact Or.inl b1
        · rw [if_neg h0]; exact Or.inr (b2 _ (by omega))
    refine v_astore_n C dX11_perform_21 rfl (by decide) (lv' := [(2, _), (0, _), (1, _)]) rfl ?_
    refine v_aload_n C dX11_perform_22 (j := 2) rfl rfl ?_
    refine v_getN C (T := TX0) (ci := 1) (j := 0) dX11_perform_23 wiX11_perform_X0 rfl (by decide) (v_nw C 33 rfl) (fun _ h => h) (FF_get g1 rfl) ?_
    refine v_iconst C dX11_perform_26 (v := 3) (by decide) ?_
    refine v_icmp_ne C 40 dX11_perform_27 (by decide) (fun c2 => ?_) (fun c2 => ?_)
    · skip
      refine v_cutX (pcj := 89) (fun w : Nat → Option (List Int32) => (f, w)) (fun _ => [(2, .ref tg), (0, .ref (a 0)), (1, .ref ac)]) (fun _ => [.int (exG sep r rnum op x0 y0), .int flt, .ref (a 0)]) (fun w => w (a 12) = some (exV sep r rnum op x0 y0) ∧ lpT lab [4, 5, 6, 9] T w) (fun T1 hw => ?_) (fun K => ?_)
      · skip
        obtain ⟨w1, w2⟩ := hw
        have hW1 := hW.tx hL w2
        have htT1 : T1 tg = some (fld sep r kf) := by rw [w2.1 _ (by rcases htl with q | q <;> rw [q] <;> decide)]; exact htT
        refine v_iadd C dX11_perform_89 ?_
        refine v_put C (T := TX11) (ci := 11) (j := 8) (ty := .int) dX11_perform_90 wiX11_perform_X11 tyX11 tyX11_ok nmX11 rfl (by decide) wfX11_perform_205 (fun _ h => h) rfl rfl (rfl) (rfl) (FF_put h1 (Nat.le_of_ble_eq_true rfl)) ?_
        obtain ⟨hW3, kp3⟩ := hW1.flt hL (flt + exG sep r rnum op x0 y0)
        refine v_x (x' := (va_up f (a 0) (fsE a stk (flt + exG sep r rnum op x0 y0)), T1)) (fun H hP => hP) ?_
        have hac : va_up f (a 0) (fsE a stk (flt + exG sep r rnum op x0 y0)) ac = acE kd fd tr cd := kp3 _ _ g1 (by first | decide | simp [kdn])
        obtain ⟨f1, hf1⟩ : ∃ f1, f1 = va_up f (a 0) (fsE a stk (flt + exG sep r rnum op x0 y0)) := ⟨_, rfl⟩
        rw [← hf1] at hW3 kp3 hac ⊢
        have hW4 := hW3
        obtain ⟨i1, ⟨i2, i2t⟩, ⟨ro1, i3, i3a, i3d, i3t, i3l⟩, ⟨st1, i4, i4a, i4t⟩, i5, i6, i7⟩ := hW4
        dsimp only at i1 i2 i2t i3 i3t i4 i4t
        have kpA : kpN nsP f f1 := kp3.mo (by decide)
        have lpA : lpT lab lsP T T1 := w2.mo (by decide)
        refine v_aload_n C dX11_perform_93 (j := 2) rfl rfl ?_
        refine v_getN C (T := TX0) (ci := 1) (j := 0) dX11_perform_94 wiX11_perform_X0 rfl (by decide) (v_nw C 33 rfl) (fun _ h => h) (FF_get hac rfl) ?_
        refine v_if_ne C 118 dX11_perform_97 (by decide) (fun c3 => ?_) (fun c3 => ?_)
        · skip
          refine v_aload_n C dX11_perform_118 (j := 2) rfl rfl ?_
          refine v_getN C (T := TX0) (ci := 1) (j := 0) dX11_perform_119 wiX11_perform_X0 rfl (by decide) (v_nw C 33 rfl) (fun _ h => h) (FF_get hac rfl) ?_
          refine v_iconst C dX11_perform_122 (v := 1) (by decide) ?_
          refine v_icmp_ne C 153 dX11_perform_123 (by decide) (fun c4 => ?_) (fun c4 => ?_)
          · skip
            refine v_aload_n C dX11_perform_153 (j := 2) rfl rfl ?_
            refine v_getN C (T := TX0) (ci := 1) (j := 0) dX11_perform_154 wiX11_perform_X0 rfl (by decide) (v_nw C 33 rfl) (fun _ h => h) (FF_get hac rfl) ?_
            refine v_iconst C dX11_perform_157 (v := 2) (by decide) ?_
            refine v_icmp_ne C 172 dX11_perform_158 (by decide) (fun c5 => ?_) (fun c5 => ?_)
            · skip
              exact absurd g4 (by rintro (q | q | q | q | q); exact c3 q; exact c4 q; exact c5 q; exact c2 q; exact c1 q)
            · skip
              refine v_aload_n C dX11_perform_161 (j := 1) rfl rfl ?_
              refine v_get C (T := TX11) (ci := 11) (j := 3) dX11_perform_162 wiX11_perform_X11 rfl (by decide) wfX11_perform_33 (fun _ h => h) (FF_get i1 rfl) ?_
              refine v_aload_n C dX11_perform_165 (j := 1) rfl rfl ?_
              refine v_get C (T := TX11) (ci := 11) (j := 6) dX11_perform_166 wiX11_perform_X11 rfl (by decide) wfX11_perform_51 (fun _ h => h) (FF_get i1 rfl) ?_
              refine v_cv (v_runV C (k_print ht ht4 i4 i4a b9 i4t w1 (fun k hk z => by have := b7 k hk; rw [← z, b4] at this; cases this)) (cwV 1 C.1.2.2.2.2 gX11_perform_X5_print rfl rfl rfl (by decide +kernel) ⟨Nat.le_of_ble_eq_true rfl, Nat.le_of_ble_eq_true rfl⟩) rfl rfl ((FF_get i4 (k := 0) rfl).gC) dX11_perform_169 (rest := []) (Nat.le_of_ble_eq_true rfl) rfl ⟨(by first | exact Nat.le_of_ble_eq_true rfl | (dsimp only; omega)), (by first | exact Nat.le_of_ble_eq_true rfl | (dsimp only; omega))⟩) (fun x' hx' => ?_)
              obtain ⟨st9, T9, rfl, e1, e2⟩ := hx'
              have kpB : kpN [5] f1 (va_up f1 (a 7) (poE (a 8) st9 (addL ls (exV sep r rnum op x0 y0)).length)) := kpN_up i4 (by first | decide | simp [kdn]) _
              have lpB : lpT lab [7] T1 T9 := ⟨fun p hp => e2 p (fun k hk z => hp (by rw [z, b7 k hk]; decide)), fun p hp => by
                  by_cases z : ∃ k, k < 40 ∧ p = qA a k
                  · obtain ⟨k, hk, rfl⟩ := z; exact e1.2.2.1 k hk
                  · rw [e2 p (fun k hk zz => z ⟨k, hk, zz⟩)]; exact hp⟩
              refine v_iconst C dX11_perform_172 (v := 1) (by decide) ?_
              exact v_ireturn C dX11_perform_173 hr (rfl) (Nat.le_of_ble_eq_true rfl) (Nat.le_of_ble_eq_true rfl) (⟨_, _, rfl, kpA.tr (kpB.mo (by decide)), lpA.tr (lpB.mo (by decide)), by rw [if_neg c1]; refine ⟨rfl, ?_⟩; unfold actS; rw [if_neg c2, if_neg c3, if_neg c4]; exact ⟨kpB _ _ i1 (by first | decide | simp [kdn]), hW3.2.1.kp hL kpB lpB (by decide) (by decide) (by decide) (by decide), hW3.2.2.1.kp kpB lpB (by decide) (by decide) (by decide) (by decide), ⟨st9, va_up_same _ _ _, by obtain ⟨rf9, q1, q2⟩ := i4a; exact ⟨rf9, kpB _ _ q1 (by first | decide | simp [kdn]), q2⟩, e1⟩, i5.kp kpB lpB (by decide) (by decide), by rw [lpB.1 _ (by rw [b3]; decide)]; exact i6, lpB.2 _ i7⟩⟩)
          · skip
            refine v_aload_n C dX11_perform_126 (j := 1) rfl rfl ?_
            refine v_dup C dX11_perform_127 rfl ?_
            refine v_get C (T := TX11) (ci := 11) (j := 8) dX11_perform_128 wiX11_perform_X11 rfl (by decide) wfX11_perform_205 (fun _ h => h) (FF_get i1 rfl) ?_
            refine v_aload_n C dX11_perform_131 (j := 1) rfl rfl ?_
            refine v_get C (T := TX11) (ci := 11) (j := 2) dX11_perform_132 wiX11_perform_X11 rfl (by decide) wfX11_perform_26 (fun _ h => h) (FF_get i1 rfl) ?_
            refine v_aload_n C dX11_perform_135 (j := 0) rfl rfl ?_
            refine v_aload_n C dX11_perform_136 (j := 1) rfl rfl ?_
            refine v_get C (T := TX11) (ci := 11) (j := 6) dX11_perform_137 wiX11_perform_X11 rfl (by decide) wfX11_perform_51 (fun _ h => h) (FF_get i1 rfl) ?_
            refine v_ci (v_runV C (k_asNumber ht w1) (cwV 0 C.1.2.2.2.2 gX11_perform_X10_asNumber rfl rfl rfl (by decide +kernel) ⟨Nat.le_of_ble_eq_true rfl, Nat.le_of_ble_eq_true rfl⟩) rfl rfl (FF_txt w1) dX11_perform_140 (rest := [_, _, _, _]) (Nat.le_of_ble_eq_true rfl) rfl ⟨(by first | exact Nat.le_of_ble_eq_true rfl | (dsimp only; omega)), (by first | exact Nat.le_of_ble_eq_true rfl | (dsimp only; omega))⟩) (fun q x' hx' => ?_)
            obtain ⟨rfl, rfl⟩ := hx'
            refine v_ci (v_runV C (k_grow ht ht3 i3 i3a i3d i3t htT1 (fun k hk z => by have q1 := i3l k hk; rw [← z] at q1; rcases htl with q | q <;> rw [q] at q1 <;> cases q1) (num (exV sep r rnum op x0 y0))) (cwV 2 C.1.2.2.2.2 gX11_perform_X9_grow rfl rfl rfl (by decide +kernel) ⟨Nat.le_of_ble_eq_true rfl, Nat.le_of_ble_eq_true rfl⟩) rfl rfl ((FF_get i3 (k := 0) rfl).gC) dX11_perform_143 (rest := [_, _]) (Nat.le_of_ble_eq_true rfl) rfl ⟨(by first | exact Nat.le_of_ble_eq_true rfl | (dsimp only; omega)), (by first | exact Nat.le_of_ble_eq_true rfl | (dsimp only; omega))⟩) (fun q x' hx' => ?_)
            obtain ⟨e0, f9, T9, rfl, e1, e2, e3, e4⟩ := hx'
            have kpB : kpN [9, 6] f1 f9 := fun p ee hp hn => by
                rw [e4.1 p (fun z => hn (by rw [z, i3] at hp; cases hp; simp [kdn])) (fun k hk z => by obtain ⟨s8, z8, q1, q2⟩ := i3t.2.1 k hk; rw [z, q2] at hp; cases hp; exact hn (by simp [kdn]))]
                exact hp
            have lpB : lpT lab [8] T1 T9 := ⟨fun p hp => e4.2 p (fun k hk z => hp (by rw [z, i3l k hk]; decide)), fun p hp => by
                by_cases z : ∃ k, k < 20 ∧ p = na (ro1 k)
                · obtain ⟨k, hk, rfl⟩ := z; obtain ⟨s8, z8, q1, q2⟩ := e2.2.1 k hk; exact ⟨s8, q1⟩
                · rw [e4.2 p (fun k hk zz => z ⟨k, hk, zz⟩)]; exact hp⟩
            have i1' := kpB _ _ i1 (by first | decide | simp [kdn])
            refine v_iadd C dX11_perform_146 ?_
            refine v_put C (T := TX11) (ci := 11) (j := 8) (ty := .int) dX11_perform_147 wiX11_perform_X11 tyX11 tyX11_ok nmX11 rfl (by decide) wfX11_perform_205 (fun _ h => h) rfl rfl (rfl) (rfl) (FF_put i1' (Nat.le_of_ble_eq_true rfl)) ?_
            have kpC : kpN [9, 6, 11] f1 (va_up f9 (a 0) (fsE a stk (flt + exG sep r rnum op x0 y0 + q))) := (kpB.mo (by decide)).tr (kpN_up i1' (by first | decide | simp [kdn]) _)
            refine v_goto C 172 dX11_perform_150 (by decide) ?_
            refine v_iconst C dX11_perform_172 (v := 1) (by decide) ?_
            exact v_ireturn C dX11_perform_173 hr (rfl) (Nat.le_of_ble_eq_true rfl) (Nat.le_of_ble_eq_true rfl) (⟨_, _, rfl, kpA.tr (kpC.mo (by decide)), lpA.tr (lpB.mo (by decide)), by rw [if_neg c1]; refine ⟨rfl, ?_⟩; unfold actS; rw [if_neg c2, if_neg c3, if_pos c4]; dsimp only; rw [show (nI kf).toNatClampNeg = kf from nI_clamp (by omega), ← e0]; exact ⟨va_up_same _ _ _, hW3.2.1.kp hL kpC lpB (by decide) (by decide) (by decide) (by decide), wTb.kp ⟨ro1, e1, e3, i3d, e2, i3l⟩ (kpN_up (ns := [11]) i1' (by first | decide | simp [kdn]) _) (lpT.rf (ls := [])) (by decide) (by decide) (by decide) (by decide), hW3.2.2.2.1.kp hL kpC lpB (by decide) (by decide) (by decide), i5.kp kpC lpB (by decide) (by decide), by rw [lpB.1 _ (by rw [b3]; decide)]; exact i6, lpB.2 _ i7⟩⟩)
        · skip
          refine v_aload_n C dX11_perform_100 (j := 1) rfl rfl ?_
          refine v_get C (T := TX11) (ci := 11) (j := 1) dX11_perform_101 wiX11_perform_X11 rfl (by decide) wfX11_perform_19 (fun _ h => h) (FF_get i1 rfl) ?_
          refine v_aload_n C dX11_perform_104 (j := 2) rfl rfl ?_
          refine v_getN C (T := TX0) (ci := 1) (j := 1) dX11_perform_105 wiX11_perform_X0 rfl (by decide) (v_nw C 34 rfl) (fun _ h => h) (FF_get hac rfl) ?_
          refine v_aload_n C dX11_perform_108 (j := 1) rfl rfl ?_
          refine v_get C (T := TX11) (ci := 11) (j := 6) dX11_perform_109 wiX11_perform_X11 rfl (by decide) wfX11_perform_51 (fun _ h => h) (FF_get i1 rfl) ?_
          rw [g5e]
          refine v_cv (v_runV C (k_pset ht ht4 i2 b8 hsep i2t g5 w1 (fun z => by have := b1; rw [← z, b4] at this; cases this) (fun k hk z => by have := b2 k hk; rw [← z, b4] at this; cases this)) (cwV 2 C.1.2.2.2.2 gX11_perform_X4_set rfl rfl rfl (by decide +kernel) ⟨Nat.le_of_ble_eq_true rfl, Nat.le_of_ble_eq_true rfl⟩) rfl rfl ((FF_get i2.1 (k := 0) rfl).gC) dX11_perform_112 (rest := []) (Nat.le_of_ble_eq_true rfl) rfl ⟨(by first | exact Nat.le_of_ble_eq_true rfl | (dsimp only; omega)), (by first | exact Nat.le_of_ble_eq_true rfl | (dsimp only; omega))⟩) (fun x' hx' => ?_)
          obtain ⟨T9, rfl, e1, e2⟩ := hx'
          have kpB : kpN [4] f1 (va_up f1 (a 2) (pgE (a 3) (a 4) sep (nI (nfd sep (setR sep r kf (exV sep r rnum op x0 y0)))) rnum)) := kpN_up i2.1 (by first | decide | simp [kdn]) _
          have lpB : lpT lab [1, 2] T1 T9 := ⟨fun p hp => e2 p (fun z => hp (by rw [z, b1]; decide)) (fun k hk z => hp (by rw [z, b2 k hk]; decide)), fun p hp => by
              by_cases z : p = a 3
              · rw [z]; exact ⟨_, e1.1⟩
              · by_cases z2 : ∃ k, k < 12 ∧ p = pcA a k
                · obtain ⟨k, hk, rfl⟩ := z2; exact ⟨_, e1.2 k hk⟩
                · rw [e2 p z (fun k hk zz => z2 ⟨k, hk, zz⟩)]; exact hp⟩
          refine v_goto C 172 dX11_perform_115 (by decide) ?_
          refine v_iconst C dX11_perform_172 (v := 1) (by decide) ?_
          exact v_ireturn C dX11_perform_173 hr (rfl) (Nat.le_of_ble_eq_true rfl) (Nat.le_of_ble_eq_true rfl) (⟨_, _, rfl, kpA.tr (kpB.mo (by decide)), lpA.tr (lpB.mo (by decide)), by rw [if_neg c1]; refine ⟨rfl, ?_⟩; unfold actS; rw [if_neg c2, if_pos c3]; dsimp only; rw [show (nI kf).toNatClampNeg = kf from nI_clamp (by omega)]; exact ⟨kpB _ _ i1 (by first | decide | simp [kdn]), ⟨⟨va_up_same _ _ _, by obtain ⟨pf, q1, q2⟩ := i2.2; exact ⟨pf, kpB _ _ q1 (by first | decide | simp [kdn]), q2⟩⟩, e1⟩, hW3.2.2.1.kp kpB lpB (by decide) (by decide) (by decide) (by decide), hW3.2.2.2.1.kp hL kpB lpB (by decide) (by decide) (by decide), i5.kp kpB lpB (by decide) (by decide), by rw [lpB.1 _ (by rw [b3]; decide)]; exact i6, lpB.2 _ i7⟩⟩)
      · skip
        refine v_aload_n C dX11_perform_40 (j := 1) rfl rfl ?_
        refine v_dup C dX11_perform_41 rfl ?_
        refine v_get C (T := TX11) (ci := 11) (j := 8) dX11_perform_42 wiX11_perform_X11 rfl (by decide) wfX11_perform_205 (fun _ h => h) (FF_get h1 rfl) ?_
        refine v_aload_n C dX11_perform_45 (j := 1) rfl rfl ?_
        refine v_get C (T := TX11) (ci := 11) (j := 7) dX11_perform_46 wiX11_perform_X11 rfl (by decide) wfX11_perform_121 (fun _ h => h) (FF_get h1 rfl) ?_
        refine v_if_eq C 74 dX11_perform_49 (by decide) (fun c6 => ?_) (fun c6 => ?_)
        · skip
          refine v_aload_n C dX11_perform_74 (j := 2) rfl rfl ?_
          refine v_getN C (T := TX0) (ci := 1) (j := 2) dX11_perform_75 wiX11_perform_X0 rfl (by decide) (v_nw C 36 rfl) (fun _ h => h) (FF_get g1 rfl) ?_
          refine v_aload_n C dX11_perform_78 (j := 1) rfl rfl ?_
          refine v_get C (T := TX11) (ci := 11) (j := 1) dX11_perform_79 wiX11_perform_X11 rfl (by decide) wfX11_perform_19 (fun _ h => h) (FF_get h1 rfl) ?_
          refine v_aload_n C dX11_perform_82 (j := 1) rfl rfl ?_
          refine v_get C (T := TX11) (ci := 11) (j := 6) dX11_perform_83 wiX11_perform_X11 rfl (by decide) wfX11_perform_51 (fun _ h => h) (FF_get h1 rfl) ?_
          by_cases hop : op = 0
          · skip
            have g2' : f tr = lfE x0 := by have q := g2; unfold trI at q; rw [if_pos hop] at q; exact q
            refine v_ci (v_runU C (k_leaf ht ht4 h2 h2t g2' g6 h7 (fun z => by have := b1; rw [z, b4] at this; cases this) (fun j hj z => by have := b2 j hj; rw [z, b4] at this; cases this)) (va_cwA 2 C.1.2.2.2.2 gX11_perform_X2_find_u246X2 rfl rfl rfl (v_nw C 13 rfl) (by decide +kernel) ⟨Nat.le_of_ble_eq_true rfl, Nat.le_of_ble_eq_true rfl⟩) rfl rfl (FF_get g2' (k := 0) rfl).gC dX11_perform_86 (rest := [_, _]) (Nat.le_of_ble_eq_true rfl) rfl ⟨Nat.le_of_ble_eq_true rfl, Nat.le_of_ble_eq_true rfl⟩) (fun q x' hx' => ?_)
            obtain ⟨rfl, rfl⟩ := hx'
            refine v_int (b := exG sep r rnum op x0 y0) (by unfold exG; rw [if_pos hop]) ?_
            exact K _ ⟨by rw [va_up_same]; unfold exV; rw [if_pos hop], lpT_up (by rw [b4]; decide) _⟩
          · skip
            have q9 := g2
            unfold trI at q9
            rw [if_neg hop] at q9
            obtain ⟨l1, l2, q1, q2, q3, us, q4⟩ := q9
            have q5 := g8 hop
            refine v_ci (v_runU C (k_fork ht ht4 h2 h2t q1 q2 q3 g6 g7 h7 (fun z => by have := b1; rw [z, b4] at this; cases this) (fun j hj z => by have := b2 j hj; rw [z, b4] at this; cases this) q4 (fun z => by have := b1; rw [z, q5] at this; cases this) (fun j hj z => by have := b2 j hj; rw [z, q5] at this; cases this) (fun z => by have := b4; rw [← z, q5] at this; cases this)) (va_cwA 2 C.1.2.2.2.2 gX11_perform_X1_find_u246X1 rfl rfl rfl (v_nw C 13 rfl) (by decide +kernel) ⟨Nat.le_of_ble_eq_true rfl, Nat.le_of_ble_eq_true rfl⟩) rfl rfl (FF_get q1 (k := 0) rfl).gC dX11_perform_86 (rest := [_, _]) (Nat.le_of_ble_eq_true rfl) rfl ⟨Nat.le_of_ble_eq_true rfl, Nat.le_of_ble_eq_true rfl⟩) (fun q x' hx' => ?_)
            obtain ⟨rfl, rfl⟩ := hx'
            refine v_int (b := exG sep r rnum op x0 y0) (by unfold exG; rw [if_neg hop]) ?_
            exact K _ ⟨by rw [va_up_same]; unfold exV; rw [if_neg hop], (lpT_up (by rw [q5]; decide) _).tr (lpT_up (by rw [b4]; decide) _)⟩
        · skip
          refine v_aload_n C dX11_perform_52 (j := 1) rfl rfl ?_
          refine v_get C (T := TX11) (ci := 11) (j := 4) dX11_perform_53 wiX11_perform_X11 rfl (by decide) wfX11_perform_40 (fun _ h => h) (FF_get h1 rfl) ?_
          refine v_aload_n C dX11_perform_56 (j := 2) rfl rfl ?_
          refine v_getN C (T := TX0) (ci := 1) (j := 3) dX11_perform_57 wiX11_perform_X0 rfl (by decide) (v_nw C 35 rfl) (fun _ h => h) (FF_get g1 rfl) ?_
          refine v_aload_n C dX11_perform_60 (j := 1) rfl rfl ?_
          refine v_get C (T := TX11) (ci := 11) (j := 1) dX11_perform_61 wiX11_perform_X11 rfl (by decide) wfX11_perform_19 (fun _ h => h) (FF_get h1 rfl) ?_
          refine v_aload_n C dX11_perform_64 (j := 1) rfl rfl ?_
          refine v_get C (T := TX11) (ci := 11) (j := 6) dX11_perform_65 wiX11_perform_X11 rfl (by decide) wfX11_perform_51 (fun _ h => h) (FF_get h1 rfl) ?_
          refine v_ci (v_runV C (k_run ht ht1 ht4 h2 h2t h5 h5a h5b h5c g3 g6 g7 h7 h5d h5e (fun z => by have := b1; rw [z, b5] at this; cases this) (fun j hj z => by have := b2 j hj; rw [z, b5] at this; cases this) (fun z => by have := b1; rw [z, b6] at this; cases this) (fun j hj z => by have := b2 j hj; rw [z, b6] at this; cases this) (fun z => by have := b4; rw [← z, b5] at this; cases this) (fun z => by have := b4; rw [← z, b6] at this; cases this) (fun z => by have := b6; rw [← z, b5] at this; cases this)) (cwV 3 C.1.2.2.2.2 gX11_perform_X8_run rfl rfl rfl (by decide +kernel) ⟨Nat.le_of_ble_eq_true rfl, Nat.le_of_ble_eq_true rfl⟩) rfl rfl ((FF_get h5 (k := 0) rfl).gC) dX11_perform_68 (rest := [_, _]) (Nat.le_of_ble_eq_true rfl) rfl ⟨(by first | exact Nat.le_of_ble_eq_true rfl | (dsimp only; omega)), (by first | exact Nat.le_of_ble_eq_true rfl | (dsimp only; omega))⟩) (fun q x' hx' => ?_)
          obtain ⟨T9, rfl, e1, e2, e3, rfl⟩ := hx'
          refine v_goto C 89 dX11_perform_71 (by decide) ?_
          exact K _ ⟨e1, ⟨fun p hp => e3 p (fun z => hp (by rw [z, b4]; decide)) (fun z => hp (by rw [z, b5]; decide)) (fun z => hp (by rw [z, b6]; decide)), fun p hp => by
              by_cases z : p = a 12
              · rw [z]; exact ⟨_, e1⟩
              · by_cases z1 : p = a 13
                · exact e2 p (Or.inl z1)
                · by_cases z2 : p = a 14
                  · exact e2 p (Or.inr z2)
                  · rw [e3 p z z1 z2]; exact hp⟩⟩
    · skip
      refine v_aload_n C dX11_perform_30 (j := 1) rfl rfl ?_
      refine v_get C (T := TX11) (ci := 11) (j := 2) dX11_perform_31 wiX11_perform_X11 rfl (by decide) wfX11_perform_26 (fun _ h => h) (FF_get h1 rfl) ?_
      refine v_aload_n C dX11_perform_34 (j := 0) rfl rfl ?_
      refine v_cv (v_runV C (k_drop ht ht3 h3 h3a h3d h3t htT) (cwV 1 C.1.2.2.2.2 gX11_perform_X9_drop rfl rfl rfl (by decide +kernel) ⟨Nat.le_of_ble_eq_true rfl, Nat.le_of_ble_eq_true rfl⟩) rfl rfl ((FF_get h3 (k := 0) rfl).gC) dX11_perform_35 (rest := []) (Nat.le_of_ble_eq_true rfl) rfl ⟨(by first | exact Nat.le_of_ble_eq_true rfl | (dsimp only; omega)), (by first | exact Nat.le_of_ble_eq_true rfl | (dsimp only; omega))⟩) (fun x' hx' => ?_)
      obtain ⟨f9, ro9, rfl, e1, e2, e3, e4, e5, e6⟩ := hx'
      have hal9 : ∃ rf9, f (a 6) = some (.inl (cR, 20, .inr (.inr (.inr (.inr rf9))))) := by obtain ⟨rf9, q1, q2⟩ := h3a; exact ⟨rf9, q1⟩
      obtain ⟨rf9, hal9⟩ := hal9
      have kpB : kpN [9, 120] f f9 := fun p ee hp hn => by
          rw [e6 p (fun z => hn (by rw [z, h3] at hp; cases hp; simp [kdn])) (fun z => hn (by rw [z, hal9] at hp; cases hp; simp [kdn]))]
          exact hp
      refine v_iconst C dX11_perform_38 (v := 1) (by decide) ?_
      exact v_ireturn C dX11_perform_39 hr (rfl) (Nat.le_of_ble_eq_true rfl) (Nat.le_of_ble_eq_true rfl) (⟨_, _, rfl, kpB.mo (by decide), lpT.rf, by rw [if_neg c1]; refine ⟨rfl, ?_⟩; unfold actS; rw [if_pos c2]; dsimp only; rw [show (nI kf).toNatClampNeg = kf from nI_clamp (by omega)]; exact ⟨kpB _ _ h1 (by first | decide | simp [kdn]), hW.2.1.kp hL kpB (lpT.rf (ls := [])) (by decide) (by decide) (by decide) (by decide), ⟨ro9, e1, e2, e3, e4, fun k hk => by obtain ⟨j, hj, hj2⟩ := e5 k hk; rw [hj2]; exact h3l j hj⟩, hW.2.2.2.1.kp hL kpB (lpT.rf (ls := [])) (by decide) (by decide) (by decide), hW.2.2.2.2.1.kp (lab := lab) kpB (lpT.rf (ls := [])) (by decide) (by decide), h6, _, h7⟩⟩)
  · skip
    refine v_iconst C dX11_perform_8 (v := 0) (by decide) ?_
    exact v_ireturn C dX11_perform_9 hr (rfl) (Nat.le_of_ble_eq_true rfl) (Nat.le_of_ble_eq_true rfl) (⟨_, _, rfl, kpN.rf, lpT.rf, by rw [if_pos c1]; exact ⟨rfl, hW⟩⟩)
end PG
