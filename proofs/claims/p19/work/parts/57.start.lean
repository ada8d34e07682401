/-! ===== the law's start ===== -/
theorem v_px {p : Program} {l : Launch} {e : Env} {R : Room} {s : State} {m : MethodId} {args : Array Value} {below : List Frame} {meth : Method} {c : Code} {Q : State → Prop} {σ σ' : Type} {pic : σ → Heap → Prop} {pic' : σ' → Heap → Prop} {A : Nat → Prop} {nL k n pc : Nat} {lv : List (Nat × Value)} {st : List Value} {x : σ} {x' : σ'} (h : ∀ H, pic x H → pic' x' H) (kk : vv pic' A nL p l e R s m args below meth c Q x' k n pc lv st) : vv pic A nL p l e R s m args below meth c Q x k n pc lv st := fun H locs ls hP hS hl => kk H locs ls (h H hP) hS hl
theorem tyP {s : State} {args : Array Value} {ty : FieldType} (h : (Cond.arrayClass ty).before args s = true) (hp : ∀ c, s.vm.findClass ("[" ++ ty.toString) = some c → va_RA s c ty) : ∃ c, ArrOfT s c ty ∧ va_RA s c ty := by
  obtain ⟨c, k, comp, h1, h2, h3⟩ := Cond.arrayClass_spec h
  exact ⟨c, fun n z => ⟨fun k h => (by cases h), k, h2, comp, h3⟩, hp c h1⟩
theorem tyO {s : State} {args : Array Value} {C : String} (h : (Cond.arrayOver (.object C)).before args s = true) : ∃ c, ArrOfT s c (.object C) ∧ va_RA s c (.object C) := by
  obtain ⟨comp, c, k, h1, h2, h3, h4, h5⟩ := Cond.arrayOver_spec h
  exact ⟨c, fun n z => ⟨fun k h => (by cases h), k, h3, comp, h4⟩, k, comp, h3, h4, h1, h5⟩
theorem kn_of {s : State} (cl : List vw_C) (h : ∀ q ∈ cl, ∃ (cC : ClassId) (iS : Nat → Nat), u_Kn s q.1 q.2.1 q.2.2 cC iS) : ∃ D : va_G, ∀ (k : Nat) (q : vw_C), cl[k]? = some q → u_Kn s q.1 q.2.1 q.2.2 (D.1 k) (D.2 k) := by
  have h2 : ∀ k : Nat, ∃ r : ClassId × (Nat → Nat), ∀ q : vw_C, cl[k]? = some q → u_Kn s q.1 q.2.1 q.2.2 r.1 r.2 := by
    intro k
    cases hk : cl[k]? with
    | none => exact ⟨((0 : Nat), fun _ => 0), fun q hq => by cases hq⟩
    | some q =>
      obtain ⟨cC, iS, h9⟩ := h q (List.mem_of_getElem? hk)
      exact ⟨(cC, iS), fun q' hq' => by cases hq'; exact h9⟩
  exact ⟨(fun k => (Classical.choose (h2 k)).1, fun k => (Classical.choose (h2 k)).2), fun k q hq => Classical.choose_spec (h2 k) q hq⟩
theorem nw_of {w : Cond} (h : nw_kind w = true) {args : Array Value} {s : State} (hb : w.before args s = true) : va_Nw w s := by
  unfold nw_kind at h
  split at h
  · exact hb
  · exact hb
  · exact hb
  · exact hb
  · exact hb
  · cases h
abbrev aDEC : Term := .static "java/util/ArrayList" "DEFAULTCAPACITY_EMPTY_ELEMENTDATA" "[Ljava/lang/Object;"
theorem q_nwl : ∀ w ∈ nwl, w ∈ lw_tbl := by decide +kernel
theorem q_str : ∀ q ∈ stl, Cond.stringRef RX11 q.1 q.2 ∈ lw_tbl := by decide +kernel
theorem q_ex : ∀ q ∈ stl, Cond.exactly (.string RX11 q.1) "java/lang/String" ∈ flatC (Jvm.Cond.and given_1 narrow_1) := by decide +kernel
theorem q_ncl : ∀ q ∈ ncl, Cond.not (.castable q.1 q.2) ∈ flatC (Jvm.Cond.and given_1 narrow_1) := by decide +kernel
theorem q_mi : Cond.isRef (.mirror "[Ljava/lang/Object;") ∈ flatC (Jvm.Cond.and given_1 narrow_1) := by decide +kernel
theorem q_us : Cond.isRef (.static Bundle.tN "UNASSIGNED_STACK" Bundle.steD) ∈ flatC (Jvm.Cond.and given_1 narrow_1) := by decide +kernel
theorem q_ss : Cond.isRef (.static Bundle.tN "SUPPRESSED_SENTINEL" Bundle.listD) ∈ flatC (Jvm.Cond.and given_1 narrow_1) := by decide +kernel
theorem q_lu : Cond.laysStatic Bundle.tN "UNASSIGNED_STACK" Bundle.steD ∈ lw_tbl := by decide +kernel
theorem q_ls : Cond.laysStatic Bundle.tN "SUPPRESSED_SENTINEL" Bundle.listD ∈ lw_tbl := by decide +kernel
theorem q_it : Cond.initialized Bundle.tN ∈ lw_tbl := by decide +kernel
theorem q_la : Cond.laysStatic "java/util/ArrayList" "DEFAULTCAPACITY_EMPTY_ELEMENTDATA" "[Ljava/lang/Object;" ∈ lw_tbl := by decide +kernel
theorem q_ia : Cond.initialized "java/util/ArrayList" ∈ lw_tbl := by decide +kernel
theorem q_ea : Cond.exactly aDEC "[Ljava/lang/Object;" ∈ flatC (Jvm.Cond.and given_1 narrow_1) := by decide +kernel
theorem q_aa : Cond.arrayOf aDEC (.object "java/lang/Object") ∈ flatC (Jvm.Cond.and given_1 narrow_1) := by decide +kernel
theorem q_za : Cond.eq (.length aDEC) (.int 0) ∈ flatC (Jvm.Cond.and given_1 narrow_1) := by decide +kernel
theorem q_ac : Cond.arrayClass .char ∈ lw_tbl ∧ Cond.arrayClass .int ∈ lw_tbl ∧ Cond.arrayClass .long ∈ lw_tbl := ⟨by decide +kernel, by decide +kernel, by decide +kernel⟩
theorem q_ao : Cond.arrayOver (.object RX6) ∈ lw_tbl ∧ Cond.arrayOver (.object RX10) ∈ lw_tbl ∧ Cond.arrayOver (.object "java/lang/Object") ∈ lw_tbl := ⟨by decide +kernel, by decide +kernel, by decide +kernel⟩
theorem q_cl : ∀ q ∈ vwCl, Cond.instantiable q.1 q.2.2 ∈ lw_tbl := by decide +kernel
theorem kn_start {s : State} {args : Array Value} (hts : ∀ w ∈ lw_tbl, w.before args s = true) (hs : ∀ w ∈ flatC (Jvm.Cond.and given_1 narrow_1), w.before args s = true) : kn s := by
  refine ⟨fun w hw => nw_of (nwl_ok w hw) (hts w (q_nwl w hw)), fun q hq => va_Nc.of (hs _ (q_ncl q hq)), fun q hq => ?_, va_Mi.of (hs _ q_mi)⟩
  obtain ⟨a, c9, cell, k9, e1, -⟩ := Cond.exactly_spec (hs _ (q_ex q hq))
  exact ⟨a, vk_R.of (hts _ (q_str q hq)) e1⟩
theorem cl_start {s : State} {args : Array Value} (hts : ∀ w ∈ lw_tbl, w.before args s = true) : ∃ D : va_G, ∀ (k : Nat) (q : vw_C), vwCl[k]? = some q → u_Kn s q.1 q.2.1 q.2.2 (D.1 k) (D.2 k) := by
  refine kn_of vwCl (fun q hq => ?_)
  have hi := hts _ (q_cl q hq)
  have hm : ∀ w ∈ u_ws q.1 q.2.1 q.2.2, w ∈ lw_tbl := by
    simp only [vwCl, List.mem_cons, List.not_mem_nil, or_false] at hq
    rcases hq with rfl | rfl | rfl | rfl | rfl | rfl | rfl | rfl | rfl | rfl | rfl | rfl
    · exact inJx4a65c
    · exact inX0
    · exact inX1
    · exact inX2
    · exact inX4
    · exact inX5
    · exact inX6
    · exact inX7
    · exact inX8
    · exact inX9
    · exact inX10
    · exact inX11
  exact u_known hts hm hi
theorem kz_start {s : State} {args : Array Value} (hts : ∀ w ∈ lw_tbl, w.before args s = true) (hs : ∀ w ∈ flatC (Jvm.Cond.and given_1 narrow_1), w.before args s = true) : ∃ z0, kz z0 (fun q => s.heap.size ≤ q) s s.heap := by
  have hA : ∀ a : Nat, a < s.heap.size → ¬ (fun q => s.heap.size ≤ q) a := fun a h => Nat.not_le.mpr h
  have hlen := va_eqt (hs _ q_za)
  obtain ⟨z0, cell, ht, hat, hv⟩ := Term.length_spec hlen
  have hcell := (State.arrayAt?_spec hat).1
  have hz : z0 < s.heap.size := (Array.getElem?_eq_some_iff.mp hcell).1
  exact ⟨z0, va_Zof (hts _ q_la) (hts _ q_ia) ht hA, hA z0 hz, cell, hcell, (Cond.arrayOf_spec (hs _ q_aa) ht hcell).1, (Value.int.inj hv).symm⟩
theorem kw_start {l : Launch} {s : State} {args : Array Value} (hl : l.stackTraces = false) (hts : ∀ w ∈ lw_tbl, w.before args s = true) (hs : ∀ w ∈ flatC (Jvm.Cond.and given_1 narrow_1), w.before args s = true) : ∃ (D : va_G) (tys : List (ClassId × FieldType)) (z0 : Nat) (cC cI cR cT cO cJ : ClassId), kw D tys z0 (fun q => s.heap.size ≤ q) s ∧ lwT l tys cC cI cR cT cO cJ := by
  have hA : ∀ a : Nat, a < s.heap.size → ¬ (fun q => s.heap.size ≤ q) a := fun a h => Nat.not_le.mpr h
  obtain ⟨D, hD⟩ := cl_start hts
  obtain ⟨z0, hz⟩ := kz_start hts hs
  obtain ⟨cC, t0⟩ := tyP (hts _ q_ac.1) (fun _ h => h)
  obtain ⟨cI, t1⟩ := tyP (hts _ q_ac.2.1) (fun _ h => h)
  obtain ⟨cJ, t6⟩ := tyP (hts _ q_ac.2.2) (fun _ h => h)
  obtain ⟨cR, t3⟩ := tyO (hts _ q_ao.1)
  obtain ⟨cT, t4⟩ := tyO (hts _ q_ao.2.1)
  obtain ⟨cO, t5⟩ := tyO (hts _ q_ao.2.2)
  refine ⟨D, [(cC, .char), (cI, .int), (cI, .int), (cR, .object RX6), (cT, .object RX10), (cO, .object "java/lang/Object"), (cJ, .long)], z0, cC, cI, cR, cT, cO, cJ, ⟨⟨hD, fun k q hq => ?_⟩, fun _ h => h, vx_Zqof (hts _ q_lu) (hts _ q_it) (hs _ q_us) hA, vx_Zqof (hts _ q_ls) (hts _ q_it) (hs _ q_ss) hA, hz, kn_start hts hs⟩, hl, rfl, rfl, rfl, rfl, rfl, rfl⟩
  match k, hq with
  | 0, hq => cases hq; exact t0
  | 1, hq => cases hq; exact t1
  | 2, hq => cases hq; exact t1
  | 3, hq => cases hq; exact t3
  | 4, hq => cases hq; exact t4
  | 5, hq => cases hq; exact t5
  | 6, hq => cases hq; exact t6
  | k + 7, hq => simp at hq
theorem q_w1 : Cond.classLink RL 9 RX11 ∈ wsL_law := by decide +kernel
theorem q_w2 : Cond.instantiable RX11 9 ∈ wsL_law := by decide +kernel
theorem q_w3 : Cond.initialized RX11 ∈ wsL_law := by decide +kernel
theorem q_w7 : Cond.arrayClass (newarray.typeOf .long) ∈ wsL_law := by decide +kernel
theorem q_w7i : Cond.arrayClass (newarray.typeOf .int) ∈ wsL_law := by decide +kernel
theorem q_w8 : Cond.methodLink RL 226 yX11_init ∈ wsL_law := by decide +kernel
theorem q_w9 : Cond.instanceMethod yX11_init ∈ wsL_law := by decide +kernel
theorem picF_0 {D : va_G} {cC : ClassId} {A : Nat → Prop} {H : Heap} : picF D cC A (fun _ => none, fun _ => none) H := ⟨fun _ => none, fun _ => 0, fun _ _ => 0, ⟨fun t => rfl, fun t a j h => (by cases h)⟩, ⟨fun a e h => (by cases h), fun t a h => (by cases h), fun t t' a h => (by cases h), fun t a h => (by cases h)⟩⟩
/-! new cells, one by one -/
def chn (f : Nat → Option va_E) : List (Nat × va_E) → Prop
  | [] => True
  | q :: t => f q.1 = none ∧ chn (va_up f q.1 (some q.2)) t
def upL (f : Nat → Option va_E) : List (Nat × va_E) → Nat → Option va_E
  | [] => f
  | q :: t => upL (va_up f q.1 (some q.2)) t
theorem upL_keep : ∀ (L : List (Nat × va_E)) (f : Nat → Option va_E), chn f L → ∀ p e, f p = some e → upL f L p = some e := by
  intro L
  induction L with
  | nil => intro f _ p e h; exact h
  | cons q t ih =>
    intro f hc p e h
    have hp : p ≠ q.1 := fun z => by rw [z, hc.1] at h; cases h
    exact ih _ hc.2 p e (by rw [va_up_other _ _ _ hp]; exact h)
theorem chn_none : ∀ (L : List (Nat × va_E)) (f : Nat → Option va_E), chn f L → ∀ q ∈ L, f q.1 = none ∧ upL f L q.1 = some q.2 := by
  intro L
  induction L with
  | nil => intro f _ q h; cases h
  | cons q0 t ih =>
    intro f hc q hq
    rcases List.mem_cons.mp hq with rfl | hq
    · exact ⟨hc.1, upL_keep t _ hc.2 _ _ (va_up_same _ _ _)⟩
    · obtain ⟨h1, h2⟩ := ih _ hc.2 q hq
      have hne : q.1 ≠ q0.1 := fun z => by rw [z, va_up_same] at h1; cases h1
      rw [va_up_other _ _ _ hne] at h1
      exact ⟨h1, h2⟩
theorem chn_inj (d : Nat × va_E) : ∀ (L : List (Nat × va_E)) (f : Nat → Option va_E), chn f L → ∀ i j, i < L.length → j < L.length → (L.getD i d).1 = (L.getD j d).1 → i = j := by
  intro L
  induction L with
  | nil => intro f _ i j hi; cases hi
  | cons q0 t ih =>
    intro f hc i j hi hj h
    have hne : ∀ n, n < t.length → (t.getD n d).1 ≠ q0.1 := fun n hn z => by
      have h9 := (chn_none t _ hc.2 (t.getD n d) (by rw [List.getD_eq_getElem?_getD, List.getElem?_eq_getElem hn]; exact List.getElem_mem hn)).1
      rw [z, va_up_same] at h9
      cases h9
    cases i with
    | zero =>
      cases j with
      | zero => rfl
      | succ j => exact absurd h.symm (hne j (by simpa using hj))
    | succ i =>
      cases j with
      | zero => exact absurd h (hne i (by simpa using hi))
      | succ j => exact congrArg Nat.succ (ih _ hc.2 i j (by simpa using hi) (by simpa using hj) h)
abbrev eI (cI : ClassId) (n : Nat) : va_E := .inl (cI, n, .inl (fun _ => 0))
abbrev eJ (cJ : ClassId) (n : Nat) : va_E := .inl (cJ, n, .inr (.inl (fun _ => 0)))
abbrev lst9 (cI cJ : ClassId) (ot ov ow oy oq oa og om ok oc ol : Nat) : List (Nat × va_E) := [(ot, eI cI 61), (ov, eI cI 61), (ow, eI cI 61), (oy, eI cI 61), (oq, eI cI 40), (oa, eJ cJ 48), (og, eI cI 6), (om, eI cI 21), (ok, eJ cJ 60), (oc, eJ cJ 60), (ol, eJ cJ 40)]
def ixI (j : Nat) : Nat := if j < 5 then j else j + 1
def ixJ (j : Nat) : Nat := if j = 0 then 5 else j + 7
theorem ix_i : ∀ i j, i < 7 → j < 7 → ixI i = ixI j → i = j := by intro i j hi hj h; unfold ixI at h; split at h <;> split at h <;> omega
theorem ix_j : ∀ i j, i < 4 → j < 4 → ixJ i = ixJ j → i = j := by intro i j hi hj h; unfold ixJ at h; split at h <;> split at h <;> omega
theorem ix_n : ∀ i j, i < 7 → j < 4 → ixI i ≠ ixJ j := by intro i j hi hj h; unfold ixI ixJ at h; split at h <;> split at h <;> omega
/-- from FieldScribe's picture, with the law's arrays in it, to both -/
theorem L_of9 {D : va_G} {cC cI cJ : ClassId} {A : Nat → Prop} {f : Nat → Option va_E} {T : Nat → Option (List Int32)} {ot ov ow oy oq oa og om ok oc ol : Nat} (hc : chn f (lst9 cI cJ ot ov ow oy oq oa og om ok oc ol)) : ∃ ad al : Nat → Nat, (ad 0 = ot ∧ ad 1 = ov ∧ ad 2 = ow ∧ ad 3 = oy ∧ ad 4 = oq ∧ ad 5 = og ∧ ad 6 = om) ∧ (al 0 = oa ∧ al 1 = ok ∧ al 2 = oc ∧ al 3 = ol) ∧ ∀ H, picF D cC A (upL f (lst9 cI cJ ot ov ow oy oq oa og om ok oc ol), T) H → picL D cC cI cJ ad al A ((f, T), (fun _ _ => 0), fun _ _ => 0) H := by
  obtain ⟨L, hL⟩ : ∃ L, lst9 cI cJ ot ov ow oy oq oa og om ok oc ol = L := ⟨_, rfl⟩
  have hlen : L.length = 11 := by rw [← hL]; rfl
  rw [hL] at hc
  refine ⟨fun j => (L.getD (ixI j) (0, eI cI 0)).1, fun j => (L.getD (ixJ j) (0, eI cI 0)).1, ?_, ?_, fun H hP => ?_⟩
  · rw [← hL]; exact ⟨rfl, rfl, rfl, rfl, rfl, rfl, rfl⟩
  · rw [← hL]; exact ⟨rfl, rfl, rfl, rfl⟩
  rw [hL] at hP
  have hmem : ∀ i, i < 11 → L.getD i (0, eI cI 0) ∈ L := fun i hi => by rw [List.getD_eq_getElem?_getD, List.getElem?_eq_getElem (by omega)]; exact List.getElem_mem (by omega)
  have hxI : ∀ j, j < 7 → ixI j < 11 := fun j hj => by unfold ixI; split <;> omega
  have hxJ : ∀ j, j < 4 → ixJ j < 11 := fun j hj => by unfold ixJ; split <;> omega
  have eI9 : ∀ j, j < 7 → (L.getD (ixI j) (0, eI cI 0)).2 = .inl (cI, iln j, .inl (fun _ => 0)) := fun j hj => by
    rw [← hL]
    rcases (show j = 0 ∨ j = 1 ∨ j = 2 ∨ j = 3 ∨ j = 4 ∨ j = 5 ∨ j = 6 by omega) with rfl | rfl | rfl | rfl | rfl | rfl | rfl <;> rfl
  have eJ9 : ∀ j, j < 4 → (L.getD (ixJ j) (0, eI cI 0)).2 = .inl (cJ, lln j, .inr (.inl (fun _ => 0))) := fun j hj => by
    rw [← hL]
    rcases (show j = 0 ∨ j = 1 ∨ j = 2 ∨ j = 3 by omega) with rfl | rfl | rfl | rfl <;> rfl
  obtain ⟨f3, hf3⟩ : ∃ f3, upL f L = f3 := ⟨_, rfl⟩
  have hI : ∀ j, j < 7 → f (L.getD (ixI j) (0, eI cI 0)).1 = none ∧ f3 (L.getD (ixI j) (0, eI cI 0)).1 = some (.inl (cI, iln j, .inl (fun _ => 0))) := fun j hj => by
    have h9 := chn_none L f hc _ (hmem _ (hxI j hj))
    rw [hf3, eI9 j hj] at h9
    exact h9
  have hJ : ∀ j, j < 4 → f (L.getD (ixJ j) (0, eI cI 0)).1 = none ∧ f3 (L.getD (ixJ j) (0, eI cI 0)).1 = some (.inl (cJ, lln j, .inr (.inl (fun _ => 0)))) := fun j hj => by
    have h9 := chn_none L f hc _ (hmem _ (hxJ j hj))
    rw [hf3, eJ9 j hj] at h9
    exact h9
  have keep : ∀ p e, f p = some e → f3 p = some e := fun p e h => by rw [← hf3]; exact upL_keep L f hc p e h
  rw [hf3] at hP
  obtain ⟨ad, had⟩ : ∃ ad : Nat → Nat, (fun j => (L.getD (ixI j) (0, eI cI 0)).1) = ad := ⟨_, rfl⟩
  obtain ⟨al, hal⟩ : ∃ al : Nat → Nat, (fun j => (L.getD (ixJ j) (0, eI cI 0)).1) = al := ⟨_, rfl⟩
  rw [had, hal]
  have hI : ∀ j, j < 7 → f (ad j) = none ∧ f3 (ad j) = some (.inl (cI, iln j, .inl (fun _ => 0))) := by rw [← had]; exact hI
  have hJ : ∀ j, j < 4 → f (al j) = none ∧ f3 (al j) = some (.inl (cJ, lln j, .inr (.inl (fun _ => 0)))) := by rw [← hal]; exact hJ
  obtain ⟨ar, ln, gg, p1, ⟨p2, p3, p4, p5⟩⟩ := hP
  dsimp only at p1 p2 p3 p4 p5
  have far : ∀ q, A q → f3 q = none → AF ad al A q := fun q hq hz => ⟨hq, fun j hj z => (by rw [z, (hI j hj).2] at hz; cases hz), fun j hj z => (by rw [z, (hJ j hj).2] at hz; cases hz)⟩
  have hB : picF D cC (AF ad al A) (f, T) H := by
    refine ⟨ar, ln, gg, p1, ⟨fun q e hq => ?_, fun t q hq => ?_, p4, fun t q hq => ?_⟩⟩
    · have hq9 : f q = some e := hq
      exact ⟨⟨(p2 q e (keep q e hq9)).1, fun j hj z => (by rw [z, (hI j hj).1] at hq9; cases hq9), fun j hj z => (by rw [z, (hJ j hj).1] at hq9; cases hq9)⟩, (p2 q e (keep q e hq9)).2⟩
    · obtain ⟨b1, b2, b3⟩ := p3 t q hq
      obtain ⟨c1, c2, c3⟩ := p5 t q hq
      exact ⟨far t b1 c2, far q b2 c3, b3⟩
    · obtain ⟨c1, c2, c3⟩ := p5 t q hq
      refine ⟨c1, ?_, ?_⟩
      · show f t = none
        cases hz : f t with
        | none => rfl
        | some e9 => have h9 := keep t e9 hz; rw [h9] at c2; cases c2
      · show f q = none
        cases hz : f q with
        | none => rfl
        | some e9 => have h9 := keep q e9 hz; rw [h9] at c3; cases c3
  refine ⟨fun H' e1 e2 => picF_kept hB (fun q hq hA => e2 q hA.2.1 hA.2.2), fun j hj => ⟨(p2 _ _ (hI j hj).2).1, (p2 _ _ (hI j hj).2).2⟩, fun j hj => ⟨(p2 _ _ (hJ j hj).2).1, (p2 _ _ (hJ j hj).2).2⟩, fun i j hi hj h => ?_, fun i j hi hj h => ?_, fun i j hi hj h => ?_⟩
  · rw [← had] at h
    exact ix_i i j hi hj (chn_inj _ L f hc _ _ (by have := hxI i hi; omega) (by have := hxI j hj; omega) h)
  · rw [← hal] at h
    exact ix_j i j hi hj (chn_inj _ L f hc _ _ (by have := hxJ i hi; omega) (by have := hxJ j hj; omega) h)
  · rw [← had, ← hal] at h
    exact ix_n i j hi hj (chn_inj _ L f hc _ _ (by have := hxI i hi; omega) (by have := hxJ j hj; omega) h)
abbrev S0 : aS := (32, 0, [], ([], [], [], 0), [])
theorem nA_0 {X : Nat → Nat → Int32} {Y : Nat → Nat → Int64} {r9 : Int32} (h0 : X 5 0 = 32) (h1 : X 5 1 = r9) (ho : ∀ j, j ≠ 0 → j ≠ 1 → X 5 j = 0) (hx : ∀ i j, i ≠ 5 → X i j = 0) : nA X Y (32, r9, [], ([], [], [], 0), []) := by
  have z0 : ∀ k : Nat, k < 0 → False := fun k h => absurd h (Nat.not_lt_zero k)
  refine ⟨⟨h0, h1, ⟨hx 3 60 (by decide), Nat.zero_le _, fun k hk => (z0 k hk).elim⟩, ho 3 (by decide) (by decide), Nat.zero_le _, fun i hi => (z0 i hi).elim, fun i _ _ => ⟨hx 4 _ (by decide), hx 4 _ (by decide)⟩⟩, ⟨hx 0 60 (by decide), Nat.zero_le _, fun k hk => (z0 k hk).elim⟩, ⟨ho 4 (by decide) (by decide), Nat.zero_le _, fun i hi => (z0 i hi).elim⟩, ⟨ho 5 (by decide) (by decide), Nat.zero_le _, fun i hi => (z0 i hi).elim⟩, ho 2 (by decide) (by decide)⟩
theorem okS_0 (r9 : Int32) : okS (32, r9, [], ([], [], [], 0), []) := ⟨(by decide : (32 : Int32) ∈ alph), oks_nil, oks_nil, Nat.zero_le _, fun i hi => absurd hi (Nat.not_lt_zero i), fun i j hi => absurd hi (Nat.not_lt_zero i), fun s hs => by cases hs⟩
set_option maxHeartbeats 16000000 in
set_option maxRecDepth 100000 in
/-- the law, from its entry -/
theorem whole_start {p : Program} {e : Env} {s : State} {m : MethodId} {below : List Frame} {meth : Method} {c : Code} (l : Launch) (hflags : l.flags = flags0) {b L : Nat} {xs : Nat → Int32} (hL : L ≤ 260) (C0 : lw_At p s m meth c b L xs) : W p l e room_1 s m #[Value.ref b] below meth c s.heap [] 0 0 (lw_Z below #[Value.ref b] s) (entryFrame m ([Value.ref b] : List Value).toArray 15) := by
  obtain ⟨hx, hb, hr, hml, hown, hts, hX, hbl, hlocks, hgv⟩ := id C0
  have hs := flat_of_before _ hgv
  have hl : l.stackTraces = false := by unfold Launch.stackTraces; rw [hflags]; decide +kernel
  obtain ⟨D, tys, z0, cC, cI, cR, cT, cO, cJ, hkw, hT⟩ := kw_start hl hts hs
  have C : cx p s m #[Value.ref b] meth c code 15 wsL_law RL D tys z0 (fun q => s.heap.size ≤ q) := ⟨⟨hx, hb, hml, hown, fun w hw => hts w (wsL_law_in w hw)⟩, hkw, hlocks⟩
  have t := hT
  obtain ⟨-, t0, t1, t3, t4, t5, t6⟩ := t
  rw [lg_entry_eq]
  suffices K : vv (picF D cC (fun q => s.heap.size ≤ q)) (fun q => s.heap.size ≤ q) 15 p l e room_1 s m #[Value.ref b] below meth c (lw_Z below #[Value.ref b] s) (fun _ => none, fun _ => none) 0 0 0 (lv_args 0 [.ref b]) [] from K s.heap [] _ picF_0 va_S.rf (lv_entry [.ref b] (Nat.le_of_ble_eq_true rfl))
  refine v_lv (lv' := [(0, .ref b)]) rfl ?_
  refine v_new C (T := TX11) (ci := 11) dL_law_0 inlX11 tyX11 tyX11_ok q_w1 q_w2 q_w3 rfl (fs := [.null, .null, .null, .null, .null, .null, .null, .int 0, .int 0]) (by decide) (Nat.le_of_ble_eq_true rfl) (Nat.le_of_ble_eq_true rfl) (FF_new _) (fun fs hfs => ?_)
  refine v_dup C dL_law_3 rfl ?_
  refine v_cv (v_runI C (k_fsinit (cI := cI) (cO := cO) t0 t3 t4 (va_up_same _ _ _)) (cwI 0 C.1.2.2.2.2 gL_law_X11_init rfl rfl rfl (C.1.2.2.2.2 _ q_w3) (C.1.2.2.2.2 _ q_w8) (C.1.2.2.2.2 _ q_w9) rfl (by decide +kernel) ⟨Nat.le_of_ble_eq_true rfl, Nat.le_of_ble_eq_true rfl⟩) rfl dL_law_4 (rest := [_]) (Nat.le_of_ble_eq_true rfl) rfl ⟨Nat.le_of_ble_eq_true rfl, Nat.le_of_ble_eq_true rfl⟩) (fun x' hx' => ?_)
  obtain ⟨a, na, lab, lf, f1, T1, rfl, ha0, w1, l1, r1⟩ := hx'
  refine v_astore_n C dL_law_7 rfl (by decide) (lv' := [(1, .ref fs), (0, .ref b)]) rfl ?_
  refine v_bipush C dL_law_8 (v := 61) (by decide) ?_
  refine v_newa C (N := 61) (a0 := (61, .inl (fun _ => 0))) (atype := .int) dL_law_10 q_w7i 1 t1 rfl (by first | exact vp_cell_i _ _ _ | rfl) (by decide) (by decide) (Nat.le_of_ble_eq_true rfl) (Nat.le_of_ble_eq_true rfl) (Nat.le_of_ble_eq_true rfl) (FF_new _) (fun ot hot => ?_)
  refine v_astore_n C dL_law_12 rfl (by decide) (lv' := [(2, .ref ot), (1, .ref fs), (0, .ref b)]) rfl ?_
  refine v_bipush C dL_law_13 (v := 61) (by decide) ?_
  refine v_newa C (N := 61) (a0 := (61, .inl (fun _ => 0))) (atype := .int) dL_law_15 q_w7i 1 t1 rfl (by first | exact vp_cell_i _ _ _ | rfl) (by decide) (by decide) (Nat.le_of_ble_eq_true rfl) (Nat.le_of_ble_eq_true rfl) (Nat.le_of_ble_eq_true rfl) (FF_new _) (fun ov hov => ?_)
  refine v_astore_n C dL_law_17 rfl (by decide) (lv' := [(3, .ref ov), (2, .ref ot), (1, .ref fs), (0, .ref b)]) rfl ?_
  refine v_bipush C dL_law_18 (v := 61) (by decide) ?_
  refine v_newa C (N := 61) (a0 := (61, .inl (fun _ => 0))) (atype := .int) dL_law_20 q_w7i 1 t1 rfl (by first | exact vp_cell_i _ _ _ | rfl) (by decide) (by decide) (Nat.le_of_ble_eq_true rfl) (Nat.le_of_ble_eq_true rfl) (Nat.le_of_ble_eq_true rfl) (FF_new _) (fun ow how => ?_)
  refine v_astore C dL_law_22 (by decide) (lv' := [(4, .ref ow), (3, .ref ov), (2, .ref ot), (1, .ref fs), (0, .ref b)]) rfl ?_
  refine v_bipush C dL_law_24 (v := 61) (by decide) ?_
  refine v_newa C (N := 61) (a0 := (61, .inl (fun _ => 0))) (atype := .int) dL_law_26 q_w7i 1 t1 rfl (by first | exact vp_cell_i _ _ _ | rfl) (by decide) (by decide) (Nat.le_of_ble_eq_true rfl) (Nat.le_of_ble_eq_true rfl) (Nat.le_of_ble_eq_true rfl) (FF_new _) (fun oy hoy => ?_)
  refine v_astore C dL_law_28 (by decide) (lv' := [(5, .ref oy), (4, .ref ow), (3, .ref ov), (2, .ref ot), (1, .ref fs), (0, .ref b)]) rfl ?_
  refine v_bipush C dL_law_30 (v := 40) (by decide) ?_
  refine v_newa C (N := 40) (a0 := (40, .inl (fun _ => 0))) (atype := .int) dL_law_32 q_w7i 1 t1 rfl (by first | exact vp_cell_i _ _ _ | rfl) (by decide) (by decide) (Nat.le_of_ble_eq_true rfl) (Nat.le_of_ble_eq_true rfl) (Nat.le_of_ble_eq_true rfl) (FF_new _) (fun oq hoq => ?_)
  refine v_astore C dL_law_34 (by decide) (lv' := [(6, .ref oq), (5, .ref oy), (4, .ref ow), (3, .ref ov), (2, .ref ot), (1, .ref fs), (0, .ref b)]) rfl ?_
  refine v_bipush C dL_law_36 (v := 48) (by decide) ?_
  refine v_newa C (N := 48) (a0 := (48, .inr (.inl (fun _ => 0)))) (atype := .long) dL_law_38 q_w7 6 t6 rfl (by first | exact vp_cell_i _ _ _ | rfl) (by decide) (by decide) (Nat.le_of_ble_eq_true rfl) (Nat.le_of_ble_eq_true rfl) (Nat.le_of_ble_eq_true rfl) (FF_new _) (fun oa hoa => ?_)
  refine v_astore C dL_law_40 (by decide) (lv' := [(7, .ref oa), (6, .ref oq), (5, .ref oy), (4, .ref ow), (3, .ref ov), (2, .ref ot), (1, .ref fs), (0, .ref b)]) rfl ?_
  refine v_bipush C dL_law_42 (v := 6) (by decide) ?_
  refine v_newa C (N := 6) (a0 := (6, .inl (fun _ => 0))) (atype := .int) dL_law_44 q_w7i 1 t1 rfl (by first | exact vp_cell_i _ _ _ | rfl) (by decide) (by decide) (Nat.le_of_ble_eq_true rfl) (Nat.le_of_ble_eq_true rfl) (Nat.le_of_ble_eq_true rfl) (FF_new _) (fun og hog => ?_)
  refine v_astore C dL_law_46 (by decide) (lv' := [(8, .ref og), (7, .ref oa), (6, .ref oq), (5, .ref oy), (4, .ref ow), (3, .ref ov), (2, .ref ot), (1, .ref fs), (0, .ref b)]) rfl ?_
  refine v_bipush C dL_law_48 (v := 21) (by decide) ?_
  refine v_newa C (N := 21) (a0 := (21, .inl (fun _ => 0))) (atype := .int) dL_law_50 q_w7i 1 t1 rfl (by first | exact vp_cell_i _ _ _ | rfl) (by decide) (by decide) (Nat.le_of_ble_eq_true rfl) (Nat.le_of_ble_eq_true rfl) (Nat.le_of_ble_eq_true rfl) (FF_new _) (fun om hom => ?_)
  refine v_astore C dL_law_52 (by decide) (lv' := [(9, .ref om), (8, .ref og), (7, .ref oa), (6, .ref oq), (5, .ref oy), (4, .ref ow), (3, .ref ov), (2, .ref ot), (1, .ref fs), (0, .ref b)]) rfl ?_
  refine v_bipush C dL_law_54 (v := 60) (by decide) ?_
  refine v_newa C (N := 60) (a0 := (60, .inr (.inl (fun _ => 0)))) (atype := .long) dL_law_56 q_w7 6 t6 rfl (by first | exact vp_cell_i _ _ _ | rfl) (by decide) (by decide) (Nat.le_of_ble_eq_true rfl) (Nat.le_of_ble_eq_true rfl) (Nat.le_of_ble_eq_true rfl) (FF_new _) (fun ok hok => ?_)
  refine v_astore C dL_law_58 (by decide) (lv' := [(10, .ref ok), (9, .ref om), (8, .ref og), (7, .ref oa), (6, .ref oq), (5, .ref oy), (4, .ref ow), (3, .ref ov), (2, .ref ot), (1, .ref fs), (0, .ref b)]) rfl ?_
  refine v_bipush C dL_law_60 (v := 60) (by decide) ?_
  refine v_newa C (N := 60) (a0 := (60, .inr (.inl (fun _ => 0)))) (atype := .long) dL_law_62 q_w7 6 t6 rfl (by first | exact vp_cell_i _ _ _ | rfl) (by decide) (by decide) (Nat.le_of_ble_eq_true rfl) (Nat.le_of_ble_eq_true rfl) (Nat.le_of_ble_eq_true rfl) (FF_new _) (fun oc hoc => ?_)
  refine v_astore C dL_law_64 (by decide) (lv' := [(11, .ref oc), (10, .ref ok), (9, .ref om), (8, .ref og), (7, .ref oa), (6, .ref oq), (5, .ref oy), (4, .ref ow), (3, .ref ov), (2, .ref ot), (1, .ref fs), (0, .ref b)]) rfl ?_
  refine v_bipush C dL_law_66 (v := 40) (by decide) ?_
  refine v_newa C (N := 40) (a0 := (40, .inr (.inl (fun _ => 0)))) (atype := .long) dL_law_68 q_w7 6 t6 rfl (by first | exact vp_cell_i _ _ _ | rfl) (by decide) (by decide) (Nat.le_of_ble_eq_true rfl) (Nat.le_of_ble_eq_true rfl) (Nat.le_of_ble_eq_true rfl) (FF_new _) (fun ol hol => ?_)
  refine v_astore C dL_law_70 (by decide) (lv' := [(12, .ref ol), (11, .ref oc), (10, .ref ok), (9, .ref om), (8, .ref og), (7, .ref oa), (6, .ref oq), (5, .ref oy), (4, .ref ow), (3, .ref ov), (2, .ref ot), (1, .ref fs), (0, .ref b)]) rfl ?_
  subst ha0
  obtain ⟨ad, al, ⟨a0, a1, a2, a3, a4, a5, a6⟩, ⟨b0, b1, b2, b3⟩, hof⟩ := L_of9 (D := D) (cC := cC) (cI := cI) (cJ := cJ) (A := fun q => s.heap.size ≤ q) (f := f1) (T := T1) (ot := ot) (ov := ov) (ow := ow) (oy := oy) (oq := oq) (oa := oa) (og := og) (om := om) (ok := ok) (oc := oc) (ol := ol) ⟨hot.1, hov.1, how.1, hoy.1, hoq.1, hoa.1, hog.1, hom.1, hok.1, hoc.1, hol.1, trivial⟩
  refine v_px (fun H hP => hof H hP) ?_
  refine v_lv (lv' := [(12, .ref (al 3)), (11, .ref (al 2)), (10, .ref (al 1)), (9, .ref (ad 6)), (8, .ref (ad 5)), (7, .ref (al 0)), (6, .ref (ad 4)), (5, .ref (ad 3)), (4, .ref (ad 2)), (3, .ref (ad 1)), (2, .ref (ad 0)), (1, .ref (a 0)), (0, .ref b)]) (by rw [a0, a1, a2, a3, a4, a5, a6, b0, b1, b2, b3]) ?_
  clear hof
  refine v_aload C dL_law_72 (j := 4) rfl ?_
  refine v_iconst C dL_law_74 (v := 0) (by decide) ?_
  refine v_bipush C dL_law_75 (v := 32) (by decide) ?_
  refine v_iast C dL_law_77 1 t1 (by unfold vp_in; decide) (N_sg _) ?_
  obtain ⟨X1, hX1, g0, go, gx⟩ : ∃ X1 : Nat → Nat → Int32, X1 = va_up (fun _ _ => 0) 5 (upd ((fun _ _ => 0 : Nat → Nat → Int32) 5) (0 : Int32).toNatClampNeg 32) ∧ X1 5 0 = 32 ∧ (∀ j, j ≠ 0 → X1 5 j = 0) ∧ ∀ i j, i ≠ 5 → X1 i j = 0 := ⟨_, rfl, by rw [va_up_same]; rfl, fun j hj => by rw [va_up_same]; exact if_neg hj, fun i j hi => by rw [va_up_other _ _ _ hi]⟩
  rw [← hX1]
  clear hX1
  have hA0 : nA X1 (fun _ _ => 0) S0 := nA_0 g0 (go 1 (by decide)) (fun j j0 _ => go j j0) gx
  have hF0 : fI z0 cI cO cT cR a na (f1, T1) S0 := ⟨false, lab, lf, w1, l1, r1⟩
  refine v_aload_n C dL_law_78 (j := 11) rfl rfl ?_
  refine v_aload_n C dL_law_79 (j := 10) rfl rfl ?_
  refine v_aload C dL_law_80 (j := 4) rfl ?_
  refine v_ci (v_runS C (n_isRecord hT hF0 hA0) (va_cwS 3 C.1.2.2.2.2 gL_law_L_isRecord rfl rfl rfl (by decide +kernel) ⟨Nat.le_of_ble_eq_true rfl, Nat.le_of_ble_eq_true rfl⟩) rfl dL_law_82 (rest := []) (Nat.le_of_ble_eq_true rfl) rfl ⟨Nat.le_of_ble_eq_true rfl, Nat.le_of_ble_eq_true rfl⟩) (fun q x' hp => ?_)
  obtain ⟨x3, rfl, rfl, hF3⟩ := hp
  refine v_if_eq C 116 dL_law_85 (by decide) (fun h9 => absurd h9 (by decide)) (fun _ => ?_)
  refine v_aload_n C dL_law_88 (j := 11) rfl rfl ?_
  refine v_aload C dL_law_89 (j := 4) rfl ?_
  refine v_aload C dL_law_91 (j := 3) rfl ?_
  refine v_aload C dL_law_93 (j := 2) rfl ?_
  refine v_aload C dL_law_95 (j := 1) rfl ?_
  refine v_aload C dL_law_97 (j := 0) rfl ?_
  refine v_ci (v_runS C (n_areRows hT hF3 hA0 (okS_0 0)) (va_cwS 6 C.1.2.2.2.2 gL_law_L_areRows rfl rfl rfl (by decide +kernel) ⟨Nat.le_of_ble_eq_true rfl, Nat.le_of_ble_eq_true rfl⟩) rfl dL_law_99 (rest := []) (Nat.le_of_ble_eq_true rfl) rfl ⟨Nat.le_of_ble_eq_true rfl, Nat.le_of_ble_eq_true rfl⟩) (fun q x' hp => ?_)
  obtain ⟨x4, rfl, rfl, hF4⟩ := hp
  refine v_if_eq C 116 dL_law_102 (by decide) (fun h9 => absurd h9 (by decide)) (fun _ => ?_)
  refine v_aload_n C dL_law_105 (j := 11) rfl rfl ?_
  refine l_iF C (ci := 11) (F_end t0 t1 t3 t4 t5 (al_ch _ (okS_0 0).1) hF4) (cwV 0 C.1.2.2.2.2 gL_law_X11_end rfl rfl rfl (by decide +kernel) ⟨Nat.le_of_ble_eq_true rfl, Nat.le_of_ble_eq_true rfl⟩) rfl rfl hF4.gC dL_law_106 (rest := []) (Nat.le_of_ble_eq_true rfl) rfl ⟨Nat.le_of_ble_eq_true rfl, Nat.le_of_ble_eq_true rfl⟩ (fun q x5 hp => ?_)
  obtain ⟨rfl, hF5⟩ := hp
  replace hF5 : fI z0 cI cO cT cR a na x5 (32, 1, [], ([], [], [], 0), []) := hF5
  refine v_if_ne C 116 dL_law_109 (by decide) (fun h9 => absurd rfl h9) (fun _ => ?_)
  refine v_iconst C dL_law_112 (v := 1) (by decide) ?_
  refine v_goto C 117 dL_law_113 (by decide) ?_
  refine v_istore C dL_law_117 (by decide) (lv' := [(13, .int 1), (12, .ref (al 3)), (11, .ref (al 2)), (10, .ref (al 1)), (9, .ref (ad 6)), (8, .ref (ad 5)), (7, .ref (al 0)), (6, .ref (ad 4)), (5, .ref (ad 3)), (4, .ref (ad 2)), (3, .ref (ad 1)), (2, .ref (ad 0)), (1, .ref (a 0)), (0, .ref b)]) rfl ?_
  refine v_aload C dL_law_119 (j := 5) rfl ?_
  refine v_iconst C dL_law_121 (v := 1) (by decide) ?_
  refine v_iconst C dL_law_122 (v := 1) (by decide) ?_
  refine v_iast C dL_law_123 1 t1 (by unfold vp_in; decide) (N_sg _) ?_
  obtain ⟨X2, hX2, k0, k1, ko, kx⟩ : ∃ X2 : Nat → Nat → Int32, X2 = va_up X1 5 (upd (X1 5) (1 : Int32).toNatClampNeg 1) ∧ X2 5 0 = 32 ∧ X2 5 1 = 1 ∧ (∀ j, j ≠ 0 → j ≠ 1 → X2 5 j = 0) ∧ ∀ i j, i ≠ 5 → X2 i j = 0 := ⟨_, rfl, by rw [va_up_same]; exact g0, by rw [va_up_same]; rfl, fun j j0 j1 => by rw [va_up_same]; exact (if_neg j1).trans (go j j0), fun i j hi => by rw [va_up_other _ _ _ hi]; exact gx i j hi⟩
  rw [← hX2]
  clear hX2
  refine v_iconst C dL_law_124 (v := nI 0) (by decide) ?_
  refine v_istore C dL_law_125 (by decide) (lv' := lvL 0 b ad al a) rfl ?_
  refine v_kn (k' := 5000 + 4730 * 0) (n' := 34000 + 28400 * 0) (Nat.le_of_ble_eq_true rfl) (Nat.le_of_ble_eq_true rfl) ?_
  exact law_loop hT C hr (fun _ h => h) ⟨hX, hbl, Nat.not_le.mpr hbl⟩ hL hF5 (nA_0 k0 k1 ko kx) (okS_0 1) (N := 1) rfl (by decide) (by decide)
