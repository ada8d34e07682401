/-! ===== the law's start ===== -/
theorem v_px {p : Program} {l : Launch} {e : Env} {R : Room} {s : State} {m : MethodId} {args : Array Value} {below : List Frame} {meth : Method} {c : Code} {Q : State → Prop} {σ σ' : Type} {pic : σ → Heap → Prop} {pic' : σ' → Heap → Prop} {A : Nat → Prop} {nL k n pc : Nat} {lv : List (Nat × Value)} {st : List Value} {x : σ} {x' : σ'} (h : ∀ H, pic x H → pic' x' H) (kk : vv pic' A nL p l e R s m args below meth c Q x' k n pc lv st) : vv pic A nL p l e R s m args below meth c Q x k n pc lv st := fun H locs ls hP hS hl => kk H locs ls (h H hP) hS hl
theorem tyP {s : State} {args : Array Value} {ty : FieldType} (h : (Cond.arrayClass ty).before args s = true) (hp : ∀ c, s.vm.findClass ("[" ++ ty.toString) = some c → va_RA s c ty) : ∃ c, ArrOfT s c ty ∧ va_RA s c ty := by
  obtain ⟨c, k, comp, h1, h2, h3⟩ := Cond.arrayClass_spec h
  exact ⟨c, fun n z => ⟨fun k h => (by cases h), k, h2, comp, h3⟩, hp c h1⟩
theorem tyO {s : State} {args : Array Value} {C : String} (h : (Cond.arrayOver (.object C)).before args s = true) : ∃ c, ArrOfT s c (.object C) ∧ va_RA s c (.object C) := by
  obtain ⟨comp, c, k, h1, h2, h3, h4, h5⟩ := Cond.arrayOver_spec h
  exact ⟨c, fun n z => ⟨fun k h => (by cases h), k, h3, comp, h4⟩, k, comp, h3, h4, h1, h5⟩
theorem kn_of {s : State} (cl : List vw_C) (h : ∀ q ∈ cl, ∃ (cC : ClassId) (iS : Nat → Nat), u_Kn s q.1 q.2.1 q.2.2 cC iS) : ∃ D : va_G, ∀ (k : Nat) (q : vw_C), cl[k]? = some q → u_Kn s q.1 q.2.1 q.2.2 (D.1 k) (D.2 k) := by
  have h2 : ∀ k : Nat, ∃ r : ClassId × (Nat → Nat), ∀ q : vw_C, cl[k]? = some q → u_Kn s q.1 q.2.1 q.2.2 r.1 r.2 := by
    intro k
    cases hk : cl[k]? with
    | none => exact ⟨((0 : Nat), fun _ => 0), fun q hq => by cases hq⟩
    | some q =>
      obtain ⟨cC, iS, h9⟩ := h q (List.mem_of_getElem? hk)
      exact ⟨(cC, iS), fun q' hq' => by cases hq'; exact h9⟩
  exact ⟨(fun k => (Classical.choose (h2 k)).1, fun k => (Classical.choose (h2 k)).2), fun k q hq => Classical.choose_spec (h2 k) q hq⟩
theorem nw_of {w : Cond} (h : nw_kind w = true) {args : Array Value} {s : State} (hb : w.before args s = true) : va_Nw w s := by
  unfold nw_kind at h
  split at h
  · exact hb
  · exact hb
  · exact hb
  · exact hb
  · exact hb
  · cases h
abbrev aDEC : Term := .static "java/util/ArrayList" "DEFAULTCAPACITY_EMPTY_ELEMENTDATA" "[Ljava/lang/Object;"
theorem q_nwl : ∀ w ∈ nwl, w ∈ lw_tbl := by decide +kernel
theorem q_str : ∀ q ∈ stl, Cond.stringRef RX11 q.1 q.2 ∈ lw_tbl := by decide +kernel
theorem q_ex : ∀ q ∈ stl, Cond.exactly (.string RX11 q.1) "java/lang/String" ∈ flatC (Jvm.Cond.and given_1 narrow_1) := by decide +kernel
theorem q_ncl : ∀ q ∈ ncl, Cond.not (.castable q.1 q.2) ∈ flatC (Jvm.Cond.and given_1 narrow_1) := by decide +kernel
theorem q_mi : Cond.isRef (.mirror "[Ljava/lang/Object;") ∈ flatC (Jvm.Cond.and given_1 narrow_1) := by decide +kernel
theorem q_us : Cond.isRef (.static Bundle.tN "UNASSIGNED_STACK" Bundle.steD) ∈ flatC (Jvm.Cond.and given_1 narrow_1) := by decide +kernel
theorem q_ss : Cond.isRef (.static Bundle.tN "SUPPRESSED_SENTINEL" Bundle.listD) ∈ flatC (Jvm.Cond.and given_1 narrow_1) := by decide +kernel
theorem q_lu : Cond.laysStatic Bundle.tN "UNASSIGNED_STACK" Bundle.steD ∈ lw_tbl := by decide +kernel
theorem q_ls : Cond.laysStatic Bundle.tN "SUPPRESSED_SENTINEL" Bundle.listD ∈ lw_tbl := by decide +kernel
theorem q_it : Cond.initialized Bundle.tN ∈ lw_tbl := by decide +kernel
theorem q_la : Cond.laysStatic "java/util/ArrayList" "DEFAULTCAPACITY_EMPTY_ELEMENTDATA" "[Ljava/lang/Object;" ∈ lw_tbl := by decide +kernel
theorem q_ia : Cond.initialized "java/util/ArrayList" ∈ lw_tbl := by decide +kernel
theorem q_ea : Cond.exactly aDEC "[Ljava/lang/Object;" ∈ flatC (Jvm.Cond.and given_1 narrow_1) := by decide +kernel
theorem q_aa : Cond.arrayOf aDEC (.object "java/lang/Object") ∈ flatC (Jvm.Cond.and given_1 narrow_1) := by decide +kernel
theorem q_za : Cond.eq (.length aDEC) (.int 0) ∈ flatC (Jvm.Cond.and given_1 narrow_1) := by decide +kernel
theorem q_ac : Cond.arrayClass .char ∈ lw_tbl ∧ Cond.arrayClass .int ∈ lw_tbl ∧ Cond.arrayClass .boolean ∈ lw_tbl ∧ Cond.arrayClass .long ∈ lw_tbl := ⟨by decide +kernel, by decide +kernel, by decide +kernel, by decide +kernel⟩
theorem q_ao : Cond.arrayOver (.object RX6) ∈ lw_tbl ∧ Cond.arrayOver (.object RX10) ∈ lw_tbl ∧ Cond.arrayOver (.object "java/lang/Object") ∈ lw_tbl := ⟨by decide +kernel, by decide +kernel, by decide +kernel⟩
theorem q_cl : ∀ q ∈ vwCl, Cond.instantiable q.1 q.2.2 ∈ lw_tbl := by decide +kernel
theorem kn_start {s : State} {args : Array Value} (hts : ∀ w ∈ lw_tbl, w.before args s = true) (hs : ∀ w ∈ flatC (Jvm.Cond.and given_1 narrow_1), w.before args s = true) : kn s := by
  refine ⟨fun w hw => nw_of (nwl_ok w hw) (hts w (q_nwl w hw)), fun q hq => va_Nc.of (hs _ (q_ncl q hq)), fun q hq => ?_, va_Mi.of (hs _ q_mi)⟩
  obtain ⟨a, c9, cell, k9, e1, -⟩ := Cond.exactly_spec (hs _ (q_ex q hq))
  exact ⟨a, vk_R.of (hts _ (q_str q hq)) e1⟩
theorem cl_start {s : State} {args : Array Value} (hts : ∀ w ∈ lw_tbl, w.before args s = true) : ∃ D : va_G, ∀ (k : Nat) (q : vw_C), vwCl[k]? = some q → u_Kn s q.1 q.2.1 q.2.2 (D.1 k) (D.2 k) := by
  refine kn_of vwCl (fun q hq => ?_)
  have hi := hts _ (q_cl q hq)
  have hm : ∀ w ∈ u_ws q.1 q.2.1 q.2.2, w ∈ lw_tbl := by
    simp only [vwCl, List.mem_cons, List.not_mem_nil, or_false] at hq
    rcases hq with rfl | rfl | rfl | rfl | rfl | rfl | rfl | rfl | rfl | rfl | rfl | rfl | rfl
    · exact inJx4a65c
    · exact inX0
    · exact inX1
    · exact inX2
    · exact inX4
    · exact inX5
    · exact inX6
    · exact inX7
    · exact inX8
    · exact inX9
    · exact inX10
    · exact inX11
    · exact inX12
  exact u_known hts hm hi
theorem kz_start {s : State} {args : Array Value} (hts : ∀ w ∈ lw_tbl, w.before args s = true) (hs : ∀ w ∈ flatC (Jvm.Cond.and given_1 narrow_1), w.before args s = true) : ∃ z0, kz z0 (fun q => s.heap.size ≤ q) s s.heap := by
  have hA : ∀ a : Nat, a < s.heap.size → ¬ (fun q => s.heap.size ≤ q) a := fun a h => Nat.not_le.mpr h
  have hlen := va_eqt (hs _ q_za)
  obtain ⟨z0, cell, ht, hat, hv⟩ := Term.length_spec hlen
  have hcell := (State.arrayAt?_spec hat).1
  have hz : z0 < s.heap.size := (Array.getElem?_eq_some_iff.mp hcell).1
  exact ⟨z0, va_Zof (hts _ q_la) (hts _ q_ia) ht hA, hA z0 hz, cell, hcell, (Cond.arrayOf_spec (hs _ q_aa) ht hcell).1, (Value.int.inj hv).symm⟩
theorem kw_start {l : Launch} {s : State} {args : Array Value} (hl : l.stackTraces = false) (hts : ∀ w ∈ lw_tbl, w.before args s = true) (hs : ∀ w ∈ flatC (Jvm.Cond.and given_1 narrow_1), w.before args s = true) : ∃ (D : va_G) (tys : List (ClassId × FieldType)) (z0 : Nat) (cC cI cZ cR cT cO cJ : ClassId), kw D tys z0 (fun q => s.heap.size ≤ q) s ∧ lwT l tys cC cI cZ cR cT cO cJ := by
  have hA : ∀ a : Nat, a < s.heap.size → ¬ (fun q => s.heap.size ≤ q) a := fun a h => Nat.not_le.mpr h
  obtain ⟨D, hD⟩ := cl_start hts
  obtain ⟨z0, hz⟩ := kz_start hts hs
  obtain ⟨cC, t0⟩ := tyP (hts _ q_ac.1) (fun _ h => h)
  obtain ⟨cI, t1⟩ := tyP (hts _ q_ac.2.1) (fun _ h => h)
  obtain ⟨cZ, t2⟩ := tyP (hts _ q_ac.2.2.1) (fun _ h => h)
  obtain ⟨cJ, t6⟩ := tyP (hts _ q_ac.2.2.2) (fun _ h => h)
  obtain ⟨cR, t3⟩ := tyO (hts _ q_ao.1)
  obtain ⟨cT, t4⟩ := tyO (hts _ q_ao.2.1)
  obtain ⟨cO, t5⟩ := tyO (hts _ q_ao.2.2)
  refine ⟨D, [(cC, .char), (cI, .int), (cZ, .boolean), (cR, .object RX6), (cT, .object RX10), (cO, .object "java/lang/Object"), (cJ, .long)], z0, cC, cI, cZ, cR, cT, cO, cJ, ⟨⟨hD, fun k q hq => ?_⟩, fun _ h => h, vx_Zqof (hts _ q_lu) (hts _ q_it) (hs _ q_us) hA, vx_Zqof (hts _ q_ls) (hts _ q_it) (hs _ q_ss) hA, hz, kn_start hts hs⟩, hl, rfl, rfl, rfl, rfl, rfl, rfl, rfl⟩
  match k, hq with
  | 0, hq => cases hq; exact t0
  | 1, hq => cases hq; exact t1
  | 2, hq => cases hq; exact t2
  | 3, hq => cases hq; exact t3
  | 4, hq => cases hq; exact t4
  | 5, hq => cases hq; exact t5
  | 6, hq => cases hq; exact t6
  | k + 7, hq => simp at hq
theorem q_w1 : Cond.classLink RL 8 RX11 ∈ wsL_law := by decide +kernel
theorem q_w2 : Cond.instantiable RX11 9 ∈ wsL_law := by decide +kernel
theorem q_w3 : Cond.initialized RX11 ∈ wsL_law := by decide +kernel
theorem q_w4 : Cond.classLink RL 51 RX12 ∈ wsL_law := by decide +kernel
theorem q_w5 : Cond.instantiable RX12 34 ∈ wsL_law := by decide +kernel
theorem q_w6 : Cond.initialized RX12 ∈ wsL_law := by decide +kernel
theorem q_w7 : Cond.arrayClass (newarray.typeOf .long) ∈ wsL_law := by decide +kernel
theorem q_w8 : Cond.methodLink RL 50 yX11_init ∈ wsL_law := by decide +kernel
theorem q_w9 : Cond.instanceMethod yX11_init ∈ wsL_law := by decide +kernel
theorem q_w10 : Cond.methodLink RL 53 yX12_init ∈ wsL_law := by decide +kernel
theorem q_w11 : Cond.instanceMethod yX12_init ∈ wsL_law := by decide +kernel
theorem picF_0 {D : va_G} {cC : ClassId} {A : Nat → Prop} {H : Heap} : picF D cC A (fun _ => none, fun _ => none) H := ⟨fun _ => none, fun _ => 0, fun _ _ => 0, ⟨fun t => rfl, fun t a j h => (by cases h)⟩, ⟨fun a e h => (by cases h), fun t a h => (by cases h), fun t t' a h => (by cases h), fun t a h => (by cases h)⟩⟩
set_option maxHeartbeats 4000000 in
set_option maxRecDepth 100000 in
/-- the law, from its entry -/
theorem whole_start {p : Program} {e : Env} {s : State} {m : MethodId} {below : List Frame} {meth : Method} {c : Code} (l : Launch) (hflags : l.flags = flags0) {b L : Nat} {xs : Nat → Int32} (hL : L ≤ 3584) (C0 : lw_At p s m meth c b L xs) : W p l e room_1 s m #[Value.ref b] below meth c s.heap [] 0 0 (lw_Z below #[Value.ref b] s) (entryFrame m ([Value.ref b] : List Value).toArray 7) := by
  obtain ⟨hx, hb, hr, hml, hown, hts, hX, hbl, hlocks, hgv⟩ := id C0
  have hs := flat_of_before _ hgv
  have hl : l.stackTraces = false := by unfold Launch.stackTraces; rw [hflags]; decide +kernel
  obtain ⟨D, tys, z0, cC, cI, cZ, cR, cT, cO, cJ, hkw, hT⟩ := kw_start hl hts hs
  have C : cx p s m #[Value.ref b] meth c code 7 wsL_law RL D tys z0 (fun q => s.heap.size ≤ q) := ⟨⟨hx, hb, hml, hown, fun w hw => hts w (wsL_law_in w hw)⟩, hkw, hlocks⟩
  have t := hT
  obtain ⟨-, t0, t1, t2, t3, t4, t5, t6⟩ := t
  rw [lg_entry_eq]
  suffices K : vv (picF D cC (fun q => s.heap.size ≤ q)) (fun q => s.heap.size ≤ q) 7 p l e room_1 s m #[Value.ref b] below meth c (lw_Z below #[Value.ref b] s) (fun _ => none, fun _ => none) 0 0 0 (lv_args 0 [.ref b]) [] from K s.heap [] _ picF_0 va_S.rf (lv_entry [.ref b] (Nat.le_of_ble_eq_true rfl))
  refine v_lv (lv' := [(0, .ref b)]) rfl ?_
  refine v_new C (T := TX11) (ci := 11) dL_law_0 inlX11 tyX11 tyX11_ok q_w1 q_w2 q_w3 rfl (fs := [.null, .null, .null, .null, .null, .null, .null, .int 0, .int 0]) (by decide) (Nat.le_of_ble_eq_true rfl) (Nat.le_of_ble_eq_true rfl) (FF_new _) (fun fs hfs => ?_)
  refine v_dup C dL_law_3 rfl ?_
  refine v_cv (v_runI C (k_fsinit (cI := cI) (cO := cO) t0 t3 t4 (va_up_same _ _ _)) (cwI 0 C.1.2.2.2.2 gL_law_X11_init rfl rfl rfl (C.1.2.2.2.2 _ q_w3) (C.1.2.2.2.2 _ q_w8) (C.1.2.2.2.2 _ q_w9) rfl (by decide +kernel) ⟨Nat.le_of_ble_eq_true rfl, Nat.le_of_ble_eq_true rfl⟩) rfl dL_law_4 (rest := [_]) (Nat.le_of_ble_eq_true rfl) rfl ⟨Nat.le_of_ble_eq_true rfl, Nat.le_of_ble_eq_true rfl⟩) (fun x' hx' => ?_)
  obtain ⟨a, na, lab, lf, f1, T1, rfl, ha0, w1, l1, r1⟩ := hx'
  refine v_astore_n C dL_law_7 rfl (by decide) (lv' := [(1, .ref fs), (0, .ref b)]) rfl ?_
  refine v_new C (T := TX12) (ci := 12) dL_law_8 inlX12 tyX12 tyX12_ok q_w4 q_w5 q_w6 rfl (fs := (vM []).set 0 (.int 0)) (by decide) (Nat.le_of_ble_eq_true rfl) (Nat.le_of_ble_eq_true rfl) (FF_new _) (fun md hmd => ?_)
  refine v_dup C dL_law_11 rfl ?_
  refine v_cv (v_runI C (m_init t1 t2 (va_up_same _ _ _)) (cwI 0 C.1.2.2.2.2 gL_law_X12_init rfl rfl rfl (C.1.2.2.2.2 _ q_w6) (C.1.2.2.2.2 _ q_w10) (C.1.2.2.2.2 _ q_w11) rfl (by decide +kernel) ⟨Nat.le_of_ble_eq_true rfl, Nat.le_of_ble_eq_true rfl⟩) rfl dL_law_12 (rest := [_]) (Nat.le_of_ble_eq_true rfl) rfl ⟨Nat.le_of_ble_eq_true rfl, Nat.le_of_ble_eq_true rfl⟩) (fun x' hx' => ?_)
  obtain ⟨ad, f2, rfl, hmI⟩ := hx'
  refine v_astore_n C dL_law_15 rfl (by decide) (lv' := [(2, .ref md), (1, .ref fs), (0, .ref b)]) rfl ?_
  refine v_iconst C dL_law_16 (v := 1) (by decide) ?_
  refine v_newa C (N := 1) (a0 := (1, .inr (.inl (fun _ => 0)))) (atype := .long) dL_law_17 q_w7 6 t6 rfl rfl (by decide) (by decide) (Nat.le_of_ble_eq_true rfl) (Nat.le_of_ble_eq_true rfl) (Nat.le_of_ble_eq_true rfl) (FF_new _) (fun oa hoa => ?_)
  refine v_astore_n C dL_law_19 rfl (by decide) (lv' := [(3, .ref oa), (2, .ref md), (1, .ref fs), (0, .ref b)]) rfl ?_
  refine v_iconst C dL_law_20 (v := nI 0) (by decide) ?_
  refine v_istore C dL_law_21 (by decide) (lv' := [(4, .int (nI 0)), (3, .ref oa), (2, .ref md), (1, .ref fs), (0, .ref b)]) rfl ?_
  subst ha0
  refine v_sub (lv' := lvL 0 b (a 0) md oa) [0, 4, 3, 2, 1] rfl ?_
  refine v_px (fun H hP => L_of (f := f1) (cJ := cJ) hmd.1 hmI hoa.1 rfl hP) ?_
  refine law_loop hT C hr (fun _ h => h) ⟨hX, hbl, Nat.not_le.mpr hbl, hL⟩ 512 0 0 _ _ _ (lI_of (S := S0) ⟨by unfold ch; rfl, 0, Nat.le_refl 0, rfl⟩ ⟨false, lab, lf, w1, l1, r1⟩ gI_0) (by omega) (Nat.zero_le L) (Nat.le_of_ble_eq_true rfl) (Nat.le_of_ble_eq_true rfl) (Nat.le_of_ble_eq_true rfl)
