/-! THE CLAIM OUT OF ONE WALK OF THE LAW'S BODY. Your part is whole_start (and what it stands on); all else here is the same for every law, but numbers. -/
def R_law : String := "FieldScribeLaw"
def lw_P (b : Addr) (xs : List Int32) (args : Array Value) (s : State) : Prop := args = #[.ref b] ∧ s.IntsAt b xs ∧ xs.length ≤ 3584 ∧ (Jvm.Cond.and given_1 narrow_1).before args s = true
def lw_Q (_ : Array Value) (s : State) (o : Outcome) (t : State) : Prop := o = .returned (some (.int 1)) ∧ Framed s o t [] 601024 7293034
def lw_Z (below : List Frame) (a : Array Value) (s : State) : State → Prop := fun t => ∃ o, t.status = .running ∧ Ended t below o ∧ lw_Q a s o t
/-- the law's own end, with 1 on the stack, nothing written that was there before, its room as the claim has it -/
theorem lw_ret {p : Program} {l : Launch} {e : Env} {s : State} {m : MethodId} {below : List Frame} {meth : Method} {c : Code} {b : Nat} (hx : p.tables.exec = Jvm.exec) (hb : c.code = code) (hr : meth.sig.returnType = ret) (hlocks : meth.locks = false) {pc : Nat} {H : Heap} {ls : Array Slot} (hdg : decode code pc = .ok (.ireturn, 1)) : W p l e room_1 s m #[Value.ref b] below meth c H [] 601024 7293034 (lw_Z below #[Value.ref b] s) (F0 m pc ls [.int 1]) := by
  intro T hT X
  obtain ⟨fs, hret, hrun, hended, hW, hframe⟩ := X.leave (v := some (.int 1)) (hlocks := hlocks) (fun h => by rw [hr] at h; cases h)
  have hmeth' : T.vm.method? m = some meth := X.method'
  refine ⟨T.setFrames fs, ?_, .returned (some (.int 1)), hrun, hended, rfl, ⟨_, rfl⟩, hW, hframe⟩
  jvm_step X.here [X.here.top, hx, hb, hdg, hmeth', hr, ret, narrow_b1]
  (try refine ⟨rfl, ?_⟩); (try refine ⟨rfl, ?_⟩)
  first | (intro acts; rw [hret _ acts rfl rfl rfl]) | rw [hret _ _ rfl rfl rfl]
  exact Steps.refl _
/-- what holds at the law's entry: the machine, the code, the tables' words (any of lw_tbl by 'hts w (by decide +kernel)'), the script of L ints xs at the cell b, what the Statement gives of the start (any of its parts by flat_of_before) -/
def lw_At (p : Program) (s : State) (m : MethodId) (meth : Method) (c : Code) (b L : Nat) (xs : Nat → Int32) : Prop :=
  p.tables.exec = Jvm.exec ∧ c.code = code ∧ meth.sig.returnType = ret ∧ c.maxLocals = 7 ∧ s.vm.findClass R_law = some m.cls ∧ (∀ w ∈ lw_tbl, w.before #[Value.ref b] s = true) ∧ va_X b L xs s s.heap ∧ b < s.heap.size ∧ meth.locks = false ∧ (Jvm.Cond.and given_1 narrow_1).before #[Value.ref b] s = true
/-! ===== the law's loop ===== -/
theorem and15 (v : Int32) : ∃ j, j < 16 ∧ v &&& 15 = nI j := by
  refine ⟨(v &&& 15).toBitVec.toNat, ?_, ?_⟩
  · rw [Int32.toBitVec_and, BitVec.toNat_and, show (15 : Int32).toBitVec.toNat = 15 from by decide]
    exact Nat.lt_of_le_of_lt Nat.and_le_right (by decide)
  · apply Int32.toBitVec_inj.mp
    simp [nI]
theorem sub7 {L i : Nat} (hL : L ≤ 3584) (hi : i < 2 ^ 31) (h : ¬ nI L - 7 < nI i) : i + 7 ≤ L := by
  have h1 : (nI L - 7).toInt = (L : Int) - 7 := by
    rw [Int32.toInt_sub, nI_toInt (by omega), show (7 : Int32).toInt = 7 from by decide]
    show Int.bmod ((L : Int) - 7) 4294967296 = (L : Int) - 7
    simp only [Int.bmod]
    split <;> omega
  rw [Int32.lt_iff_toInt_lt, h1, nI_toInt hi] at h
  omega
section LOOP
variable {p : Program} {l : Launch} {e : Env} {s : State} {m : MethodId} {below : List Frame} {meth : Method} {c : Code}
variable {D : va_G} {tys : List (ClassId × FieldType)} {z0 : Nat} {A : Nat → Prop} {cC cI cZ cJ cO cT cR : ClassId} {md oa b L : Nat} {ad a na : Nat → Nat} {xs : Nat → Int32}
theorem lw_end9 {σ : Type} {pic : σ → Heap → Prop} {x : σ} {k n : Nat} {lv : List (Nat × Value)} (C : cx p s m #[Value.ref b] meth c code 7 wsL_law RL D tys z0 A) (hr : meth.sig.returnType = ret) (hA : ∀ q, A q → s.heap.size ≤ q) (hk : k ≤ 601024) (hn : n ≤ 7293034) : vv pic A 7 p l e room_1 s m #[Value.ref b] below meth c (lw_Z below #[Value.ref b] s) x k n 924 lv [] := by
  refine v_iconst C dL_law_924 (v := 1) (by decide) ?_
  intro H locs ls hP hS hl9
  refine W.widen hk hn ?_
  have h := lw_ret (p := p) (l := l) (e := e) (s := s) (m := m) (below := below) (b := b) (H := H) (ls := ls) C.1.1 C.1.2.1 hr C.2.2 dL_law_925
  exact W.forget (L := locs) (locs := []) (fun q hq => hA _ (hS.2.2 q hq)) h
set_option maxRecDepth 100000 in
set_option maxHeartbeats 4000000 in
theorem law_body {k n i N : Nat} {x : lS} {Q : State → Prop} (hT : lwT l tys cC cI cZ cR cT cO cJ) (C : cx p s m #[Value.ref b] meth c code 7 wsL_law RL D tys z0 A) (hX : va_X b L xs s s.heap ∧ b < s.heap.size ∧ ¬ A b ∧ L ≤ 3584) (hi : i + 7 ≤ L) (hN : N < 512) (hk : k + 8 ≤ room_1.cells ∧ n + 88 ≤ room_1.slots) (hI : lI z0 cI cO cT cR a na N x) (K : ∀ x', lI z0 cI cO cT cR a na (N + 1) x' → vv (picL D cC cI cZ cJ md oa ad A) A 7 p l e room_1 s m #[Value.ref b] below meth c Q x' (k + 8) (n + 88) 918 (lvL i b (a 0) md oa) []) : vv (picL D cC cI cZ cJ md oa ad A) A 7 p l e room_1 s m #[Value.ref b] below meth c Q x k n 33 (lvL i b (a 0) md oa) [] := by
  refine v_aload_n C dL_law_33 (j := 1) rfl rfl ?_
  refine v_iload C dL_law_34 (j := 0) rfl ?_
  refine v_sld C hX.1 hX.2.1 hX.2.2.1 (vp_in_nI (n := i) (by omega) (by omega)) dL_law_36 ?_
  refine v_bipush C dL_law_37 (v := 15) (by decide) ?_
  refine v_iand C dL_law_39 ?_
  obtain ⟨j, hj, hj2⟩ := and15 (xs (nI i).toNatClampNeg)
  refine v_int (b := nI j) hj2 ?_
  clear hj2
  rcases (show j = 0 ∨ j = 1 ∨ j = 2 ∨ j = 3 ∨ j = 4 ∨ j = 5 ∨ j = 6 ∨ j = 7 ∨ j = 8 ∨ j = 9 ∨ j = 10 ∨ j = 11 ∨ j = 12 ∨ j = 13 ∨ j = 14 ∨ j = 15 by omega) with rfl | rfl | rfl | rfl | rfl | rfl | rfl | rfl | rfl | rfl | rfl | rfl | rfl | rfl | rfl | rfl
  · exact v_tabIn (off := 80) C 120 dL_law_40 (by decide) (by decide) (by decide) (by decide) (law_rule hT C hX hi hN hk hI K)
  · exact v_tabIn (off := 160) C 200 dL_law_40 (by decide) (by decide) (by decide) (by decide) (law_act hT C hX hi hN hk hI K)
  · exact v_tabIn (off := 278) C 318 dL_law_40 (by decide) (by decide) (by decide) (by decide) (law_useStack hT C hX hi hN hk hI K)
  · exact v_tabIn (off := 317) C 357 dL_law_40 (by decide) (by decide) (by decide) (by decide) (law_setSeparator hT C hX hi hN hk hI K)
  · exact v_tabIn (off := 373) C 413 dL_law_40 (by decide) (by decide) (by decide) (by decide) (law_type hT C hX hi hN hk hI K)
  · exact v_tabIn (off := 429) C 469 dL_law_40 (by decide) (by decide) (by decide) (by decide) (law_end hT C hX hi hN hk hI K)
  · exact v_tabIn (off := 442) C 482 dL_law_40 (by decide) (by decide) (by decide) (by decide) (law_setField hT C hX hi hN hk hI K)
  · exact v_tabIn (off := 510) C 550 dL_law_40 (by decide) (by decide) (by decide) (by decide) (law_fields hT C hX hi hN hk hI K)
  · exact v_tabIn (off := 523) C 563 dL_law_40 (by decide) (by decide) (by decide) (by decide) (law_number hT C hX hi hN hk hI K)
  · exact v_tabIn (off := 579) C 619 dL_law_40 (by decide) (by decide) (by decide) (by decide) (law_character hT C hX hi hN hk hI K)
  · exact v_tabIn (off := 647) C 687 dL_law_40 (by decide) (by decide) (by decide) (by decide) (law_rows hT C hX hi hN hk hI K)
  · exact v_tabIn (off := 660) C 700 dL_law_40 (by decide) (by decide) (by decide) (by decide) (law_row hT C hX hi hN hk hI K)
  · exact v_tabIn (off := 716) C 756 dL_law_40 (by decide) (by decide) (by decide) (by decide) (law_key hT C hX hi hN hk hI K)
  · exact v_tabIn (off := 784) C 824 dL_law_40 (by decide) (by decide) (by decide) (by decide) (law_lines hT C hX hi hN hk hI K)
  · exact v_tabIn (off := 797) C 837 dL_law_40 (by decide) (by decide) (by decide) (by decide) (law_line hT C hX hi hN hk hI K)
  · exact v_tabIn (off := 865) C 905 dL_law_40 (by decide) (by decide) (by decide) (by decide) (law_faults hT C hX hi hN hk hI K)
set_option maxRecDepth 100000 in
set_option maxHeartbeats 4000000 in
theorem law_loop (hT : lwT l tys cC cI cZ cR cT cO cJ) (C : cx p s m #[Value.ref b] meth c code 7 wsL_law RL D tys z0 A) (hr : meth.sig.returnType = ret) (hA : ∀ q, A q → s.heap.size ≤ q) (hX : va_X b L xs s s.heap ∧ b < s.heap.size ∧ ¬ A b ∧ L ≤ 3584) : ∀ (r i N k n : Nat) (x : lS), lI z0 cI cO cT cR a na N x → L < i + 7 * (r + 1) → i ≤ L → N + r ≤ 512 → k + 8 * r ≤ room_1.cells → n + 88 * r ≤ room_1.slots → vv (picL D cC cI cZ cJ md oa ad A) A 7 p l e room_1 s m #[Value.ref b] below meth c (lw_Z below #[Value.ref b] s) x k n 23 (lvL i b (a 0) md oa) [] := by
  intro r
  induction r with
  | zero =>
    intro i N k n x hI h1 h2 h3 h4 h5
    refine v_iload C dL_law_23 (j := 0) rfl ?_
    refine v_aload_n C dL_law_25 (j := 1) rfl rfl ?_
    refine v_slen C hX.1 hX.2.1 hX.2.2.1 dL_law_26 ?_
    refine v_bipush C dL_law_27 (v := 7) (by decide) ?_
    refine v_isub C dL_law_29 ?_
    refine v_icmp_gt C 924 dL_law_30 (by decide) (fun c1 => ?_) (fun c1 => ?_)
    · exact lw_end9 C hr hA (Nat.le_trans (Nat.le_add_right k _) h4) (Nat.le_trans (Nat.le_add_right n _) h5)
    · have := sub7 hX.2.2.2 (by omega) c1
      omega
  | succ r ih =>
    intro i N k n x hI h1 h2 h3 h4 h5
    refine v_iload C dL_law_23 (j := 0) rfl ?_
    refine v_aload_n C dL_law_25 (j := 1) rfl rfl ?_
    refine v_slen C hX.1 hX.2.1 hX.2.2.1 dL_law_26 ?_
    refine v_bipush C dL_law_27 (v := 7) (by decide) ?_
    refine v_isub C dL_law_29 ?_
    refine v_icmp_gt C 924 dL_law_30 (by decide) (fun c1 => ?_) (fun c1 => ?_)
    · exact lw_end9 C hr hA (Nat.le_trans (Nat.le_add_right k _) h4) (Nat.le_trans (Nat.le_add_right n _) h5)
    · have hi := sub7 hX.2.2.2 (by omega) c1
      refine law_body hT C hX hi (by omega) ⟨by omega, by omega⟩ hI (fun x' hI' => ?_)
      refine v_iinc C dL_law_918 (j := 0) (v := nI (i + 7)) rfl (by rw [show Int32.ofInt 7 = nI 7 from by decide]; exact nI_add i 7) (by decide) (lv' := lvL (i + 7) b (a 0) md oa) rfl ?_
      refine v_goto C 23 dL_law_921 (by decide) ?_
      exact ih (i + 7) (N + 1) (k + 8) (n + 88) x' hI' (by omega) (by omega) (by omega) (by omega) (by omega)
end LOOP
