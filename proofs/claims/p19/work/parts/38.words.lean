/-! ===== the law: texts as numbers ===== -/
theorem wwL_told_k113 : Cond.constantLong RL 113 (17) ∈ wsL_told := by decide +kernel
theorem wwL_told_k115 : Cond.constantLong RL 115 (1000003) ∈ wsL_told := by decide +kernel
theorem wwL_code_k123 : Cond.constantLong RL 123 (14) ∈ wsL_code := by decide +kernel
theorem wwL_code_k121 : Cond.constantLong RL 121 (4) ∈ wsL_code := by decide +kernel
theorem wwL_code_k119 : Cond.constantLong RL 119 (3) ∈ wsL_code := by decide +kernel
theorem wwL_code_k117 : Cond.constantLong RL 117 (2) ∈ wsL_code := by decide +kernel
theorem lN_bv (n : Nat) : (lN n).toBitVec = BitVec.ofNat 64 n := rfl
theorem lN_nat {n : Nat} (h : n < 2 ^ 64) : (lN n).toBitVec.toNat = n := by rw [lN_bv, BitVec.toNat_ofNat]; exact Nat.mod_eq_of_lt h
def tldF (s : List Int32) : Int64 := s.foldl (fun a c => a * 1000003 + c.toInt64) 17
def cod (c : Int32) : Int64 := if c = 32 then 1 else if c = 45 then 2 else if c = 44 then 3 else if c ≤ 57 then (c - 48).toInt64 + 4 else (c - 97).toInt64 + 14
def cdn (c : Int32) : Nat := if c = 32 then 1 else if c = 45 then 2 else if c = 44 then 3 else if c ≤ 57 then (c - 48).toNatClampNeg + 4 else (c - 97).toNatClampNeg + 14
theorem al_cod : ∀ c ∈ alph, cod c = lN (cdn c) ∧ 0 < cdn c ∧ cdn c < 64 := by decide +kernel
theorem al_inj : ∀ a ∈ alph, ∀ b ∈ alph, cdn a = cdn b → a = b := by decide +kernel
/-- signs as one number, six bits each -/
def pks (s : List Int32) : Int64 := s.foldl (fun a c => a <<< (6 : Int64) ||| cod c) 0
def pkn (s : List Int32) : Nat := s.foldl (fun a c => a * 64 + cdn c) 0
def wrd (s : List Int32) (i : Nat) : Int64 := pks ((s.drop (10 * i)).take 10)
theorem sh6 {a d : Nat} (ha : a < 2 ^ 54) (hd : d < 64) : lN a <<< (6 : Int64) ||| lN d = lN (a * 64 + d) := by
  apply Int64.toBitVec_inj.mp
  rw [Int64.toBitVec_or, Int64.toBitVec_shiftLeft, lN_bv, lN_bv, lN_bv]
  apply BitVec.eq_of_toNat_eq
  rw [BitVec.toNat_or, BitVec.shiftLeft_eq', BitVec.toNat_shiftLeft, show ((6 : Int64).toBitVec.smod 64).toNat = 6 from by decide, BitVec.toNat_ofNat, BitVec.toNat_ofNat, BitVec.toNat_ofNat, Nat.mod_eq_of_lt (by omega : a < 2 ^ 64), Nat.mod_eq_of_lt (by omega : d < 2 ^ 64), Nat.mod_eq_of_lt (by omega : a * 64 + d < 2 ^ 64), Nat.mod_eq_of_lt (by rw [Nat.shiftLeft_eq]; omega), ← Nat.shiftLeft_add_eq_or_of_lt (by omega : d < 2 ^ 6), Nat.shiftLeft_eq]
theorem pkn_lt : ∀ (s : List Int32), oks s → pkn s < 64 ^ s.length := by
  intro s hs
  obtain ⟨u, hu⟩ : ∃ u, u = s.reverse := ⟨_, rfl⟩
  have hsu : s = u.reverse := by rw [hu, List.reverse_reverse]
  subst hsu
  clear hu
  induction u with
  | nil => decide
  | cons c t ih =>
    have h1 := ih (fun x hx => hs x (by rw [List.mem_reverse] at hx ⊢; exact List.mem_cons_of_mem _ hx))
    have h2 := (al_cod c (hs c (by simp))).2.2
    have e1 : pkn (c :: t).reverse = pkn t.reverse * 64 + cdn c := by unfold pkn; rw [List.reverse_cons, List.foldl_append]; rfl
    rw [e1, List.reverse_cons, List.length_append, List.length_singleton, Nat.pow_succ]
    omega
theorem pks_eq : ∀ (s : List Int32), oks s → s.length ≤ 10 → pks s = lN (pkn s) := by
  intro s hs hl
  obtain ⟨u, hu⟩ : ∃ u, u = s.reverse := ⟨_, rfl⟩
  have hsu : s = u.reverse := by rw [hu, List.reverse_reverse]
  subst hsu
  clear hu
  induction u with
  | nil => rfl
  | cons c t ih =>
    rw [List.length_reverse, List.length_cons] at hl
    have hst : oks t.reverse := fun x hx => hs x (by rw [List.mem_reverse] at hx ⊢; exact List.mem_cons_of_mem _ hx)
    have h1 := ih hst (by rw [List.length_reverse]; omega)
    have h2 := al_cod c (hs c (by simp))
    have h3 := pkn_lt t.reverse hst
    rw [List.length_reverse] at h3
    have h4 : 64 ^ t.length ≤ 64 ^ 9 := Nat.pow_le_pow_right (by decide) (by omega)
    have e1 : pkn (c :: t).reverse = pkn t.reverse * 64 + cdn c := by unfold pkn; rw [List.reverse_cons, List.foldl_append]; rfl
    have e2 : pks (c :: t).reverse = pks t.reverse <<< (6 : Int64) ||| cod c := by unfold pks; rw [List.reverse_cons, List.foldl_append]; rfl
    rw [e1, e2, h1, h2.1, sh6 (by omega) h2.2.2]
theorem pkn_inj : ∀ (s u : List Int32), oks s → oks u → pkn s = pkn u → s = u := by
  intro s u hs hu h
  obtain ⟨s', hs'⟩ : ∃ s', s' = s.reverse := ⟨_, rfl⟩
  have e1 : s = s'.reverse := by rw [hs', List.reverse_reverse]
  subst e1
  clear hs'
  have hsn : ∀ (c : Int32) (t : List Int32), pkn (c :: t).reverse = pkn t.reverse * 64 + cdn c := fun c t => by unfold pkn; rw [List.reverse_cons, List.foldl_append]; rfl
  induction s' generalizing u with
  | nil =>
    obtain ⟨u', hu'⟩ : ∃ u', u' = u.reverse := ⟨_, rfl⟩
    have e2 : u = u'.reverse := by rw [hu', List.reverse_reverse]
    subst e2
    cases u' with
    | nil => rfl
    | cons c t =>
      have h2 := al_cod c (hu c (by simp))
      rw [hsn] at h
      have : pkn ([] : List Int32).reverse = 0 := rfl
      omega
  | cons a s' ih =>
    obtain ⟨u', hu'⟩ : ∃ u', u' = u.reverse := ⟨_, rfl⟩
    have e2 : u = u'.reverse := by rw [hu', List.reverse_reverse]
    subst e2
    have h1 := al_cod a (hs a (by simp))
    cases u' with
    | nil =>
      rw [hsn] at h
      have : pkn ([] : List Int32).reverse = 0 := rfl
      omega
    | cons c t =>
      have h2 := al_cod c (hu c (by simp))
      rw [hsn, hsn] at h
      have h3 : cdn a = cdn c := by omega
      have h4 : pkn s'.reverse = pkn t.reverse := by omega
      have h5 := al_inj a (hs a (by simp)) c (hu c (by simp)) h3
      have h6 := ih t.reverse (fun x hx => hu x (by rw [List.mem_reverse] at hx ⊢; exact List.mem_cons_of_mem _ hx)) (fun x hx => hs x (by rw [List.mem_reverse] at hx ⊢; exact List.mem_cons_of_mem _ hx)) h4
      rw [List.reverse_cons, List.reverse_cons, h6, h5]
theorem wrd_inj {s u : List Int32} (hs : oks s) (hu : oks u) (h1 : s.length ≤ 60) (h2 : u.length ≤ 60) (h : ∀ i, i < 6 → wrd s i = wrd u i) : s = u := by
  have hc : ∀ i, i < 6 → (s.drop (10 * i)).take 10 = (u.drop (10 * i)).take 10 := by
    intro i hi
    have h9 := h i hi
    unfold wrd at h9
    have l1 : ((s.drop (10 * i)).take 10).length ≤ 10 := by rw [List.length_take]; omega
    have l2 : ((u.drop (10 * i)).take 10).length ≤ 10 := by rw [List.length_take]; omega
    have o1 : oks ((s.drop (10 * i)).take 10) := oks_take (oks_drop hs _) _
    have o2 : oks ((u.drop (10 * i)).take 10) := oks_take (oks_drop hu _) _
    rw [pks_eq _ o1 l1, pks_eq _ o2 l2] at h9
    have b1 := pkn_lt _ o1
    have b2 := pkn_lt _ o2
    have b3 : 64 ^ ((s.drop (10 * i)).take 10).length ≤ 64 ^ 10 := Nat.pow_le_pow_right (by decide) l1
    have b4 : 64 ^ ((u.drop (10 * i)).take 10).length ≤ 64 ^ 10 := Nat.pow_le_pow_right (by decide) l2
    refine pkn_inj _ _ o1 o2 ?_
    have h8 := congrArg (fun z : Int64 => z.toBitVec.toNat) h9
    rw [lN_nat (by omega), lN_nat (by omega)] at h8
    exact h8
  apply List.ext_getElem?
  intro j
  by_cases hj : j < 60
  · have h9 := congrArg (fun z : List Int32 => z[j % 10]?) (hc (j / 10) (by omega))
    rw [List.getElem?_take, List.getElem?_take, if_pos (by omega), if_pos (by omega), List.getElem?_drop, List.getElem?_drop, show 10 * (j / 10) + j % 10 = j by omega] at h9
    exact h9
  · rw [List.getElem?_eq_none (by omega), List.getElem?_eq_none (by omega)]
/-- a key's words -/
def kkw (Y : Nat → Nat → Int64) (i w : Nat) : Int64 := if i < 10 then Y 1 (6 * i + w) else Y 2 (6 * i - 60 + w)
theorem nI_subN {a b : Nat} (h : b ≤ a) : nI a - nI b = nI (a - b) := by
  obtain ⟨d, rfl⟩ : ∃ d, a = d + b := ⟨a - b, by omega⟩
  rw [← nI_add, Int32.add_sub_cancel, Nat.add_sub_cancel]
theorem nI_6 (k j : Nat) : 6 * nI k + nI j = nI (6 * k + j) := by rw [show (6 : Int32) = nI 6 from rfl, nI_mul, nI_add]
theorem nI_66 {k : Nat} (j : Nat) (h : 10 ≤ k) : 6 * nI k - 60 + nI j = nI (6 * k - 60 + j) := by rw [show (6 : Int32) = nI 6 from rfl, nI_mul, show (60 : Int32) = nI 60 from rfl, nI_subN (by omega), nI_add]
theorem nI_mk {a : Int32} {b : Nat} (h : a = nI b) (k : Nat) : nI k * a = nI (k * b) := by rw [h, nI_mul]
section NT
variable {l : Launch} {D : va_G} {tys : List (ClassId × FieldType)} {z0 : Nat} {A : Nat → Prop} {σ0 : Type} {pic0 : σ0 → Heap → Prop} {cI cJ : ClassId} {ad al : Nat → Nat} {y0 : σ0} {X : Nat → Nat → Int32} {Y : Nat → Nat → Int64} {sep rnum : Int32} {r u v t : List Int32} {b e9 : Nat}
set_option maxRecDepth 100000 in
set_option maxHeartbeats 8000000 in
theorem n_told (ht1 : tys[1]? = some (cI, .int)) (hu : nT 1 X u) : ct D tys z0 A (picN pic0 cI cJ ad al A) l yL_told wsL_told rm0 [.ref (ad 1), .int 0, .int (nI u.length)] (y0, X, Y) (qL (picN pic0 cI cJ ad al A) A (fun q x => x = (y0, X, Y) ∧ q = tldF u)) := by
  have h60 := hu.2.1
  refine ct_of RL (by decide +kernel) rfl rfl (Nat.le_of_ble_eq_true rfl) ?_
  intro p e s m below meth c C hr hm
  refine v_lv (lv' := [(0, _), (1, _), (2, _)]) rfl ?_
  refine v_ldc2 C dL_told_0 (v := (17)) wwL_told_k113 ?_
  refine v_lstore_n C dL_told_3 rfl (by decide) (lv' := [(3, _), (0, _), (1, _), (2, _)]) rfl ?_
  refine v_iload_n C dL_told_4 (j := 2) rfl rfl ?_
  refine v_istore C dL_told_5 (by decide) (lv' := [(5, _), (3, _), (0, _), (1, _), (2, _)]) rfl ?_
  obtain ⟨k, a9, hk, ha, hf, hkl⟩ : ∃ (k : Nat) (a9 : Int64), k = 0 ∧ a9 = 17 ∧ tldF u = (u.drop k).foldl (fun a c => a * 1000003 + c.toInt64) a9 ∧ k ≤ u.length := ⟨0, 17, rfl, rfl, rfl, Nat.zero_le _⟩
  refine v_lv (lv' := [(5, .int (nI k)), (3, .long a9), (0, _), (1, _), (2, _)]) (by rw [hk, ha]; rfl) ?_
  clear hk ha
  induction hd : (u.length - k) using Nat.strongRecOn generalizing k a9 with | _ d ih =>
    refine v_iload C dL_told_7 (j := 0) rfl ?_
    refine v_iload_n C dL_told_9 (j := 4) rfl rfl ?_
    refine v_icmp_ge C 31 dL_told_10 (by decide) (fun c1 => ?_) (fun c1 => ?_)
    · skip
      have c2 : k = u.length := by have := le_of c1 (by omega) (by omega); omega
      rw [c2, List.drop_length] at hf
      refine v_lload_n C dL_told_31 (j := 1) rfl rfl ?_
      exact v_lreturn C dL_told_32 hr (Nat.le_of_ble_eq_true rfl) (Nat.le_of_ble_eq_true rfl) (⟨rfl, hf.symm⟩)
    · skip
      have c2 : k < u.length := lt_ofn c1 (by omega) (by omega)
      refine v_lload_n C dL_told_13 (j := 1) rfl rfl ?_
      refine v_ldc2 C dL_told_14 (v := (1000003)) wwL_told_k115 ?_
      refine v_lmul C dL_told_17 ?_
      refine v_aload_n C dL_told_18 (j := 2) rfl rfl ?_
      refine v_iload C dL_told_19 (j := 0) rfl ?_
      refine v_iald C dL_told_21 1 ht1 (N_t (j := 1) (by decide)) (vp_in_nI (by show k < 61; omega) (by decide)) ?_
      refine v_int (b := u.getD k 0) (by rw [nI_clamp (by omega)]; exact hu.2.2 k c2) ?_
      refine v_i2l C dL_told_22 ?_
      refine v_ladd C dL_told_23 ?_
      refine v_lstore_n C dL_told_24 rfl (by decide) (lv' := [(3, _), (5, _), (0, _), (1, _), (2, _)]) rfl ?_
      refine v_iinc C dL_told_25 (j := 1) (v := _ + 1) rfl rfl (by decide) (lv' := [(5, _), (3, _), (0, _), (1, _), (2, _)]) rfl ?_
      refine v_goto C 7 dL_told_28 (by decide) ?_
      refine v_lv (lv' := [(5, .int (nI (k + 1))), (3, .long (a9 * 1000003 + (u.getD k 0).toInt64)), (0, _), (1, _), (2, _)]) (by rw [nI_1]) ?_
      exact ih (u.length - (k + 1)) (by omega) (k + 1) _ (by rw [hf, dropc (0 : Int32) c2]; rfl) (by omega) rfl
set_option maxRecDepth 100000 in
set_option maxHeartbeats 8000000 in
theorem n_code {σ : Type} {pic : σ → Heap → Prop} {x : σ} (v : Int32) : ct D tys z0 A pic l yL_code wsL_code rm0 [.int v] x (qL pic A (fun q x' => x' = x ∧ q = cod v)) := by
  refine ct_of RL (by decide +kernel) rfl rfl (Nat.le_of_ble_eq_true rfl) ?_
  intro p e s m below meth c C hr hm
  refine v_lv (lv' := [(0, _)]) rfl ?_
  refine v_cut0 (pcj := 61) (lvj := [(0, .int v)]) (stj := [.long (cod v)]) True (fun _ => ?_) (fun K => ?_)
  · skip
    exact v_lreturn C dL_code_61 hr (Nat.le_of_ble_eq_true rfl) (Nat.le_of_ble_eq_true rfl) (⟨rfl, rfl⟩)
  · skip
    refine v_iload_n C dL_code_0 (j := 0) rfl rfl ?_
    refine v_bipush C dL_code_1 (v := 32) (by decide) ?_
    refine v_icmp_ne C 10 dL_code_3 (by decide) (fun c1 => ?_) (fun c1 => ?_)
    · skip
      refine v_iload_n C dL_code_10 (j := 0) rfl rfl ?_
      refine v_bipush C dL_code_11 (v := 45) (by decide) ?_
      refine v_icmp_ne C 22 dL_code_13 (by decide) (fun c2 => ?_) (fun c2 => ?_)
      · skip
        refine v_iload_n C dL_code_22 (j := 0) rfl rfl ?_
        refine v_bipush C dL_code_23 (v := 44) (by decide) ?_
        refine v_icmp_ne C 34 dL_code_25 (by decide) (fun c3 => ?_) (fun c3 => ?_)
        · skip
          refine v_iload_n C dL_code_34 (j := 0) rfl rfl ?_
          refine v_bipush C dL_code_35 (v := 57) (by decide) ?_
          refine v_icmp_gt C 52 dL_code_37 (by decide) (fun c4 => ?_) (fun c4 => ?_)
          · skip
            refine v_iload_n C dL_code_52 (j := 0) rfl rfl ?_
            refine v_bipush C dL_code_53 (v := 97) (by decide) ?_
            refine v_isub C dL_code_55 ?_
            refine v_i2l C dL_code_56 ?_
            refine v_ldc2 C dL_code_57 (v := (14)) wwL_code_k123 ?_
            refine v_ladd C dL_code_60 ?_
            refine v_long (b := cod v) (by unfold cod; rw [if_neg c1, if_neg c2, if_neg c3, if_neg (Int32.not_le.mpr c4)]) (K trivial)
          · skip
            refine v_iload_n C dL_code_40 (j := 0) rfl rfl ?_
            refine v_bipush C dL_code_41 (v := 48) (by decide) ?_
            refine v_isub C dL_code_43 ?_
            refine v_i2l C dL_code_44 ?_
            refine v_ldc2 C dL_code_45 (v := (4)) wwL_code_k121 ?_
            refine v_ladd C dL_code_48 ?_
            refine v_goto C 61 dL_code_49 (by decide) ?_
            refine v_long (b := cod v) (by unfold cod; rw [if_neg c1, if_neg c2, if_neg c3, if_pos (Int32.not_lt.mp c4)]) (K trivial)
        · skip
          refine v_ldc2 C dL_code_28 (v := (3)) wwL_code_k119 ?_
          refine v_goto C 61 dL_code_31 (by decide) ?_
          refine v_long (b := cod v) (by unfold cod; rw [if_neg c1, if_neg c2, if_pos c3]) (K trivial)
      · skip
        refine v_ldc2 C dL_code_16 (v := (2)) wwL_code_k117 ?_
        refine v_goto C 61 dL_code_19 (by decide) ?_
        refine v_long (b := cod v) (by unfold cod; rw [if_neg c1, if_pos c2]) (K trivial)
    · skip
      refine v_lconst C dL_code_6 (v := 1) (by decide) ?_
      refine v_goto C 61 dL_code_7 (by decide) ?_
      refine v_long (b := cod v) (by unfold cod; rw [if_pos c1]) (K trivial)
set_option maxRecDepth 100000 in
set_option maxHeartbeats 8000000 in
theorem n_word (ht1 : tys[1]? = some (cI, .int)) (hu : nT 0 X u) (hs : str u b e9 t) {i : Nat} (hi : i < 6) : ct D tys z0 A (picN pic0 cI cJ ad al A) l yL_word wsL_word (rmL 1 20) [.ref (ad 0), .int (nI b), .int (nI e9), .int (nI i)] (y0, X, Y) (qL (picN pic0 cI cJ ad al A) A (fun q x => x = (y0, X, Y) ∧ q = wrd t i)) := by
  have hl := str_len hs
  have h60 := hu.2.1
  have hbe := hs.1
  have her := hs.2.1
  have hat : ∀ i, i < t.length → X 0 (b + i) = t.getD i 0 := fun i hi => by rw [hu.2.2 _ (by omega), str_get hs hi]
  have h10 : ∀ k : Nat, (10 : Int32) * nI k = nI (10 * k) := fun k => nI_mul 10 k
  refine ct_of RL (by decide +kernel) rfl rfl (Nat.le_of_ble_eq_true rfl) ?_
  intro p e s m below meth c C hr hm
  refine v_lv (lv' := [(0, _), (1, _), (2, _), (3, _)]) rfl ?_
  refine v_lconst C dL_word_0 (v := 0) (by decide) ?_
  refine v_lstore C dL_word_1 (by decide) (lv' := [(4, _), (0, _), (1, _), (2, _), (3, _)]) rfl ?_
  refine v_iload_n C dL_word_3 (j := 2) rfl rfl ?_
  refine v_bipush C dL_word_4 (v := 10) (by decide) ?_
  refine v_iload_n C dL_word_6 (j := 4) rfl rfl ?_
  refine v_imul C dL_word_7 ?_
  rw [h10]
  refine v_iadd C dL_word_8 ?_
  rw [nI_add]
  refine v_istore C dL_word_9 (by decide) (lv' := [(6, _), (4, _), (0, _), (1, _), (2, _), (3, _)]) rfl ?_
  obtain ⟨k, a9, hk, ha, hf, hkl⟩ : ∃ (k : Nat) (a9 : Int64), k = 0 ∧ a9 = 0 ∧ wrd t i = ((t.drop (10 * i + k)).take (10 - k)).foldl (fun a c => a <<< (6 : Int64) ||| cod c) a9 ∧ k ≤ 10 := ⟨0, 0, rfl, rfl, rfl, Nat.zero_le _⟩
  refine v_lv (lv' := [(6, .int (nI (b + 10 * i + k))), (4, .long a9), (0, _), (1, _), (2, _), (3, _)]) (by rw [hk, ha]; rfl) ?_
  clear hk ha
  induction hd : (10 - k) using Nat.strongRecOn generalizing k a9 with | _ d ih =>
    refine v_cut0 (pcj := 52) (lvj := [(4, .long a9)]) (stj := []) (t.length ≤ 10 * i + k ∨ k = 10) (fun hw => ?_) (fun K => ?_)
    · skip
      have e1 : (t.drop (10 * i + k)).take (10 - k) = [] := by
          rcases hw with q | q
          · rw [List.drop_eq_nil_of_le q, List.take_nil]
          · rw [q, Nat.sub_self, List.take_zero]
      rw [e1] at hf
      refine v_lload C dL_word_52 (j := 0) rfl ?_
      exact v_lreturn C dL_word_54 hr (Nat.le_of_ble_eq_true rfl) (Nat.le_of_ble_eq_true rfl) (⟨rfl, hf.symm⟩)
    · skip
      refine v_iload C dL_word_11 (j := 0) rfl ?_
      refine v_iload_n C dL_word_13 (j := 4) rfl rfl ?_
      refine v_icmp_ge C 52 dL_word_14 (by decide) (fun c1 => ?_) (fun c1 => ?_)
      · skip
        exact v_sub [1] rfl (K (Or.inl (by have := le_of c1 (by omega) (by omega); omega)))
      · skip
        have c2 : 10 * i + k < t.length := by have := lt_ofn c1 (by omega) (by omega); omega
        refine v_iload C dL_word_17 (j := 0) rfl ?_
        refine v_iload_n C dL_word_19 (j := 3) rfl rfl ?_
        refine v_bipush C dL_word_20 (v := 10) (by decide) ?_
        refine v_iload_n C dL_word_22 (j := 5) rfl rfl ?_
        refine v_imul C dL_word_23 ?_
        rw [h10]
        refine v_iadd C dL_word_24 ?_
        rw [nI_add]
        refine v_bipush C dL_word_25 (v := 10) (by decide) ?_
        refine v_iadd C dL_word_27 ?_
        refine v_int (b := nI (b + 10 * i + 10)) (nI_add (b + 10 * i) 10) ?_
        refine v_icmp_ge C 52 dL_word_28 (by decide) (fun c3 => ?_) (fun c3 => ?_)
        · skip
          exact v_sub [1] rfl (K (Or.inr (by have := le_of c3 (by omega) (by omega); omega)))
        · skip
          have c4 : k < 10 := by have := lt_ofn c3 (by omega) (by omega); omega
          refine v_lload C dL_word_31 (j := 1) rfl ?_
          refine v_bipush C dL_word_33 (v := 6) (by decide) ?_
          refine v_lshl C dL_word_35 rfl ?_
          refine v_long (b := a9 <<< (6 : Int64)) (by rw [show ((6 : Int32).toInt64 &&& 63) = (6 : Int64) from by decide]) ?_
          refine v_aload_n C dL_word_36 (j := 2) rfl rfl ?_
          refine v_iload C dL_word_37 (j := 0) rfl ?_
          refine v_iald C dL_word_39 1 ht1 (N_t (j := 0) (by decide)) (vp_in_nI (by show b + 10 * i + k < 61; omega) (by decide)) ?_
          refine v_int (b := t.getD (10 * i + k) 0) (by rw [nI_clamp (by omega), Nat.add_assoc]; exact hat _ c2) ?_
          refine v_cl (v_runS C (n_code (t.getD (10 * i + k) 0)) (va_cwS 1 C.1.2.2.2.2 gL_word_L_code rfl rfl rfl (by decide +kernel) ⟨Nat.le_of_ble_eq_true rfl, Nat.le_of_ble_eq_true rfl⟩) rfl dL_word_40 (rest := [_]) (Nat.le_of_ble_eq_true rfl) rfl ⟨(by first | exact Nat.le_of_ble_eq_true rfl | (dsimp only; omega)), (by first | exact Nat.le_of_ble_eq_true rfl | (dsimp only; omega))⟩) (fun q x' hx' => ?_)
          obtain ⟨rfl, rfl⟩ := hx'
          refine v_lor C dL_word_43 ?_
          refine v_lstore C dL_word_44 (by decide) (lv' := [(4, _), (6, _), (0, _), (1, _), (2, _), (3, _)]) rfl ?_
          refine v_iinc C dL_word_46 (j := 1) (v := _ + 1) rfl rfl (by decide) (lv' := [(6, _), (4, _), (0, _), (1, _), (2, _), (3, _)]) rfl ?_
          refine v_goto C 11 dL_word_49 (by decide) ?_
          refine v_lv (lv' := [(6, .int (nI (b + 10 * i + (k + 1)))), (4, .long (a9 <<< (6 : Int64) ||| cod (t.getD (10 * i + k) 0))), (0, _), (1, _), (2, _), (3, _)]) (by rw [nI_1]; rfl) ?_
          exact ih (10 - (k + 1)) (by omega) (k + 1) _ (by rw [hf, dropc (0 : Int32) c2, show 10 - k = 10 - (k + 1) + 1 by omega]; rfl) (by omega) rfl
set_option maxRecDepth 100000 in
set_option maxHeartbeats 8000000 in
theorem n_get (ht6 : tys[6]? = some (cJ, .long)) {i w : Nat} (hi : i < 20) (hw : w < 6) : ct D tys z0 A (picN pic0 cI cJ ad al A) l yL_get wsL_get rm0 [.ref (al 1), .ref (al 2), .int (nI i), .int (nI w)] (y0, X, Y) (qL (picN pic0 cI cJ ad al A) A (fun q x => x = (y0, X, Y) ∧ q = kkw Y i w)) := by
  refine ct_of RL (by decide +kernel) rfl rfl (Nat.le_of_ble_eq_true rfl) ?_
  intro p e s m below meth c C hr hm
  refine v_lv (lv' := [(0, _), (1, _), (2, _), (3, _)]) rfl ?_
  refine v_iload_n C dL_get_0 (j := 2) rfl rfl ?_
  refine v_bipush C dL_get_1 (v := 10) (by decide) ?_
  refine v_icmp_ge C 17 dL_get_3 (by decide) (fun c1 => ?_) (fun c1 => ?_)
  · skip
    have c2 := le_of (a := 10) c1 (by decide) (by omega)
    refine v_aload_n C dL_get_17 (j := 1) rfl rfl ?_
    refine v_bipush C dL_get_18 (v := 6) (by decide) ?_
    refine v_iload_n C dL_get_20 (j := 2) rfl rfl ?_
    refine v_imul C dL_get_21 ?_
    refine v_bipush C dL_get_22 (v := 60) (by decide) ?_
    refine v_isub C dL_get_24 ?_
    refine v_iload_n C dL_get_25 (j := 3) rfl rfl ?_
    refine v_iadd C dL_get_26 ?_
    rw [nI_66 _ c2]
    refine v_lald C dL_get_27 6 ht6 N_c (vp_in_nI (by show 6 * i - 60 + w < 60; omega) (by decide)) ?_
    exact v_lreturn C dL_get_28 hr (Nat.le_of_ble_eq_true rfl) (Nat.le_of_ble_eq_true rfl) (⟨rfl, by unfold kkw; rw [if_neg (by omega), nI_clamp (by omega)]⟩)
  · skip
    have c2 := lt_ofn (a := 10) c1 (by decide) (by omega)
    refine v_aload_n C dL_get_6 (j := 0) rfl rfl ?_
    refine v_bipush C dL_get_7 (v := 6) (by decide) ?_
    refine v_iload_n C dL_get_9 (j := 2) rfl rfl ?_
    refine v_imul C dL_get_10 ?_
    refine v_iload_n C dL_get_11 (j := 3) rfl rfl ?_
    refine v_iadd C dL_get_12 ?_
    rw [nI_6]
    refine v_lald C dL_get_13 6 ht6 N_k (vp_in_nI (by show 6 * i + w < 60; omega) (by decide)) ?_
    refine v_goto C 28 dL_get_14 (by decide) ?_
    exact v_lreturn C dL_get_28 hr (Nat.le_of_ble_eq_true rfl) (Nat.le_of_ble_eq_true rfl) (⟨rfl, by unfold kkw; rw [if_pos c2, nI_clamp (by omega)]⟩)
set_option maxRecDepth 100000 in
set_option maxHeartbeats 8000000 in
theorem n_put (ht6 : tys[6]? = some (cJ, .long)) {i w : Nat} (hi : i < 20) (hw : w < 6) (z : Int64) : ct D tys z0 A (picN pic0 cI cJ ad al A) l yL_put wsL_put rm0 [.ref (al 1), .ref (al 2), .int (nI i), .int (nI w), .long z] (y0, X, Y) (qV (picN pic0 cI cJ ad al A) A (fun x => ∃ Y', x = (y0, X, Y') ∧ kkw Y' i w = z ∧ (∀ i' w', i' < 20 → w' < 6 → (i' ≠ i ∨ w' ≠ w) → kkw Y' i' w' = kkw Y i' w') ∧ ∀ j, j ≠ 1 → j ≠ 2 → Y' j = Y j)) := by
  refine ct_of RL (by decide +kernel) rfl rfl (Nat.le_of_ble_eq_true rfl) ?_
  intro p e s m below meth c C hr hm
  refine v_lv (lv' := [(0, _), (1, _), (2, _), (3, _), (4, _)]) rfl ?_
  refine v_iload_n C dL_put_0 (j := 2) rfl rfl ?_
  refine v_bipush C dL_put_1 (v := 10) (by decide) ?_
  refine v_icmp_ge C 19 dL_put_3 (by decide) (fun c1 => ?_) (fun c1 => ?_)
  · skip
    have c2 := le_of (a := 10) c1 (by decide) (by omega)
    refine v_aload_n C dL_put_19 (j := 1) rfl rfl ?_
    refine v_bipush C dL_put_20 (v := 6) (by decide) ?_
    refine v_iload_n C dL_put_22 (j := 2) rfl rfl ?_
    refine v_imul C dL_put_23 ?_
    refine v_bipush C dL_put_24 (v := 60) (by decide) ?_
    refine v_isub C dL_put_26 ?_
    refine v_iload_n C dL_put_27 (j := 3) rfl rfl ?_
    refine v_iadd C dL_put_28 ?_
    rw [nI_66 _ c2]
    refine v_lload C dL_put_29 (j := 4) rfl ?_
    refine v_last C dL_put_31 6 ht6 (vp_in_nI (by show 6 * i - 60 + w < 60; omega) (by decide)) (N_sc _) ?_
    rw [nI_clamp (by omega)]
    exact v_return C dL_put_32 hr (Nat.le_of_ble_eq_true rfl) (Nat.le_of_ble_eq_true rfl) (⟨_, rfl, by unfold kkw vp_updL; rw [if_neg (by omega), va_up_same, if_pos rfl], fun i' w' h1 h2 h3 => by unfold kkw; rw [va_up_other _ _ _ (by decide : (1 : Nat) ≠ 2), va_up_same]; by_cases q : i' < 10; rw [if_pos q, if_pos q]; rw [if_neg q, if_neg q]; unfold vp_updL; rw [if_neg (by omega)], fun j j1 j2 => va_up_other _ _ _ j2⟩)
  · skip
    have c2 := lt_ofn (a := 10) c1 (by decide) (by omega)
    refine v_aload_n C dL_put_6 (j := 0) rfl rfl ?_
    refine v_bipush C dL_put_7 (v := 6) (by decide) ?_
    refine v_iload_n C dL_put_9 (j := 2) rfl rfl ?_
    refine v_imul C dL_put_10 ?_
    refine v_iload_n C dL_put_11 (j := 3) rfl rfl ?_
    refine v_iadd C dL_put_12 ?_
    rw [nI_6]
    refine v_lload C dL_put_13 (j := 4) rfl ?_
    refine v_last C dL_put_15 6 ht6 (vp_in_nI (by show 6 * i + w < 60; omega) (by decide)) (N_sk _) ?_
    rw [nI_clamp (by omega)]
    refine v_goto C 32 dL_put_16 (by decide) ?_
    exact v_return C dL_put_32 hr (Nat.le_of_ble_eq_true rfl) (Nat.le_of_ble_eq_true rfl) (⟨_, rfl, by unfold kkw vp_updL; rw [if_pos c2, va_up_same, if_pos rfl], fun i' w' h1 h2 h3 => by unfold kkw; rw [va_up_other _ _ _ (by decide : (2 : Nat) ≠ 1), va_up_same]; by_cases q : i' < 10; rw [if_pos q, if_pos q]; unfold vp_updL; rw [if_neg (by omega)]; rw [if_neg q, if_neg q], fun j j1 j2 => va_up_other _ _ _ j1⟩)
end NT
