/-! ===== the law: operands, values ===== -/
theorem wwL_operand_k86 : Cond.constantLong RL 86 (325) ∈ wsL_operand := by decide +kernel
theorem wwL_operand_k88 : Cond.constantLong RL 88 (10100) ∈ wsL_operand := by decide +kernel
def isInB (v a b : Int32) : Bool := decide (a ≤ v) && decide (v ≤ b)
theorem nI_mul (a b : Nat) : nI a * nI b = nI (a * b) := (Int32.ofNat_mul a b).symm
theorem dig_val (n k a : Nat) : nI a * 10 + (dig n k - 48) = nI (a * 10 + n / 10 ^ k % 10) := by
  unfold dig
  rw [show (10 : Int32) = nI 10 from rfl, nI_mul, show (48 : Int32) = nI 48 from rfl, ← nI_add 48, Int32.add_comm (nI 48), Int32.add_sub_cancel, nI_add]
theorem isDig_dig (n k : Nat) : isDig (dig n k) = true := by
  have h := dig_small n k
  unfold isDig dig
  rw [show (48 : Int32) = nI 48 from rfl, show (57 : Int32) = nI 57 from rfl, decide_eq_true ((nI_leI (by decide) (by omega)).mpr (by omega)), decide_eq_true ((nI_leI (by omega) (by decide)).mpr (by omega))]
  rfl
theorem nrun_dl (n : Nat) : ∀ (k m : Nat), k ≤ m → nrun (dl n k) m = k := by
  intro k
  induction k with
  | zero => intro m _; cases m <;> rfl
  | succ k ih =>
    intro m hm
    obtain ⟨m', rfl⟩ : ∃ m', m = m' + 1 := ⟨m - 1, by omega⟩
    show (if isDig (dig n k) = true then nrun (dl n k) m' + 1 else 0) = k + 1
    rw [if_pos (isDig_dig n k), ih m' (by omega)]
theorem nval_dl (n : Nat) : ∀ (k a : Nat), nval (dl n k) k (nI a) = nI (a * 10 ^ k + n % 10 ^ k) := by
  intro k
  induction k with
  | zero => intro a; show nI a = _; rw [Nat.pow_zero, Nat.mul_one, Nat.mod_one, Nat.add_zero]
  | succ k ih =>
    intro a
    show nval (dl n k) k (nI a * 10 + (dig n k - 48)) = _
    rw [dig_val, ih]
    congr 1
    have e1 : n % 10 ^ (k + 1) = n % 10 ^ k + 10 ^ k * (n / 10 ^ k % 10) := by rw [Nat.pow_succ, Nat.mod_mul]
    rw [e1, Nat.pow_succ, Nat.add_mul, Nat.mul_assoc, Nat.mul_comm 10 (10 ^ k), Nat.mul_comm (n / 10 ^ k % 10) (10 ^ k)]
    omega
theorem num_dec {N : Nat} (h : N < 1000000000) : num (dec (nI N)) = nI N := by
  have h1 : ¬ nI N < 0 := nI_pos (by omega)
  have h2 : (nI N).toInt.natAbs = N := by rw [nI_toInt (by omega)]; rfl
  have hnd := ndig_in N
  have h3 : N < 10 ^ ndig N := by
    by_cases h9 : ndig N < 10
    · exact Nat.lt_of_not_le (fun z => by
        have := (ndig_iff (n := N) h9 (by omega)).mpr (Or.inl z)
        omega)
    · rw [show ndig N = 10 by omega]; omega
  have h4 : ndig N ≤ 9 := by
    have : ¬ 9 < ndig N := fun z => by
      rcases (ndig_iff (n := N) (k := 9) (by decide) (by omega)).mp z with q | q
      · omega
      · cases q
    omega
  have e1 : dec (nI N) = dl N (ndig N) := by unfold dec; rw [if_neg h1, h2]
  have e2 : nst (dl N (ndig N)) = 0 := by
    obtain ⟨m, hm⟩ : ∃ m, ndig N = m + 1 := ⟨ndig N - 1, by omega⟩
    rw [hm]
    unfold nst
    rw [if_neg]
    intro z
    have z2 : dig N m = 45 := by simpa [dl] using z
    have z3 := isDig_dig N m
    rw [z2] at z3
    exact absurd z3 (by decide)
  unfold num
  rw [e1, e2, if_neg (by decide), List.drop_zero, nrun_dl N _ 9 h4]
  have := nval_dl N (ndig N) 0
  rw [Nat.zero_mul, Nat.zero_add, Nat.mod_eq_of_lt h3] at this
  exact this
theorem op_in {x : Int32} (h : okOp x) (hf : isInB x (-13) (-1) = false) : (0 ≤ x ∧ x ≤ 9999) ∨ x = -20 ∨ x = -21 := by
  rcases h with q | q | q | q
  · exact Or.inl q
  · unfold isInB at hf; rw [decide_eq_true q.1, decide_eq_true q.2] at hf; cases hf
  · exact Or.inr (Or.inl q)
  · exact Or.inr (Or.inr q)
theorem opT_f {sep : Int32} {r : List Int32} {rnum x : Int32} (hf : isInB x (-13) (-1) = true) : ∃ k, k ≤ 12 ∧ -1 - x = nI k ∧ opT sep r rnum x = fld sep r k := by
  unfold isInB at hf
  rw [Bool.and_eq_true] at hf
  have h1 := of_decide_eq_true hf.1
  have h2 := of_decide_eq_true hf.2
  obtain ⟨k, hk, e⟩ := op_field h1 h2
  refine ⟨k, hk, e, ?_⟩
  have a1 := Int32.le_iff_toInt_le.mp h1
  have a2 := Int32.le_iff_toInt_le.mp h2
  rw [show (-13 : Int32).toInt = -13 from rfl] at a1
  rw [show (-1 : Int32).toInt = -1 from rfl] at a2
  unfold opT
  rw [if_pos (Int32.lt_iff_toInt_lt.mpr (by rw [show (0 : Int32).toInt = 0 from rfl]; omega)), if_neg (fun z => by rw [z, show (-20 : Int32).toInt = -20 from rfl] at a1; omega), if_neg (fun z => by rw [z, show (-21 : Int32).toInt = -21 from rfl] at a1; omega), e, nI_clamp (by omega)]
/-- the number of an operand that is no field -/
def opN (sep : Int32) (r : List Int32) (rnum x : Int32) : Int32 := if x = -20 then nI (nfd sep r) else if x = -21 then rnum else x
theorem opT_n {sep : Int32} {r : List Int32} {rnum x : Int32} (h : (0 ≤ x ∧ x ≤ 9999) ∨ x = -20 ∨ x = -21) (hn : ∃ N, N < 1000000000 ∧ rnum = nI N) : opT sep r rnum x = dec (opN sep r rnum x) ∧ num (opT sep r rnum x) = opN sep r rnum x := by
  have hnf := nfd_le sep r
  unfold opT opN
  rcases h with q | q | q
  · have h20 : x ≠ -20 := fun z => by rw [z] at q; exact absurd q.1 (by decide)
    have h21 : x ≠ -21 := fun z => by rw [z] at q; exact absurd q.1 (by decide)
    obtain ⟨k, hk, rfl⟩ := nI_of2 (M := 9999) (n := 9999) rfl (Int32.not_lt.mpr q.1) q.2
    rw [if_neg (Int32.not_lt.mpr q.1), if_neg h20, if_neg h21]
    exact ⟨rfl, num_dec (by omega)⟩
  · rw [q, if_pos (by decide), if_pos rfl, if_pos rfl]
    exact ⟨rfl, num_dec (by omega)⟩
  · obtain ⟨N, hN, rfl⟩ := hn
    rw [q, if_pos (by decide), if_neg (by decide), if_pos rfl, if_neg (by decide), if_pos rfl]
    exact ⟨rfl, num_dec hN⟩
theorem isI_iff (z : Int64) : z = z.toInt32.toInt64 ↔ isI z = true := by
  have h1 : z.toInt32.toInt64.toInt = z.toInt.bmod (2 ^ 32) := by rw [Int32.toInt_toInt64, Int64.toInt_toInt32]
  have h2 : isI z = true ↔ -2147483648 ≤ z.toInt ∧ z.toInt ≤ 2147483647 := by
    unfold isI
    rw [Bool.and_eq_true, decide_eq_true_eq, decide_eq_true_eq, Int64.le_iff_toInt_le, Int64.le_iff_toInt_le]
    rw [show (-2147483648 : Int64).toInt = -2147483648 from by decide, show (2147483647 : Int64).toInt = 2147483647 from by decide]
  rw [h2, ← Int64.toInt_inj, h1]
  simp only [Int.bmod]
  constructor
  · intro h
    split at h <;> omega
  · intro h
    split <;> omega
/-- an action as one number -/
def pkA (c : Ac) : Nat := c.1.toNatClampNeg + 5 * (c.2.1.toNatClampNeg + 13 * (c.2.2.1.toNatClampNeg + 5 * ((c.2.2.2.1 + 30).toNatClampNeg + 10100 * (c.2.2.2.2 + 30).toNatClampNeg)))
theorem op30 {x : Int32} (h : okOp x) : ∃ k, k < 10100 ∧ x + 30 = nI k := by
  have h1 : -21 ≤ x.toInt ∧ x.toInt ≤ 9999 := by
    rcases h with q | q | q | q
    · have a1 := Int32.le_iff_toInt_le.mp q.1
      have a2 := Int32.le_iff_toInt_le.mp q.2
      rw [show (0 : Int32).toInt = 0 from by decide] at a1
      rw [show (9999 : Int32).toInt = 9999 from by decide] at a2
      omega
    · have a1 := Int32.le_iff_toInt_le.mp q.1
      have a2 := Int32.le_iff_toInt_le.mp q.2
      rw [show (-13 : Int32).toInt = -13 from by decide] at a1
      rw [show (-1 : Int32).toInt = -1 from by decide] at a2
      omega
    · rw [q]; decide
    · rw [q]; decide
  refine ⟨(x.toInt + 30).toNat, by omega, ?_⟩
  apply Int32.toInt_inj.mp
  rw [Int32.toInt_add, show (30 : Int32).toInt = 30 from by decide, nI_toInt (by omega), Int.toNat_of_nonneg (by omega)]
  simp only [Int.bmod]
  split <;> omega
def okA (c : Ac) : Prop := (∃ k, k < 5 ∧ c.1 = nI k) ∧ (∃ k, k < 13 ∧ c.2.1 = nI k) ∧ (∃ k, k < 5 ∧ c.2.2.1 = nI k) ∧ okOp c.2.2.2.1 ∧ okOp c.2.2.2.2
theorem pkA_of {c : Ac} (h : okA c) : pkA c < 2 ^ 60 ∧ c.1 = nI (pkA c % 5) ∧ c.2.1 = nI (pkA c / 5 % 13) ∧ pkA c / 5 % 13 ≤ 12 ∧ c.2.2.1 = nI (pkA c / 65 % 5) ∧ c.2.2.2.1 = nI (pkA c / 325 % 10100) - 30 ∧ c.2.2.2.2 = nI (pkA c / 325 / 10100) - 30 := by
  obtain ⟨⟨k1, h1, e1⟩, ⟨k2, h2, e2⟩, ⟨k3, h3, e3⟩, h4, h5⟩ := h
  obtain ⟨k4, h4, e4⟩ := op30 h4
  obtain ⟨k5, h5, e5⟩ := op30 h5
  have e9 : pkA c = k1 + 5 * (k2 + 13 * (k3 + 5 * (k4 + 10100 * k5))) := by
    unfold pkA
    rw [e1, e2, e3, e4, e5, nI_clamp (by omega), nI_clamp (by omega), nI_clamp (by omega), nI_clamp (by omega), nI_clamp (by omega)]
  have s4 : c.2.2.2.1 = nI k4 - 30 := by rw [← e4, Int32.add_sub_cancel]
  have s5 : c.2.2.2.2 = nI k5 - 30 := by rw [← e5, Int32.add_sub_cancel]
  rw [e9, e1, e2, e3, s4, s5]
  have d1 : (k1 + 5 * (k2 + 13 * (k3 + 5 * (k4 + 10100 * k5)))) % 5 = k1 := by omega
  have d2 : (k1 + 5 * (k2 + 13 * (k3 + 5 * (k4 + 10100 * k5)))) / 5 % 13 = k2 := by omega
  have d3 : (k1 + 5 * (k2 + 13 * (k3 + 5 * (k4 + 10100 * k5)))) / 65 % 5 = k3 := by omega
  have d4 : (k1 + 5 * (k2 + 13 * (k3 + 5 * (k4 + 10100 * k5)))) / 325 % 10100 = k4 := by omega
  have d5 : (k1 + 5 * (k2 + 13 * (k3 + 5 * (k4 + 10100 * k5)))) / 325 / 10100 = k5 := by omega
  rw [d1, d2, d3, d4, d5]
  exact ⟨by omega, rfl, rfl, by omega, rfl, rfl, rfl⟩
theorem opT_len {sep : Int32} {r : List Int32} {rnum : Int32} (h60 : r.length ≤ 60) (hn : ∃ N, N < 1000000000 ∧ rnum = nI N) {z : Int32} (hz : okOp z) : (opT sep r rnum z).length ≤ 60 := by
  by_cases hf : isInB z (-13) (-1) = true
  · obtain ⟨k, hk, e1, e2⟩ := opT_f (sep := sep) (r := r) (rnum := rnum) hf
    have hs := eS sep r k
    rw [e2, str_len hs]
    have := hs.2.1
    omega
  · rw [(opT_n (sep := sep) (r := r) (rnum := rnum) (op_in hz (by simpa using hf)) hn).1]
    have := dec_len (opN sep r rnum z)
    omega
section NF
variable {l : Launch} {D : va_G} {tys : List (ClassId × FieldType)} {z0 : Nat} {A : Nat → Prop} {σ0 : Type} {pic0 : σ0 → Heap → Prop} {cI cJ : ClassId} {ad al : Nat → Nat} {y0 : σ0} {X : Nat → Nat → Int32} {Y : Nat → Nat → Int64} {sep rnum : Int32} {r u v : List Int32}
set_option maxRecDepth 100000 in
set_option maxHeartbeats 8000000 in
theorem n_operand (ht6 : tys[6]? = some (cJ, .long)) {i P : Nat} (hi : i < 48) (hP : Y 0 i = lN P) (hP2 : P < 2 ^ 60) (be : Bool) : ct D tys z0 A (picN pic0 cI cJ ad al A) l yL_operand wsL_operand rm0 [.ref (al 0), .int (nI i), .int (bI be)] (y0, X, Y) (qI (picN pic0 cI cJ ad al A) A (fun q x => x = (y0, X, Y) ∧ q = nI (if be = true then P / 325 / 10100 else P / 325 % 10100) - 30)) := by
  have hdv : P / 325 < 2 ^ 63 := Nat.lt_of_le_of_lt (Nat.div_le_self _ _) (by omega)
  refine ct_of RL (by decide +kernel) rfl rfl (Nat.le_of_ble_eq_true rfl) ?_
  intro p e s m below meth c C hr hm
  refine v_lv (lv' := [(0, _), (1, _), (2, _)]) rfl ?_
  refine v_aload_n C dL_operand_0 (j := 0) rfl rfl ?_
  refine v_iload_n C dL_operand_1 (j := 1) rfl rfl ?_
  refine v_lald C dL_operand_2 6 ht6 N_a (vp_in_nI (by show i < 48; omega) (by decide)) ?_
  refine v_long (b := lN P) (by rw [nI_clamp (by omega)]; exact hP) ?_
  refine v_ldc2 C dL_operand_3 (v := (325)) wwL_operand_k86 ?_
  refine v_ldiv C dL_operand_6 (by decide) ?_
  refine v_long (b := lN (P / 325)) (by rw [show (325 : Int64) = lN 325 from rfl, pk_lDiv (by omega) (by decide) (by decide)]) ?_
  refine v_lstore_n C dL_operand_7 rfl (by decide) (lv' := [(3, _), (0, _), (1, _), (2, _)]) rfl ?_
  refine v_iload_n C dL_operand_8 (j := 3) rfl rfl ?_
  refine v_if_eq C 20 dL_operand_9 (by decide) (fun c1 => ?_) (fun c1 => ?_)
  · skip
    refine v_lload_n C dL_operand_20 (j := 0) rfl rfl ?_
    refine v_ldc2 C dL_operand_21 (v := (10100)) wwL_operand_k88 ?_
    refine v_lrem C dL_operand_24 (by decide) ?_
    refine v_long (b := lN (P / 325 % 10100)) (by rw [show (10100 : Int64) = lN 10100 from rfl, pk_lRem hdv (by decide) (by decide)]) ?_
    refine v_l2i C dL_operand_25 ?_
    rw [lN_i]
    refine v_bipush C dL_operand_26 (v := 30) (by decide) ?_
    refine v_isub C dL_operand_28 ?_
    exact v_ireturn C dL_operand_29 hr (rfl) (Nat.le_of_ble_eq_true rfl) (Nat.le_of_ble_eq_true rfl) (⟨rfl, by rw [bI_0 c1, if_neg (by decide)]⟩)
  · skip
    refine v_lload_n C dL_operand_12 (j := 0) rfl rfl ?_
    refine v_ldc2 C dL_operand_13 (v := (10100)) wwL_operand_k88 ?_
    refine v_ldiv C dL_operand_16 (by decide) ?_
    refine v_goto C 25 dL_operand_17 (by decide) ?_
    refine v_long (b := lN (P / 325 / 10100)) (by rw [show (10100 : Int64) = lN 10100 from rfl, pk_lDiv hdv (by decide) (by decide)]) ?_
    refine v_l2i C dL_operand_25 ?_
    rw [lN_i]
    refine v_bipush C dL_operand_26 (v := 30) (by decide) ?_
    refine v_isub C dL_operand_28 ?_
    exact v_ireturn C dL_operand_29 hr (rfl) (Nat.le_of_ble_eq_true rfl) (Nat.le_of_ble_eq_true rfl) (⟨rfl, by rw [bI_1 c1, if_pos rfl]⟩)
set_option maxRecDepth 100000 in
set_option maxHeartbeats 8000000 in
theorem n_numberOf (ht1 : tys[1]? = some (cI, .int)) (hR : nT 0 X r) (hg : X 5 0 = sep) (hg1 : X 5 1 = rnum) (hn : ∃ N, N < 1000000000 ∧ rnum = nI N) {z : Int32} (hz : okOp z) : ct D tys z0 A (picN pic0 cI cJ ad al A) l yL_numberOf wsL_numberOf (rmL 2 49) [.ref (ad 0), .ref (ad 5), .int z] (y0, X, Y) (qI (picN pic0 cI cJ ad al A) A (fun q x => x = (y0, X, Y) ∧ q = num (opT sep r rnum z) ∧ (isInB z (-13) (-1) = false → q = opN sep r rnum z))) := by
  refine ct_of RL (by decide +kernel) rfl rfl (Nat.le_of_ble_eq_true rfl) ?_
  have hN9 : isInB z (-13) (-1) = false → ∀ y : Int32, opN sep r rnum z = y → y = num (opT sep r rnum z) ∧ (isInB z (-13) (-1) = false → y = opN sep r rnum z) := fun hf y hy => ⟨by rw [(opT_n (sep := sep) (r := r) (rnum := rnum) (op_in hz hf) hn).2]; exact hy.symm, fun _ => hy.symm⟩
  intro p e s m below meth c C hr hm
  refine v_lv (lv' := [(0, _), (1, _), (2, _)]) rfl ?_
  refine v_iload_n C dL_numberOf_0 (j := 2) rfl rfl ?_
  refine v_if_lt C 8 dL_numberOf_1 (by decide) (fun c1 => ?_) (fun c1 => ?_)
  · skip
    refine v_iload_n C dL_numberOf_8 (j := 2) rfl rfl ?_
    refine v_bipush C dL_numberOf_9 (v := (-20)) (by decide) ?_
    refine v_icmp_ne C 22 dL_numberOf_11 (by decide) (fun c2 => ?_) (fun c2 => ?_)
    · skip
      refine v_iload_n C dL_numberOf_22 (j := 2) rfl rfl ?_
      refine v_bipush C dL_numberOf_23 (v := (-21)) (by decide) ?_
      refine v_icmp_ne C 34 dL_numberOf_25 (by decide) (fun c3 => ?_) (fun c3 => ?_)
      · skip
        have hf : isInB z (-13) (-1) = true := by
            rcases hz with q | q | q | q
            · exact absurd c1 (Int32.not_lt.mpr q.1)
            · unfold isInB; rw [decide_eq_true q.1, decide_eq_true q.2]; rfl
            · exact absurd q c2
            · exact absurd q c3
        obtain ⟨k, hk, e1, e2⟩ := opT_f (sep := sep) (r := r) (rnum := rnum) hf
        refine v_aload_n C dL_numberOf_34 (j := 0) rfl rfl ?_
        refine v_aload_n C dL_numberOf_35 (j := 0) rfl rfl ?_
        refine v_aload_n C dL_numberOf_36 (j := 1) rfl rfl ?_
        refine v_iconst C dL_numberOf_37 (v := (-1)) (by decide) ?_
        refine v_iload_n C dL_numberOf_38 (j := 2) rfl rfl ?_
        refine v_isub C dL_numberOf_39 ?_
        rw [e1]
        refine v_iconst C dL_numberOf_40 (v := 0) (by decide) ?_
        refine v_ci (v_runS C (n_edB ht1 hR hg hk) (va_cwS 4 C.1.2.2.2.2 gL_numberOf_L_edge rfl rfl rfl (by decide +kernel) ⟨Nat.le_of_ble_eq_true rfl, Nat.le_of_ble_eq_true rfl⟩) rfl dL_numberOf_41 (rest := [_]) (Nat.le_of_ble_eq_true rfl) rfl ⟨(by first | exact Nat.le_of_ble_eq_true rfl | (dsimp only; omega)), (by first | exact Nat.le_of_ble_eq_true rfl | (dsimp only; omega))⟩) (fun q x' hx' => ?_)
        obtain ⟨rfl, rfl⟩ := hx'
        refine v_aload_n C dL_numberOf_44 (j := 0) rfl rfl ?_
        refine v_aload_n C dL_numberOf_45 (j := 1) rfl rfl ?_
        refine v_iconst C dL_numberOf_46 (v := (-1)) (by decide) ?_
        refine v_iload_n C dL_numberOf_47 (j := 2) rfl rfl ?_
        refine v_isub C dL_numberOf_48 ?_
        rw [e1]
        refine v_iconst C dL_numberOf_49 (v := 1) (by decide) ?_
        refine v_ci (v_runS C (n_edE ht1 hR hg hk) (va_cwS 4 C.1.2.2.2.2 gL_numberOf_L_edge rfl rfl rfl (by decide +kernel) ⟨Nat.le_of_ble_eq_true rfl, Nat.le_of_ble_eq_true rfl⟩) rfl dL_numberOf_50 (rest := [_, _]) (Nat.le_of_ble_eq_true rfl) rfl ⟨(by first | exact Nat.le_of_ble_eq_true rfl | (dsimp only; omega)), (by first | exact Nat.le_of_ble_eq_true rfl | (dsimp only; omega))⟩) (fun q x' hx' => ?_)
        obtain ⟨rfl, rfl⟩ := hx'
        refine v_ci (v_runS C (n_number (j := 0) ht1 (by decide) hR (eS sep r k)) (va_cwS 3 C.1.2.2.2.2 gL_numberOf_L_number rfl rfl rfl (by decide +kernel) ⟨Nat.le_of_ble_eq_true rfl, Nat.le_of_ble_eq_true rfl⟩) rfl dL_numberOf_53 (rest := []) (Nat.le_of_ble_eq_true rfl) rfl ⟨(by first | exact Nat.le_of_ble_eq_true rfl | (dsimp only; omega)), (by first | exact Nat.le_of_ble_eq_true rfl | (dsimp only; omega))⟩) (fun q x' hx' => ?_)
        obtain ⟨rfl, rfl⟩ := hx'
        exact v_ireturn C dL_numberOf_56 hr (rfl) (Nat.le_of_ble_eq_true rfl) (Nat.le_of_ble_eq_true rfl) (⟨rfl, by rw [e2], fun h => by rw [hf] at h; cases h⟩)
      · skip
        refine v_aload_n C dL_numberOf_28 (j := 1) rfl rfl ?_
        refine v_iconst C dL_numberOf_29 (v := 1) (by decide) ?_
        refine v_iald C dL_numberOf_30 1 ht1 N_g (by unfold vp_in; decide) ?_
        refine v_int (b := rnum) hg1 ?_
        refine v_goto C 56 dL_numberOf_31 (by decide) ?_
        exact v_ireturn C dL_numberOf_56 hr (rfl) (Nat.le_of_ble_eq_true rfl) (Nat.le_of_ble_eq_true rfl) (⟨rfl, hN9 (by rw [c3]; decide) _ (by unfold opN; rw [if_neg c2, if_pos c3])⟩)
    · skip
      refine v_aload_n C dL_numberOf_14 (j := 0) rfl rfl ?_
      refine v_aload_n C dL_numberOf_15 (j := 1) rfl rfl ?_
      refine v_ci (v_runS C (n_fields ht1 hR hg) (va_cwS 2 C.1.2.2.2.2 gL_numberOf_L_fields rfl rfl rfl (by decide +kernel) ⟨Nat.le_of_ble_eq_true rfl, Nat.le_of_ble_eq_true rfl⟩) rfl dL_numberOf_16 (rest := []) (Nat.le_of_ble_eq_true rfl) rfl ⟨(by first | exact Nat.le_of_ble_eq_true rfl | (dsimp only; omega)), (by first | exact Nat.le_of_ble_eq_true rfl | (dsimp only; omega))⟩) (fun q x' hx' => ?_)
      obtain ⟨rfl, rfl⟩ := hx'
      refine v_goto C 56 dL_numberOf_19 (by decide) ?_
      exact v_ireturn C dL_numberOf_56 hr (rfl) (Nat.le_of_ble_eq_true rfl) (Nat.le_of_ble_eq_true rfl) (⟨rfl, hN9 (by rw [c2]; decide) _ (by unfold opN; rw [if_pos c2])⟩)
  · skip
    have h20 : z ≠ -20 := fun w => c1 (by rw [w]; decide)
    have h21 : z ≠ -21 := fun w => c1 (by rw [w]; decide)
    have hf : isInB z (-13) (-1) = false := by
        unfold isInB
        rw [decide_eq_false (p := z ≤ -1) (fun w => c1 (Int32.lt_of_le_of_lt w (by decide))), Bool.and_false]
    refine v_iload_n C dL_numberOf_4 (j := 2) rfl rfl ?_
    refine v_goto C 56 dL_numberOf_5 (by decide) ?_
    exact v_ireturn C dL_numberOf_56 hr (rfl) (Nat.le_of_ble_eq_true rfl) (Nat.le_of_ble_eq_true rfl) (⟨rfl, hN9 hf _ (by unfold opN; rw [if_neg h20, if_neg h21])⟩)
set_option maxRecDepth 100000 in
set_option maxHeartbeats 8000000 in
theorem n_texts (ht1 : tys[1]? = some (cI, .int)) (hR : nT 0 X r) (hg : X 5 0 = sep) (hg1 : X 5 1 = rnum) (hn : ∃ N, N < 1000000000 ∧ rnum = nI N) {z : Int32} (hz : okOp z) (hu : nT 1 X u) : ct D tys z0 A (picN pic0 cI cJ ad al A) l yL_texts wsL_texts (rmL 3 71) [.ref (ad 0), .ref (ad 5), .int z, .ref (ad 1)] (y0, X, Y) (qV (picN pic0 cI cJ ad al A) A (fun x => ∃ X', x = (y0, X', Y) ∧ nT 1 X' (app60 u (opT sep r rnum z)) ∧ ich [1] X X')) := by
  refine ct_of RL (by decide +kernel) rfl rfl (Nat.le_of_ble_eq_true rfl) ?_
  intro p e s m below meth c C hr hm
  refine v_lv (lv' := [(0, _), (1, _), (2, _), (3, _)]) rfl ?_
  refine v_cut0 (pcj := 36) (lvj := [(0, .ref (ad 0)), (1, .ref (ad 5)), (2, .int z), (3, .ref (ad 1))]) (stj := []) (isInB z (-13) (-1) = false) (fun hf => ?_) (fun K => ?_)
  · skip
    have ho := opT_n (sep := sep) (r := r) (rnum := rnum) (op_in hz hf) hn
    refine v_aload_n C dL_texts_36 (j := 3) rfl rfl ?_
    refine v_aload_n C dL_texts_37 (j := 0) rfl rfl ?_
    refine v_aload_n C dL_texts_38 (j := 1) rfl rfl ?_
    refine v_iload_n C dL_texts_39 (j := 2) rfl rfl ?_
    refine v_ci (v_runS C (n_numberOf ht1 hR hg hg1 hn hz) (va_cwS 3 C.1.2.2.2.2 gL_texts_L_numberOf rfl rfl rfl (by decide +kernel) ⟨Nat.le_of_ble_eq_true rfl, Nat.le_of_ble_eq_true rfl⟩) rfl dL_texts_40 (rest := [_]) (Nat.le_of_ble_eq_true rfl) rfl ⟨(by first | exact Nat.le_of_ble_eq_true rfl | (dsimp only; omega)), (by first | exact Nat.le_of_ble_eq_true rfl | (dsimp only; omega))⟩) (fun q x' hx' => ?_)
    obtain ⟨rfl, hq, hq2⟩ := hx'
    have hq3 := hq2 hf
    refine v_cv (v_runS C (n_writes ht1 hu q) (va_cwS 2 C.1.2.2.2.2 gL_texts_L_writes rfl rfl rfl (by decide +kernel) ⟨Nat.le_of_ble_eq_true rfl, Nat.le_of_ble_eq_true rfl⟩) rfl dL_texts_43 (rest := []) (Nat.le_of_ble_eq_true rfl) rfl ⟨(by first | exact Nat.le_of_ble_eq_true rfl | (dsimp only; omega)), (by first | exact Nat.le_of_ble_eq_true rfl | (dsimp only; omega))⟩) (fun x' hx' => ?_)
    obtain ⟨X2, rfl, g1, g2⟩ := hx'
    exact v_return C dL_texts_46 hr (Nat.le_of_ble_eq_true rfl) (Nat.le_of_ble_eq_true rfl) (⟨X2, rfl, by rw [ho.1, ← hq3]; exact g1, g2⟩)
  · skip
    refine v_iload_n C dL_texts_0 (j := 2) rfl rfl ?_
    refine v_if_ge C 36 dL_texts_1 (by decide) (fun c1 => ?_) (fun c1 => ?_)
    · skip
      exact K (by unfold isInB; rw [decide_eq_false (p := z ≤ -1) (fun w => absurd c1 (Int32.not_le.mpr (Int32.lt_of_le_of_lt w (by decide)))), Bool.and_false])
    · skip
      refine v_iload_n C dL_texts_4 (j := 2) rfl rfl ?_
      refine v_bipush C dL_texts_5 (v := (-14)) (by decide) ?_
      refine v_icmp_le C 36 dL_texts_7 (by decide) (fun c2 => ?_) (fun c2 => ?_)
      · skip
        exact K (by unfold isInB; rw [decide_eq_false (p := -13 ≤ z) (fun w => absurd (Int32.le_trans w c2) (by decide))]; rfl)
      · skip
        have hf : isInB z (-13) (-1) = true := by
            have a1 := Int32.not_le.mp c1
            have a2 := Int32.not_le.mp c2
            rw [Int32.lt_iff_toInt_lt, show (0 : Int32).toInt = 0 from by decide] at a1
            rw [Int32.lt_iff_toInt_lt, show (-14 : Int32).toInt = -14 from by decide] at a2
            unfold isInB
            rw [decide_eq_true (Int32.le_iff_toInt_le.mpr (by rw [show (-13 : Int32).toInt = -13 from by decide]; omega)), decide_eq_true (Int32.le_iff_toInt_le.mpr (by rw [show (-1 : Int32).toInt = -1 from by decide]; omega))]
            rfl
        obtain ⟨k, hk, e1, e2⟩ := opT_f (sep := sep) (r := r) (rnum := rnum) hf
        refine v_aload_n C dL_texts_10 (j := 0) rfl rfl ?_
        refine v_aload_n C dL_texts_11 (j := 0) rfl rfl ?_
        refine v_aload_n C dL_texts_12 (j := 1) rfl rfl ?_
        refine v_iconst C dL_texts_13 (v := (-1)) (by decide) ?_
        refine v_iload_n C dL_texts_14 (j := 2) rfl rfl ?_
        refine v_isub C dL_texts_15 ?_
        rw [e1]
        refine v_iconst C dL_texts_16 (v := 0) (by decide) ?_
        refine v_ci (v_runS C (n_edB ht1 hR hg hk) (va_cwS 4 C.1.2.2.2.2 gL_texts_L_edge rfl rfl rfl (by decide +kernel) ⟨Nat.le_of_ble_eq_true rfl, Nat.le_of_ble_eq_true rfl⟩) rfl dL_texts_17 (rest := [_]) (Nat.le_of_ble_eq_true rfl) rfl ⟨(by first | exact Nat.le_of_ble_eq_true rfl | (dsimp only; omega)), (by first | exact Nat.le_of_ble_eq_true rfl | (dsimp only; omega))⟩) (fun q x' hx' => ?_)
        obtain ⟨rfl, rfl⟩ := hx'
        refine v_aload_n C dL_texts_20 (j := 0) rfl rfl ?_
        refine v_aload_n C dL_texts_21 (j := 1) rfl rfl ?_
        refine v_iconst C dL_texts_22 (v := (-1)) (by decide) ?_
        refine v_iload_n C dL_texts_23 (j := 2) rfl rfl ?_
        refine v_isub C dL_texts_24 ?_
        rw [e1]
        refine v_iconst C dL_texts_25 (v := 1) (by decide) ?_
        refine v_ci (v_runS C (n_edE ht1 hR hg hk) (va_cwS 4 C.1.2.2.2.2 gL_texts_L_edge rfl rfl rfl (by decide +kernel) ⟨Nat.le_of_ble_eq_true rfl, Nat.le_of_ble_eq_true rfl⟩) rfl dL_texts_26 (rest := [_, _]) (Nat.le_of_ble_eq_true rfl) rfl ⟨(by first | exact Nat.le_of_ble_eq_true rfl | (dsimp only; omega)), (by first | exact Nat.le_of_ble_eq_true rfl | (dsimp only; omega))⟩) (fun q x' hx' => ?_)
        obtain ⟨rfl, rfl⟩ := hx'
        refine v_aload_n C dL_texts_29 (j := 3) rfl rfl ?_
        refine v_cv (v_runS C (n_copies (i := 0) (j := 1) ht1 (by decide) (by decide) (by decide) hR (eS sep r k) hu) (va_cwS 4 C.1.2.2.2.2 gL_texts_L_copies rfl rfl rfl (by decide +kernel) ⟨Nat.le_of_ble_eq_true rfl, Nat.le_of_ble_eq_true rfl⟩) rfl dL_texts_30 (rest := []) (Nat.le_of_ble_eq_true rfl) rfl ⟨(by first | exact Nat.le_of_ble_eq_true rfl | (dsimp only; omega)), (by first | exact Nat.le_of_ble_eq_true rfl | (dsimp only; omega))⟩) (fun x' hx' => ?_)
        obtain ⟨X2, rfl, g1, g2⟩ := hx'
        refine v_goto C 46 dL_texts_33 (by decide) ?_
        exact v_return C dL_texts_46 hr (Nat.le_of_ble_eq_true rfl) (Nat.le_of_ble_eq_true rfl) (⟨X2, rfl, by rw [e2]; exact g1, g2⟩)
set_option maxRecDepth 100000 in
set_option maxHeartbeats 8000000 in
theorem n_fits (ht1 : tys[1]? = some (cI, .int)) (z : Int64) : ct D tys z0 A (picN pic0 cI cJ ad al A) l yL_fits wsL_fits rm0 [.ref (ad 5), .long z] (y0, X, Y) (qI (picN pic0 cI cJ ad al A) A (fun q x => x = (y0, va_up X 5 (upd (X 5) 2 (X 5 2 + fltI z)), Y) ∧ q = fitI z)) := by
  refine ct_of RL (by decide +kernel) rfl rfl (Nat.le_of_ble_eq_true rfl) ?_
  intro p e s m below meth c C hr hm
  refine v_lv (lv' := [(0, _), (1, _)]) rfl ?_
  refine v_aload_n C dL_fits_0 (j := 0) rfl rfl ?_
  refine v_iconst C dL_fits_1 (v := 2) (by decide) ?_
  refine v_dup2 C dL_fits_2 rfl rfl ?_
  refine v_iald C dL_fits_3 1 ht1 N_g (by unfold vp_in; decide) ?_
  refine v_cut (pcj := 17) (lvj := [(0, .ref (ad 5)), (1, .long z)]) (stj := [.int (X 5 2), .int 2, .ref (ad 5)]) (fun w => w = fltI z) (fun w hw => ?_) (fun K => ?_)
  · skip
    subst hw
    refine v_iadd C dL_fits_17 ?_
    refine v_iast C dL_fits_18 1 ht1 (by unfold vp_in; decide) (N_sg _) ?_
    refine v_lload_n C dL_fits_19 (j := 1) rfl rfl ?_
    refine v_lload_n C dL_fits_20 (j := 1) rfl rfl ?_
    refine v_l2i C dL_fits_21 ?_
    refine v_i2l C dL_fits_22 ?_
    refine v_lcmp C dL_fits_23 ?_
    refine v_if_ne C 32 dL_fits_24 (by decide) (fun c1 => ?_) (fun c1 => ?_)
    · skip
      refine v_iconst C dL_fits_32 (v := 0) (by decide) ?_
      exact v_ireturn C dL_fits_33 hr (rfl) (Nat.le_of_ble_eq_true rfl) (Nat.le_of_ble_eq_true rfl) (⟨rfl, by unfold fitI; rw [if_neg (fun h => c1 ((lc_eq _ _).mpr ((isI_iff z).mpr h)))]⟩)
    · skip
      refine v_lload_n C dL_fits_27 (j := 1) rfl rfl ?_
      refine v_l2i C dL_fits_28 ?_
      refine v_goto C 33 dL_fits_29 (by decide) ?_
      exact v_ireturn C dL_fits_33 hr (rfl) (Nat.le_of_ble_eq_true rfl) (Nat.le_of_ble_eq_true rfl) (⟨rfl, by unfold fitI; rw [if_pos ((isI_iff z).mp ((lc_eq _ _).mp c1))]⟩)
  · skip
    refine v_lload_n C dL_fits_4 (j := 1) rfl rfl ?_
    refine v_lload_n C dL_fits_5 (j := 1) rfl rfl ?_
    refine v_l2i C dL_fits_6 ?_
    refine v_i2l C dL_fits_7 ?_
    refine v_lcmp C dL_fits_8 ?_
    refine v_if_ne C 16 dL_fits_9 (by decide) (fun c1 => ?_) (fun c1 => ?_)
    · skip
      refine v_iconst C dL_fits_16 (v := 1) (by decide) ?_
      exact K _ (by unfold fltI; rw [if_neg (fun h => c1 ((lc_eq _ _).mpr ((isI_iff z).mpr h)))])
    · skip
      refine v_iconst C dL_fits_12 (v := 0) (by decide) ?_
      refine v_goto C 17 dL_fits_13 (by decide) ?_
      exact K _ (by unfold fltI; rw [if_pos ((isI_iff z).mp ((lc_eq _ _).mp c1))])
end NF
