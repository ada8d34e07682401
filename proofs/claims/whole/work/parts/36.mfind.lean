/-! ===== the reference: operands, values ===== -/
theorem wfX12_numberOfOperand_141 : Cond.fieldLink RX12 141 "FieldScribeModel" (TX12 8).2.1 (TX12 8).2.2.1 ∈ wsX12_numberOfOperand := by decide +kernel
theorem wiX12_numberOfOperand_X12 : ∀ w ∈ u_ws RX12 TX12 34, w ∈ wsX12_numberOfOperand := by decide +kernel
theorem wfX12_numberOfOperand_88 : Cond.fieldLink RX12 88 "FieldScribeModel" (TX12 3).2.1 (TX12 3).2.2.1 ∈ wsX12_numberOfOperand := by decide +kernel
theorem wfX12_addsOperand_13 : Cond.fieldLink RX12 13 "FieldScribeModel" (TX12 1).2.1 (TX12 1).2.2.1 ∈ wsX12_addsOperand := by decide +kernel
theorem wiX12_addsOperand_X12 : ∀ w ∈ u_ws RX12 TX12 34, w ∈ wsX12_addsOperand := by decide +kernel
theorem wfX12_fits_165 : Cond.fieldLink RX12 165 "FieldScribeModel" (TX12 9).2.1 (TX12 9).2.2.1 ∈ wsX12_fits := by decide +kernel
theorem wiX12_fits_X12 : ∀ w ∈ u_ws RX12 TX12 34, w ∈ wsX12_fits := by decide +kernel
theorem wwX12_fits_k161 : Cond.constantLong RX12 161 (-2147483648) ∈ wsX12_fits := by decide +kernel
theorem wwX12_fits_k163 : Cond.constantLong RX12 163 (2147483647) ∈ wsX12_fits := by decide +kernel
theorem nI_mul (a b : Nat) : nI a * nI b = nI (a * b) := (Int32.ofNat_mul a b).symm
theorem dig_val (n k a : Nat) : nI a * 10 + (dig n k - 48) = nI (a * 10 + n / 10 ^ k % 10) := by
  unfold dig
  rw [show (10 : Int32) = nI 10 from rfl, nI_mul, show (48 : Int32) = nI 48 from rfl, ← nI_add 48, Int32.add_comm (nI 48), Int32.add_sub_cancel, nI_add]
theorem isDig_dig (n k : Nat) : isDig (dig n k) = true := by
  have h := dig_small n k
  unfold isDig dig
  rw [show (48 : Int32) = nI 48 from rfl, show (57 : Int32) = nI 57 from rfl, decide_eq_true ((nI_leI (by decide) (by omega)).mpr (by omega)), decide_eq_true ((nI_leI (by omega) (by decide)).mpr (by omega))]
  rfl
theorem nrun_dl (n : Nat) : ∀ (k m : Nat), k ≤ m → nrun (dl n k) m = k := by
  intro k
  induction k with
  | zero => intro m _; cases m <;> rfl
  | succ k ih =>
    intro m hm
    obtain ⟨m', rfl⟩ : ∃ m', m = m' + 1 := ⟨m - 1, by omega⟩
    show (if isDig (dig n k) = true then nrun (dl n k) m' + 1 else 0) = k + 1
    rw [if_pos (isDig_dig n k), ih m' (by omega)]
theorem nval_dl (n : Nat) : ∀ (k a : Nat), nval (dl n k) k (nI a) = nI (a * 10 ^ k + n % 10 ^ k) := by
  intro k
  induction k with
  | zero => intro a; show nI a = _; rw [Nat.pow_zero, Nat.mul_one, Nat.mod_one, Nat.add_zero]
  | succ k ih =>
    intro a
    show nval (dl n k) k (nI a * 10 + (dig n k - 48)) = _
    rw [dig_val, ih]
    congr 1
    have e1 : n % 10 ^ (k + 1) = n % 10 ^ k + 10 ^ k * (n / 10 ^ k % 10) := by rw [Nat.pow_succ, Nat.mod_mul]
    rw [e1, Nat.pow_succ, Nat.add_mul, Nat.mul_assoc, Nat.mul_comm 10 (10 ^ k), Nat.mul_comm (n / 10 ^ k % 10) (10 ^ k)]
    omega
theorem num_dec {N : Nat} (h : N < 1000000000) : num (dec (nI N)) = nI N := by
  have h1 : ¬ nI N < 0 := nI_pos (by omega)
  have h2 : (nI N).toInt.natAbs = N := by rw [nI_toInt (by omega)]; rfl
  have hnd := ndig_in N
  have h3 : N < 10 ^ ndig N := by
    by_cases h9 : ndig N < 10
    · exact Nat.lt_of_not_le (fun z => by
        have := (ndig_iff (n := N) h9 (by omega)).mpr (Or.inl z)
        omega)
    · rw [show ndig N = 10 by omega]; omega
  have h4 : ndig N ≤ 9 := by
    have : ¬ 9 < ndig N := fun z => by
      rcases (ndig_iff (n := N) (k := 9) (by decide) (by omega)).mp z with q | q
      · omega
      · cases q
    omega
  have e1 : dec (nI N) = dl N (ndig N) := by unfold dec; rw [if_neg h1, h2]
  have e2 : nst (dl N (ndig N)) = 0 := by
    obtain ⟨m, hm⟩ : ∃ m, ndig N = m + 1 := ⟨ndig N - 1, by omega⟩
    rw [hm]
    unfold nst
    rw [if_neg]
    intro z
    have z2 : dig N m = 45 := by simpa [dl] using z
    have z3 := isDig_dig N m
    rw [z2] at z3
    exact absurd z3 (by decide)
  unfold num
  rw [e1, e2, if_neg (by decide), List.drop_zero, nrun_dl N _ 9 h4]
  have := nval_dl N (ndig N) 0
  rw [Nat.zero_mul, Nat.zero_add, Nat.mod_eq_of_lt h3] at this
  exact this
theorem op_in {x : Int32} (h : okOp x) (hf : isInB x (-13) (-1) = false) : (0 ≤ x ∧ x ≤ 9999) ∨ x = -20 ∨ x = -21 := by
  rcases h with q | q | q | q
  · exact Or.inl q
  · unfold isInB at hf; rw [decide_eq_true q.1, decide_eq_true q.2] at hf; cases hf
  · exact Or.inr (Or.inl q)
  · exact Or.inr (Or.inr q)
theorem opT_f {sep : Int32} {r : List Int32} {rnum x : Int32} (hf : isInB x (-13) (-1) = true) : ∃ k, k ≤ 12 ∧ -1 - x = nI k ∧ opT sep r rnum x = fld sep r k := by
  unfold isInB at hf
  rw [Bool.and_eq_true] at hf
  have h1 := of_decide_eq_true hf.1
  have h2 := of_decide_eq_true hf.2
  obtain ⟨k, hk, e⟩ := op_field h1 h2
  refine ⟨k, hk, e, ?_⟩
  have a1 := Int32.le_iff_toInt_le.mp h1
  have a2 := Int32.le_iff_toInt_le.mp h2
  rw [show (-13 : Int32).toInt = -13 from rfl] at a1
  rw [show (-1 : Int32).toInt = -1 from rfl] at a2
  unfold opT
  rw [if_pos (Int32.lt_iff_toInt_lt.mpr (by rw [show (0 : Int32).toInt = 0 from rfl]; omega)), if_neg (fun z => by rw [z, show (-20 : Int32).toInt = -20 from rfl] at a1; omega), if_neg (fun z => by rw [z, show (-21 : Int32).toInt = -21 from rfl] at a1; omega), e, nI_clamp (by omega)]
/-- the number of an operand that is no field -/
def opN (sep : Int32) (r : List Int32) (rnum x : Int32) : Int32 := if x = -20 then nI (nfd sep r) else if x = -21 then rnum else x
theorem opT_n {sep : Int32} {r : List Int32} {rnum x : Int32} (h : (0 ≤ x ∧ x ≤ 9999) ∨ x = -20 ∨ x = -21) (hn : ∃ N, N < 1000000000 ∧ rnum = nI N) : opT sep r rnum x = dec (opN sep r rnum x) ∧ num (opT sep r rnum x) = opN sep r rnum x := by
  have hnf := nfd_le sep r
  unfold opT opN
  rcases h with q | q | q
  · have h20 : x ≠ -20 := fun z => by rw [z] at q; exact absurd q.1 (by decide)
    have h21 : x ≠ -21 := fun z => by rw [z] at q; exact absurd q.1 (by decide)
    obtain ⟨k, hk, rfl⟩ := nI_of2 (M := 9999) (n := 9999) rfl (Int32.not_lt.mpr q.1) q.2
    rw [if_neg (Int32.not_lt.mpr q.1), if_neg h20, if_neg h21]
    exact ⟨rfl, num_dec (by omega)⟩
  · rw [q, if_pos (by decide), if_pos rfl, if_pos rfl]
    exact ⟨rfl, num_dec (by omega)⟩
  · obtain ⟨N, hN, rfl⟩ := hn
    rw [q, if_pos (by decide), if_neg (by decide), if_pos rfl, if_neg (by decide), if_pos rfl]
    exact ⟨rfl, num_dec hN⟩
section MF
variable {l : Launch} {D : va_G} {tys : List (ClassId × FieldType)} {z0 : Nat} {A : Nat → Prop} {cI cZ : ClassId} {md : Nat} {ad : Nat → Nat} {I : Nat → Int32} {M : Nat → Nat → Int32} {sep rnum : Int32} {r u v : List Int32}
set_option maxRecDepth 100000 in
set_option maxHeartbeats 8000000 in
theorem m_numberOfOperand (ht1 : tys[1]? = some (cI, .int)) (hR : mRec I M r) (hC : mCut I M sep r) (h8 : I 8 = rnum) (hn : ∃ N, N < 1000000000 ∧ rnum = nI N) {z : Int32} (hz : okOp z) : ct D tys z0 A (picM D cI cZ md ad A) l yX12_numberOfOperand wsX12_numberOfOperand (rmL 4 92) [.ref md, .int z] (I, M) (qI (picM D cI cZ md ad A) A (fun q x => x = (I, M) ∧ q = num (opT sep r rnum z) ∧ (isInB z (-13) (-1) = false → q = opN sep r rnum z))) := by
  refine ct_of RX12 (by decide +kernel) rfl rfl (Nat.le_of_ble_eq_true rfl) ?_
  intro p e s m below meth c C hr hm
  refine v_lv (lv' := [(0, _), (1, _)]) rfl ?_
  refine v_iload_n C dX12_numberOfOperand_0 (j := 1) rfl rfl ?_
  refine v_ci (v_runS C (m_isFieldOf z) (va_cwS 1 C.1.2.2.2.2 gX12_numberOfOperand_X12_isFieldOf rfl rfl rfl (by decide +kernel) ⟨Nat.le_of_ble_eq_true rfl, Nat.le_of_ble_eq_true rfl⟩) rfl dX12_numberOfOperand_1 (rest := []) (Nat.le_of_ble_eq_true rfl) rfl ⟨(by first | exact Nat.le_of_ble_eq_true rfl | (dsimp only; omega)), (by first | exact Nat.le_of_ble_eq_true rfl | (dsimp only; omega))⟩) (fun q x' hx' => ?_)
  obtain ⟨rfl, rfl⟩ := hx'
  refine v_if_eq C 17 dX12_numberOfOperand_4 (by decide) (fun c1 => ?_) (fun c1 => ?_)
  · skip
    have hf := bI_0 c1
    have hop := op_in hz hf
    have ho := opT_n (sep := sep) (r := r) (rnum := rnum) hop hn
    have hN9 : ∀ y : Int32, opN sep r rnum z = y → y = num (opT sep r rnum z) ∧ (isInB z (-13) (-1) = false → y = opN sep r rnum z) := fun y hy => ⟨by rw [ho.2]; exact hy.symm, fun _ => hy.symm⟩
    refine v_iload_n C dX12_numberOfOperand_17 (j := 1) rfl rfl ?_
    refine v_bipush C dX12_numberOfOperand_18 (v := (-20)) (by decide) ?_
    refine v_icmp_ne C 30 dX12_numberOfOperand_20 (by decide) (fun c2 => ?_) (fun c2 => ?_)
    · skip
      refine v_iload_n C dX12_numberOfOperand_30 (j := 1) rfl rfl ?_
      refine v_bipush C dX12_numberOfOperand_31 (v := (-21)) (by decide) ?_
      refine v_icmp_ne C 43 dX12_numberOfOperand_33 (by decide) (fun c3 => ?_) (fun c3 => ?_)
      · skip
        refine v_iload_n C dX12_numberOfOperand_43 (j := 1) rfl rfl ?_
        exact v_ireturn C dX12_numberOfOperand_44 hr (rfl) (Nat.le_of_ble_eq_true rfl) (Nat.le_of_ble_eq_true rfl) (⟨rfl, hN9 _ (by unfold opN; rw [if_neg c2, if_neg c3])⟩)
      · skip
        refine v_aload_n C dX12_numberOfOperand_36 (j := 0) rfl rfl ?_
        refine v_get C (T := TX12) (ci := 12) (j := 8) dX12_numberOfOperand_37 wiX12_numberOfOperand_X12 rfl (by decide) wfX12_numberOfOperand_141 (fun _ h => h) (M_int rfl (by decide)) ?_
        refine v_goto C 44 dX12_numberOfOperand_40 (by decide) ?_
        rw [h8]
        exact v_ireturn C dX12_numberOfOperand_44 hr (rfl) (Nat.le_of_ble_eq_true rfl) (Nat.le_of_ble_eq_true rfl) (⟨rfl, hN9 _ (by unfold opN; rw [if_neg c2, if_pos c3])⟩)
    · skip
      refine v_aload_n C dX12_numberOfOperand_23 (j := 0) rfl rfl ?_
      refine v_get C (T := TX12) (ci := 12) (j := 3) dX12_numberOfOperand_24 wiX12_numberOfOperand_X12 rfl (by decide) wfX12_numberOfOperand_88 (fun _ h => h) (M_int rfl (by decide)) ?_
      refine v_goto C 44 dX12_numberOfOperand_27 (by decide) ?_
      rw [hC.2.1]
      exact v_ireturn C dX12_numberOfOperand_44 hr (rfl) (Nat.le_of_ble_eq_true rfl) (Nat.le_of_ble_eq_true rfl) (⟨rfl, hN9 _ (by unfold opN; rw [if_pos c2])⟩)
  · skip
    have hf := bI_1 c1
    obtain ⟨k, hk, e1, e2⟩ := opT_f (sep := sep) (r := r) (rnum := rnum) hf
    obtain ⟨b1, e3, hb1, he1, hs1⟩ := be hR hC hk
    refine v_aload_n C dX12_numberOfOperand_7 (j := 0) rfl rfl ?_
    refine v_iconst C dX12_numberOfOperand_8 (v := (-1)) (by decide) ?_
    refine v_iload_n C dX12_numberOfOperand_9 (j := 1) rfl rfl ?_
    refine v_isub C dX12_numberOfOperand_10 ?_
    rw [e1]
    refine v_ci (v_runV C (m_numberOf ht1 hR hk hb1 he1 hs1) (cwV 1 C.1.2.2.2.2 gX12_numberOfOperand_X12_numberOf rfl rfl rfl (by decide +kernel) ⟨Nat.le_of_ble_eq_true rfl, Nat.le_of_ble_eq_true rfl⟩) rfl rfl (M_gC) dX12_numberOfOperand_11 (rest := []) (Nat.le_of_ble_eq_true rfl) rfl ⟨(by first | exact Nat.le_of_ble_eq_true rfl | (dsimp only; omega)), (by first | exact Nat.le_of_ble_eq_true rfl | (dsimp only; omega))⟩) (fun q x' hx' => ?_)
    obtain ⟨rfl, rfl⟩ := hx'
    refine v_goto C 44 dX12_numberOfOperand_14 (by decide) ?_
    exact v_ireturn C dX12_numberOfOperand_44 hr (rfl) (Nat.le_of_ble_eq_true rfl) (Nat.le_of_ble_eq_true rfl) (⟨rfl, by rw [e2], fun h => by rw [hf] at h; cases h⟩)
set_option maxRecDepth 100000 in
set_option maxHeartbeats 8000000 in
theorem m_addsOperand (ht1 : tys[1]? = some (cI, .int)) (hR : mRec I M r) (hC : mCut I M sep r) (h8 : I 8 = rnum) (hn : ∃ N, N < 1000000000 ∧ rnum = nI N) {z : Int32} (hz : okOp z) (hu : mTx 31 30 I M u) : ct D tys z0 A (picM D cI cZ md ad A) l yX12_addsOperand wsX12_addsOperand (rmL 5 113) [.ref md, .int z] (I, M) (qV (picM D cI cZ md ad A) A (fun x => ∃ I' M', x = (I', M') ∧ mTx 31 30 I' M' (app60 u (opT sep r rnum z)) ∧ mch [29, 31] [28, 30, 32] I M I' M')) := by
  have h60 := hR.2.1
  refine ct_of RX12 (by decide +kernel) rfl rfl (Nat.le_of_ble_eq_true rfl) ?_
  intro p e s m below meth c C hr hm
  refine v_lv (lv' := [(0, _), (1, _)]) rfl ?_
  refine v_iload_n C dX12_addsOperand_0 (j := 1) rfl rfl ?_
  refine v_ci (v_runS C (m_isFieldOf z) (va_cwS 1 C.1.2.2.2.2 gX12_addsOperand_X12_isFieldOf rfl rfl rfl (by decide +kernel) ⟨Nat.le_of_ble_eq_true rfl, Nat.le_of_ble_eq_true rfl⟩) rfl dX12_addsOperand_1 (rest := []) (Nat.le_of_ble_eq_true rfl) rfl ⟨(by first | exact Nat.le_of_ble_eq_true rfl | (dsimp only; omega)), (by first | exact Nat.le_of_ble_eq_true rfl | (dsimp only; omega))⟩) (fun q x' hx' => ?_)
  obtain ⟨rfl, rfl⟩ := hx'
  refine v_if_eq C 45 dX12_addsOperand_4 (by decide) (fun c1 => ?_) (fun c1 => ?_)
  · skip
    have hf := bI_0 c1
    have ho := opT_n (sep := sep) (r := r) (rnum := rnum) (op_in hz hf) hn
    refine v_aload_n C dX12_addsOperand_45 (j := 0) rfl rfl ?_
    refine v_aload_n C dX12_addsOperand_46 (j := 0) rfl rfl ?_
    refine v_iload_n C dX12_addsOperand_47 (j := 1) rfl rfl ?_
    refine v_ci (v_runV C (m_numberOfOperand ht1 hR hC h8 hn hz) (cwV 1 C.1.2.2.2.2 gX12_addsOperand_X12_numberOfOperand rfl rfl rfl (by decide +kernel) ⟨Nat.le_of_ble_eq_true rfl, Nat.le_of_ble_eq_true rfl⟩) rfl rfl (M_gC) dX12_addsOperand_48 (rest := [_]) (Nat.le_of_ble_eq_true rfl) rfl ⟨(by first | exact Nat.le_of_ble_eq_true rfl | (dsimp only; omega)), (by first | exact Nat.le_of_ble_eq_true rfl | (dsimp only; omega))⟩) (fun q x' hx' => ?_)
    obtain ⟨rfl, hq, hq2⟩ := hx'
    have hq3 := hq2 hf
    refine v_cv (v_runV C (m_writes ht1 q) (cwV 1 C.1.2.2.2.2 gX12_addsOperand_X12_writes rfl rfl rfl (by decide +kernel) ⟨Nat.le_of_ble_eq_true rfl, Nat.le_of_ble_eq_true rfl⟩) rfl rfl (M_gC) dX12_addsOperand_51 (rest := []) (Nat.le_of_ble_eq_true rfl) rfl ⟨(by first | exact Nat.le_of_ble_eq_true rfl | (dsimp only; omega)), (by first | exact Nat.le_of_ble_eq_true rfl | (dsimp only; omega))⟩) (fun x' hx' => ?_)
    obtain ⟨I2, M2, rfl, g1, g2⟩ := hx'
    refine v_aload_n C dX12_addsOperand_54 (j := 0) rfl rfl ?_
    refine v_cv (v_runV C (m_addsValue ht1 (hu.ch g2 (by decide) (by decide)) g1) (cwV 0 C.1.2.2.2.2 gX12_addsOperand_X12_addsValue rfl rfl rfl (by decide +kernel) ⟨Nat.le_of_ble_eq_true rfl, Nat.le_of_ble_eq_true rfl⟩) rfl rfl (M_gC) dX12_addsOperand_55 (rest := []) (Nat.le_of_ble_eq_true rfl) rfl ⟨(by first | exact Nat.le_of_ble_eq_true rfl | (dsimp only; omega)), (by first | exact Nat.le_of_ble_eq_true rfl | (dsimp only; omega))⟩) (fun x' hx' => ?_)
    obtain ⟨I3, M3, rfl, g3, g4⟩ := hx'
    exact v_return C dX12_addsOperand_58 hr (Nat.le_of_ble_eq_true rfl) (Nat.le_of_ble_eq_true rfl) (⟨I3, M3, rfl, by rw [ho.1, ← hq3]; exact g3, (g2.mo (by decide) (by decide)).tr (g4.mo (by decide) (by decide))⟩)
  · skip
    have hf := bI_1 c1
    obtain ⟨k, hk, e1, e2⟩ := opT_f (sep := sep) (r := r) (rnum := rnum) hf
    obtain ⟨b1, e3, hb1, he1, hs1, hs2, hs3⟩ := be hR hC hk
    refine v_aload_n C dX12_addsOperand_7 (j := 0) rfl rfl ?_
    refine v_iconst C dX12_addsOperand_8 (v := (-1)) (by decide) ?_
    refine v_iload_n C dX12_addsOperand_9 (j := 1) rfl rfl ?_
    refine v_isub C dX12_addsOperand_10 ?_
    rw [e1]
    refine v_ci (v_runV C (m_from ht1 hk hb1) (cwV 1 C.1.2.2.2.2 gX12_addsOperand_X12_from rfl rfl rfl (by decide +kernel) ⟨Nat.le_of_ble_eq_true rfl, Nat.le_of_ble_eq_true rfl⟩) rfl rfl (M_gC) dX12_addsOperand_11 (rest := []) (Nat.le_of_ble_eq_true rfl) rfl ⟨(by first | exact Nat.le_of_ble_eq_true rfl | (dsimp only; omega)), (by first | exact Nat.le_of_ble_eq_true rfl | (dsimp only; omega))⟩) (fun q x' hx' => ?_)
    obtain ⟨rfl, rfl⟩ := hx'
    refine v_istore_n C dX12_addsOperand_14 rfl (by decide) (lv' := [(2, _), (0, _), (1, _)]) rfl ?_
    obtain ⟨jj, I3, M3, hjj, e4, e5, hc3, hm3, hjb, hje⟩ : ∃ (jj : Nat) (I3 : Nat → Int32) (M3 : Nat → Nat → Int32), jj = b1 ∧ I3 = I ∧ M3 = M ∧ mch [31] [30] I M I3 M3 ∧ mTx 31 30 I3 M3 (app60 u ((r.drop b1).take (jj - b1))) ∧ b1 ≤ jj ∧ jj ≤ e3 := ⟨b1, I, M, rfl, rfl, rfl, mch.rf, by rw [Nat.sub_self, List.take_zero, app60_nil hu.2.1]; exact hu, Nat.le_refl _, hs1⟩
    refine v_x (x' := (I3, M3)) (fun H hP => by rw [e4, e5]; exact hP) ?_
    refine v_lv (lv' := [(2, .int (nI jj)), (0, _), (1, _)]) (by rw [hjj]) ?_
    clear hjj e4 e5
    induction hd2 : (e3 - jj) using Nat.strongRecOn generalizing I3 M3 jj with | _ d2 ih2 =>
      have hbe3 := be_ch (k := k) hc3 (by decide) (by decide) (by decide) (by decide)
      refine v_iload_n C dX12_addsOperand_15 (j := 0) rfl rfl ?_
      refine v_aload_n C dX12_addsOperand_16 (j := 1) rfl rfl ?_
      refine v_iconst C dX12_addsOperand_17 (v := (-1)) (by decide) ?_
      refine v_iload_n C dX12_addsOperand_18 (j := 2) rfl rfl ?_
      refine v_isub C dX12_addsOperand_19 ?_
      rw [e1]
      refine v_ci (v_runV C (m_to ht1 hk (hbe3.2.trans he1)) (cwV 1 C.1.2.2.2.2 gX12_addsOperand_X12_to rfl rfl rfl (by decide +kernel) ⟨Nat.le_of_ble_eq_true rfl, Nat.le_of_ble_eq_true rfl⟩) rfl rfl (M_gC) dX12_addsOperand_20 (rest := [_]) (Nat.le_of_ble_eq_true rfl) rfl ⟨(by first | exact Nat.le_of_ble_eq_true rfl | (dsimp only; omega)), (by first | exact Nat.le_of_ble_eq_true rfl | (dsimp only; omega))⟩) (fun q x' hx' => ?_)
      obtain ⟨rfl, rfl⟩ := hx'
      refine v_icmp_ge C 42 dX12_addsOperand_23 (by decide) (fun c5 => ?_) (fun c5 => ?_)
      · skip
        have c6 : jj = e3 := by have := le_of c5 (by omega) (by omega); omega
        refine v_goto C 58 dX12_addsOperand_42 (by decide) ?_
        exact v_return C dX12_addsOperand_58 hr (Nat.le_of_ble_eq_true rfl) (Nat.le_of_ble_eq_true rfl) (⟨I3, M3, rfl, by rw [c6, ← hs3] at hm3; rw [e2]; exact hm3, hc3.mo (by decide) (by decide)⟩)
      · skip
        have c6 : jj < e3 := lt_ofn c5 (by omega) (by omega)
        refine v_aload_n C dX12_addsOperand_26 (j := 1) rfl rfl ?_
        refine v_aload_n C dX12_addsOperand_27 (j := 1) rfl rfl ?_
        refine v_get C (T := TX12) (ci := 12) (j := 1) dX12_addsOperand_28 wiX12_addsOperand_X12 rfl (by decide) wfX12_addsOperand_13 (fun _ h => h) (M_ref rfl (by decide)) ?_
        refine v_iload_n C dX12_addsOperand_31 (j := 0) rfl rfl ?_
        refine v_iald C dX12_addsOperand_32 1 ht1 (M_arr (j := 1) rfl) (vp_in_nI (by show jj < 60; omega) (by decide)) ?_
        refine v_int (b := r.getD jj 0) (by rw [nI_clamp (by omega), hc3.2 1 (by decide)]; exact hR.2.2 jj (by omega)) ?_
        refine v_cv (v_runV C (m_adds ht1 hm3 (r.getD jj 0)) (cwV 1 C.1.2.2.2.2 gX12_addsOperand_X12_adds rfl rfl rfl (by decide +kernel) ⟨Nat.le_of_ble_eq_true rfl, Nat.le_of_ble_eq_true rfl⟩) rfl rfl (M_gC) dX12_addsOperand_33 (rest := []) (Nat.le_of_ble_eq_true rfl) rfl ⟨(by first | exact Nat.le_of_ble_eq_true rfl | (dsimp only; omega)), (by first | exact Nat.le_of_ble_eq_true rfl | (dsimp only; omega))⟩) (fun x' hx' => ?_)
        obtain ⟨I4, M4, rfl, g1, g2⟩ := hx'
        refine v_iinc C dX12_addsOperand_36 (j := 0) (v := _ + 1) rfl rfl (by decide) (lv' := [(2, _), (0, _), (1, _)]) rfl ?_
        refine v_goto C 15 dX12_addsOperand_39 (by decide) ?_
        rw [nI_1]
        exact ih2 (e3 - (jj + 1)) (by omega) (jj + 1) I4 M4 (hc3.tr g2) (by rw [← take_one hjb (by omega), app60_snoc]; exact g1) (by omega) (by omega) rfl
set_option maxRecDepth 100000 in
set_option maxHeartbeats 8000000 in
theorem m_fits (z : Int64) : ct D tys z0 A (picM D cI cZ md ad A) l yX12_fits wsX12_fits rm0 [.ref md, .long z] (I, M) (qI (picM D cI cZ md ad A) A (fun q x => x = (va_up I 9 (I 9 + fltI z), M) ∧ q = fitI z)) := by
  refine ct_of RX12 (by decide +kernel) rfl rfl (Nat.le_of_ble_eq_true rfl) ?_
  intro p e s m below meth c C hr hm
  refine v_lv (lv' := [(0, _), (1, _)]) rfl ?_
  refine v_cut (pcj := 21) (lvj := [(0, .ref md), (1, .long z)]) (stj := []) (fun w => w = bI (isI z)) (fun w hw => ?_) (fun K => ?_)
  · skip
    subst hw
    refine v_istore_n C dX12_fits_21 rfl (by decide) (lv' := [(3, _), (0, _), (1, _)]) rfl ?_
    refine v_aload_n C dX12_fits_22 (j := 1) rfl rfl ?_
    refine v_dup C dX12_fits_23 rfl ?_
    refine v_get C (T := TX12) (ci := 12) (j := 9) dX12_fits_24 wiX12_fits_X12 rfl (by decide) wfX12_fits_165 (fun _ h => h) (M_int rfl (by decide)) ?_
    refine v_iload_n C dX12_fits_27 (j := 0) rfl rfl ?_
    refine v_cut (pcj := 36) (lvj := [(3, .int (bI (isI z))), (0, .ref md), (1, .long z)]) (stj := [.int (I 9), .ref md]) (fun w => w = fltI z) (fun w hw => ?_) (fun K => ?_)
    · skip
      subst hw
      refine v_iadd C dX12_fits_36 ?_
      refine v_put C (T := TX12) (ci := 12) (j := 9) (ty := .int) dX12_fits_37 wiX12_fits_X12 tyX12 tyX12_ok nmX12 rfl (by decide) wfX12_fits_165 (fun _ h => h) rfl rfl (rfl) (rfl) (M_put rfl (by decide) _) ?_
      refine v_iload_n C dX12_fits_40 (j := 0) rfl rfl ?_
      refine v_if_eq C 49 dX12_fits_41 (by decide) (fun c1 => ?_) (fun c1 => ?_)
      · skip
        refine v_iconst C dX12_fits_49 (v := 0) (by decide) ?_
        exact v_ireturn C dX12_fits_50 hr (rfl) (Nat.le_of_ble_eq_true rfl) (Nat.le_of_ble_eq_true rfl) (⟨rfl, by unfold fitI; rw [if_neg (by rw [bI_0 c1]; decide)]⟩)
      · skip
        refine v_lload_n C dX12_fits_44 (j := 2) rfl rfl ?_
        refine v_l2i C dX12_fits_45 ?_
        refine v_goto C 50 dX12_fits_46 (by decide) ?_
        exact v_ireturn C dX12_fits_50 hr (rfl) (Nat.le_of_ble_eq_true rfl) (Nat.le_of_ble_eq_true rfl) (⟨rfl, by unfold fitI; rw [if_pos (bI_1 c1)]⟩)
    · skip
      refine v_if_eq C 35 dX12_fits_28 (by decide) (fun c1 => ?_) (fun c1 => ?_)
      · skip
        refine v_iconst C dX12_fits_35 (v := 1) (by decide) ?_
        exact K _ (by unfold fltI; rw [if_neg (by rw [bI_0 c1]; decide)])
      · skip
        refine v_iconst C dX12_fits_31 (v := 0) (by decide) ?_
        refine v_goto C 36 dX12_fits_32 (by decide) ?_
        exact K _ (by unfold fltI; rw [if_pos (bI_1 c1)])
  · skip
    refine v_lload_n C dX12_fits_0 (j := 1) rfl rfl ?_
    refine v_ldc2 C dX12_fits_1 (v := (-2147483648)) wwX12_fits_k161 ?_
    refine v_lcmp C dX12_fits_4 ?_
    refine v_if_lt C 20 dX12_fits_5 (by decide) (fun c1 => ?_) (fun c1 => ?_)
    · skip
      refine v_iconst C dX12_fits_20 (v := 0) (by decide) ?_
      exact K _ (bI_f (by unfold isI; rw [decide_eq_false (Int64.not_le.mpr ((lc_lt _ _).mp c1))]; rfl))
    · skip
      refine v_lload_n C dX12_fits_8 (j := 1) rfl rfl ?_
      refine v_ldc2 C dX12_fits_9 (v := (2147483647)) wwX12_fits_k163 ?_
      refine v_lcmp C dX12_fits_12 ?_
      refine v_if_gt C 20 dX12_fits_13 (by decide) (fun c2 => ?_) (fun c2 => ?_)
      · skip
        refine v_iconst C dX12_fits_20 (v := 0) (by decide) ?_
        exact K _ (bI_f (by unfold isI; rw [decide_eq_false (p := z ≤ 2147483647) (Int64.not_le.mpr ((lc_gt _ _).mp c2)), Bool.and_false]))
      · skip
        refine v_iconst C dX12_fits_16 (v := 1) (by decide) ?_
        refine v_goto C 21 dX12_fits_17 (by decide) ?_
        exact K _ (bI_t (by unfold isI; rw [decide_eq_true (Int64.not_lt.mp (fun q => c1 ((lc_lt _ _).mpr q))), decide_eq_true (Int64.not_lt.mp (fun q => c2 ((lc_gt _ _).mpr q)))]; rfl))
end MF
