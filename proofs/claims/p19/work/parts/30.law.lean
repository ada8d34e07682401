/-! ===== the law's arrays: a picture of them beside any other ===== -/
theorem wwL_part_k7 : Cond.constant RL 7 (2147483647) ∈ wsL_part := by decide +kernel
abbrev nS (σ0 : Type) : Type := σ0 × (Nat → Nat → Int32) × (Nat → Nat → Int64)
def iln (j : Nat) : Nat := if j < 4 then 61 else if j = 4 then 40 else if j = 5 then 6 else 21
def lln (j : Nat) : Nat := if j = 0 then 48 else if j = 3 then 40 else 60
/-- the law's int arrays at ad 0 .. ad 6 (t, v, w, y, q, g, m), its long arrays at al 0 .. al 3 (a, k, c, l) -/
def picN {σ0 : Type} (pic0 : σ0 → Heap → Prop) (cI cJ : ClassId) (ad al : Nat → Nat) (A : Nat → Prop) (x : nS σ0) (H : Heap) : Prop :=
  (∀ H' : Heap, H'.size = H.size → (∀ q : Nat, (∀ j, j < 7 → q ≠ ad j) → (∀ j, j < 4 → q ≠ al j) → H'[q]? = H[q]?) → pic0 x.1 H') ∧ (∀ j, j < 7 → A (ad j) ∧ H[ad j]? = some (vp_cell cI (iln j, .inl (x.2.1 j)))) ∧ (∀ j, j < 4 → A (al j) ∧ H[al j]? = some (vp_cell cJ (lln j, .inr (.inl (x.2.2 j))))) ∧ (∀ i j, i < 7 → j < 7 → ad i = ad j → i = j) ∧ (∀ i j, i < 4 → j < 4 → al i = al j → i = j) ∧ ∀ i j, i < 7 → j < 4 → ad i ≠ al j
/-- only the int arrays ks differ -/
def ich (ks : List Nat) (X X' : Nat → Nat → Int32) : Prop := ∀ j, j ∉ ks → X' j = X j
theorem ich.rf {ks : List Nat} {X : Nat → Nat → Int32} : ich ks X X := fun _ _ => rfl
theorem ich.tr {ks : List Nat} {X X' X'' : Nat → Nat → Int32} (h : ich ks X X') (h2 : ich ks X' X'') : ich ks X X'' := fun j hj => (h2 j hj).trans (h j hj)
theorem ich.mo {ks ks' : List Nat} {X X' : Nat → Nat → Int32} (h : ich ks X X') (hs : ∀ j ∈ ks, j ∈ ks') : ich ks' X X' := fun j hj => h j (fun z => hj (hs j z))
theorem ich_u {ks : List Nat} {X : Nat → Nat → Int32} {j : Nat} (hj : j ∈ ks) (g : Nat → Int32) : ich ks X (va_up X j g) := fun i hi => va_up_other _ _ _ (fun z => hi (by rw [z]; exact hj))
/-- a text in the int array j, its length at 60 -/
def nT (j : Nat) (X : Nat → Nat → Int32) (s : List Int32) : Prop := X j 60 = nI s.length ∧ s.length ≤ 60 ∧ ∀ k, k < s.length → X j k = s.getD k 0
theorem nT.ch {j : Nat} {X X' : Nat → Nat → Int32} {s : List Int32} {ks : List Nat} (h : nT j X s) (c : ich ks X X') (hj : j ∉ ks) : nT j X' s := by
  unfold nT
  rw [c j hj]
  exact h
theorem c60 : (60 : Int32).toNatClampNeg = 60 := by decide
/-- s is the stretch of r from b to e -/
def str (r : List Int32) (b e : Nat) (s : List Int32) : Prop := b ≤ e ∧ e ≤ r.length ∧ s = (r.drop b).take (e - b)
theorem str_len {r s : List Int32} {b e : Nat} (h : str r b e s) : s.length = e - b := by
  rw [h.2.2, List.length_take, List.length_drop]
  have := h.2.1
  omega
theorem str_get {r s : List Int32} {b e j : Nat} (h : str r b e s) (hj : j < s.length) : s.getD j 0 = r.getD (b + j) 0 := by
  have h1 := str_len h
  rw [h.2.2]
  simp only [List.getD_eq_getElem?_getD]
  rw [List.getElem?_take, if_pos (by omega), List.getElem?_drop]
theorem str_all (s : List Int32) : str s 0 s.length s := ⟨Nat.zero_le _, Nat.le_refl _, by rw [List.drop_zero, Nat.sub_zero, List.take_length]⟩
theorem take_one {r : List Int32} {b i : Nat} (hb : b ≤ i) (hi : i < r.length) : (r.drop b).take (i - b) ++ [r.getD i 0] = (r.drop b).take (i + 1 - b) := by
  rw [show i + 1 - b = (i - b) + 1 by omega, List.take_add_one, List.getElem?_drop, show b + (i - b) = i by omega, List.getD_eq_getElem?_getD, List.getElem?_eq_getElem hi]
  rfl
/-- a sign's place, as the law orders them -/
def plc (c : Int32) : Int32 := if c = 32 then 1 else if c = 45 then 2 else if c = 44 then 3 else c
section NO
variable {σ0 : Type} {pic0 : σ0 → Heap → Prop} {cI cJ : ClassId} {ad al : Nat → Nat} {A : Nat → Prop} {y0 : σ0} {X : Nat → Nat → Int32} {Y : Nat → Nat → Int64}
theorem N_arr {j : Nat} (hj : j < 7) : gA (picN pic0 cI cJ ad al A) (y0, X, Y) cI (ad j) (iln j, .inl (X j)) := fun H hP => (hP.2.1 j hj).2
theorem N_lar {j : Nat} (hj : j < 4) : gA (picN pic0 cI cJ ad al A) (y0, X, Y) cJ (al j) (lln j, .inr (.inl (Y j))) := fun H hP => (hP.2.2.1 j hj).2
theorem N_set {j : Nat} (hj : j < 7) (g : Nat → Int32) : pA (picN pic0 cI cJ ad al A) A (y0, X, Y) cI (ad j) (iln j, .inl (X j)) (iln j, .inl g) (y0, va_up X j g, Y) := by
  intro H hP
  obtain ⟨h0, h1, h2, i1, i2, i3⟩ := hP
  refine ⟨(h1 j hj).1, (h1 j hj).2, fun H' e1 e2 e3 => ⟨fun H2 z1 z2 => h0 H2 (z1.trans e2) (fun q q1 q2 => (z2 q q1 q2).trans (e3 q (q1 j hj))), fun i hi => ⟨(h1 i hi).1, ?_⟩, fun i hi => ⟨(h2 i hi).1, ?_⟩, i1, i2, i3⟩⟩
  · by_cases hij : i = j
    · subst hij
      show H'[ad i]? = some (vp_cell cI (iln i, .inl (va_up X i g i)))
      rw [va_up_same]
      exact e1
    · show H'[ad i]? = some (vp_cell cI (iln i, .inl (va_up X j g i)))
      rw [va_up_other _ _ _ hij, e3 _ (fun z => hij (i1 i j hi hj z))]
      exact (h1 i hi).2
  · rw [e3 _ (fun z => i3 j i hj hi z.symm)]
    exact (h2 i hi).2
theorem N_lse {j : Nat} (hj : j < 4) (g : Nat → Int64) : pA (picN pic0 cI cJ ad al A) A (y0, X, Y) cJ (al j) (lln j, .inr (.inl (Y j))) (lln j, .inr (.inl g)) (y0, X, va_up Y j g) := by
  intro H hP
  obtain ⟨h0, h1, h2, i1, i2, i3⟩ := hP
  refine ⟨(h2 j hj).1, (h2 j hj).2, fun H' e1 e2 e3 => ⟨fun H2 z1 z2 => h0 H2 (z1.trans e2) (fun q q1 q2 => (z2 q q1 q2).trans (e3 q (q2 j hj))), fun i hi => ⟨(h1 i hi).1, ?_⟩, fun i hi => ⟨(h2 i hi).1, ?_⟩, i1, i2, i3⟩⟩
  · rw [e3 _ (i3 i j hi hj)]
    exact (h1 i hi).2
  · by_cases hij : i = j
    · subst hij
      show H'[al i]? = some (vp_cell cJ (lln i, .inr (.inl (va_up Y i g i))))
      rw [va_up_same]
      exact e1
    · show H'[al i]? = some (vp_cell cJ (lln i, .inr (.inl (va_up Y j g i))))
      rw [va_up_other _ _ _ hij, e3 _ (fun z => hij (i2 i j hi hj z))]
      exact (h2 i hi).2
theorem iln4 {j : Nat} (hj : j < 4) : iln j = 61 := if_pos hj
theorem N_t {j : Nat} (hj : j < 4) : gA (picN pic0 cI cJ ad al A) (y0, X, Y) cI (ad j) (61, .inl (X j)) := by
  have := N_arr (pic0 := pic0) (cI := cI) (cJ := cJ) (ad := ad) (al := al) (A := A) (y0 := y0) (X := X) (Y := Y) (j := j) (by omega)
  rw [iln4 hj] at this
  exact this
theorem N_st {j : Nat} (hj : j < 4) (g : Nat → Int32) : pA (picN pic0 cI cJ ad al A) A (y0, X, Y) cI (ad j) (61, .inl (X j)) (61, .inl g) (y0, va_up X j g, Y) := by
  have := N_set (pic0 := pic0) (cI := cI) (cJ := cJ) (ad := ad) (al := al) (A := A) (y0 := y0) (X := X) (Y := Y) (j := j) (by omega) g
  rw [iln4 hj] at this
  exact this
theorem N_g : gA (picN pic0 cI cJ ad al A) (y0, X, Y) cI (ad 5) (6, .inl (X 5)) := N_arr (by decide)
theorem N_sg (g : Nat → Int32) : pA (picN pic0 cI cJ ad al A) A (y0, X, Y) cI (ad 5) (6, .inl (X 5)) (6, .inl g) (y0, va_up X 5 g, Y) := N_set (by decide) g
theorem N_q : gA (picN pic0 cI cJ ad al A) (y0, X, Y) cI (ad 4) (40, .inl (X 4)) := N_arr (by decide)
theorem N_sq (g : Nat → Int32) : pA (picN pic0 cI cJ ad al A) A (y0, X, Y) cI (ad 4) (40, .inl (X 4)) (40, .inl g) (y0, va_up X 4 g, Y) := N_set (by decide) g
theorem N_m : gA (picN pic0 cI cJ ad al A) (y0, X, Y) cI (ad 6) (21, .inl (X 6)) := N_arr (by decide)
theorem N_sm (g : Nat → Int32) : pA (picN pic0 cI cJ ad al A) A (y0, X, Y) cI (ad 6) (21, .inl (X 6)) (21, .inl g) (y0, va_up X 6 g, Y) := N_set (by decide) g
theorem N_a : gA (picN pic0 cI cJ ad al A) (y0, X, Y) cJ (al 0) (48, .inr (.inl (Y 0))) := N_lar (by decide)
theorem N_sa (g : Nat → Int64) : pA (picN pic0 cI cJ ad al A) A (y0, X, Y) cJ (al 0) (48, .inr (.inl (Y 0))) (48, .inr (.inl g)) (y0, X, va_up Y 0 g) := N_lse (by decide) g
theorem N_k : gA (picN pic0 cI cJ ad al A) (y0, X, Y) cJ (al 1) (60, .inr (.inl (Y 1))) := N_lar (by decide)
theorem N_sk (g : Nat → Int64) : pA (picN pic0 cI cJ ad al A) A (y0, X, Y) cJ (al 1) (60, .inr (.inl (Y 1))) (60, .inr (.inl g)) (y0, X, va_up Y 1 g) := N_lse (by decide) g
theorem N_c : gA (picN pic0 cI cJ ad al A) (y0, X, Y) cJ (al 2) (60, .inr (.inl (Y 2))) := N_lar (by decide)
theorem N_sc (g : Nat → Int64) : pA (picN pic0 cI cJ ad al A) A (y0, X, Y) cJ (al 2) (60, .inr (.inl (Y 2))) (60, .inr (.inl g)) (y0, X, va_up Y 2 g) := N_lse (by decide) g
theorem N_l : gA (picN pic0 cI cJ ad al A) (y0, X, Y) cJ (al 3) (40, .inr (.inl (Y 3))) := N_lar (by decide)
theorem N_sl (g : Nat → Int64) : pA (picN pic0 cI cJ ad al A) A (y0, X, Y) cJ (al 3) (40, .inr (.inl (Y 3))) (40, .inr (.inl g)) (y0, X, va_up Y 3 g) := N_lse (by decide) g
end NO
section NH
variable {l : Launch} {D : va_G} {tys : List (ClassId × FieldType)} {z0 : Nat} {A : Nat → Prop} {σ0 : Type} {pic0 : σ0 → Heap → Prop} {cI cJ : ClassId} {ad al : Nat → Nat} {y0 : σ0} {X : Nat → Nat → Int32} {Y : Nat → Nat → Int64}
set_option maxRecDepth 100000 in
set_option maxHeartbeats 4000000 in
theorem n_part {σ : Type} {pic : σ → Heap → Prop} {x : σ} {b L : Nat} {xs : Nat → Int32} (hL : L ≤ 260) {i N : Nat} (hi : i < 1000) (hN : 0 < N) (hN2 : N < 2 ^ 31) : ctS D tys z0 A pic b L xs l yL_part wsL_part rm0 [.ref b, .int (nI i), .int (nI N)] x (qI pic A (fun r x' => x' = x ∧ ∃ k, k < N ∧ r = nI k)) := by
  refine ctS_of RL (by decide +kernel) rfl rfl (Nat.le_of_ble_eq_true rfl) ?_
  intro p e s m below meth c C hr hX
  refine v_lv (lv' := [(0, _), (1, _), (2, _)]) rfl ?_
  refine v_cut (pcj := 25) (lvj := [(0, .ref b), (1, .int (nI i)), (2, .int (nI N))]) (stj := []) (fun w => True) (fun w hw => ?_) (fun K => ?_)
  · skip
    refine v_istore_n C dL_part_25 rfl (by decide) (lv' := [(3, _), (0, _), (1, _), (2, _)]) rfl ?_
    refine v_iload_n C dL_part_26 (j := 0) rfl rfl ?_
    refine v_ldc C dL_part_27 (v := (2147483647)) wwL_part_k7 ?_
    refine v_iand C dL_part_29 ?_
    obtain ⟨j, hj, hj2⟩ := pk_andE w (m := 2147483647) 31 (by decide)
    rw [hj2]
    refine v_iload_n C dL_part_30 (j := 3) rfl rfl ?_
    refine v_irem C dL_part_31 (fun z => absurd (congrArg Int32.toNatClampNeg z) (by rw [nI_clamp hN2]; exact Nat.ne_of_gt hN)) ?_
    rw [pk_rem hj hN hN2]
    exact v_ireturn C dL_part_32 hr (rfl) (Nat.le_of_ble_eq_true rfl) (Nat.le_of_ble_eq_true rfl) (⟨rfl, _, Nat.mod_lt _ hN, rfl⟩)
  · skip
    refine v_iload_n C dL_part_0 (j := 1) rfl rfl ?_
    refine v_aload_n C dL_part_1 (j := 0) rfl rfl ?_
    refine v_slen9 C hX dL_part_2 ?_
    refine v_icmp_ge C 12 dL_part_3 (by decide) (fun c1 => ?_) (fun c1 => ?_)
    · skip
      refine v_sipush C dL_part_12 (v := 547) (by decide) ?_
      refine v_iload_n C dL_part_15 (j := 1) rfl rfl ?_
      refine v_imul C dL_part_16 ?_
      refine v_sipush C dL_part_17 (v := 401) (by decide) ?_
      refine v_iload_n C dL_part_20 (j := 1) rfl rfl ?_
      refine v_imul C dL_part_21 ?_
      refine v_iload_n C dL_part_22 (j := 1) rfl rfl ?_
      refine v_imul C dL_part_23 ?_
      refine v_iadd C dL_part_24 ?_
      exact K _ trivial
    · skip
      have c2 : i < L := lt_ofn c1 (by omega) (by omega)
      refine v_aload_n C dL_part_6 (j := 0) rfl rfl ?_
      refine v_iload_n C dL_part_7 (j := 1) rfl rfl ?_
      refine v_sld9 C hX (vp_in_nI c2 (by omega)) dL_part_8 ?_
      refine v_goto C 25 dL_part_9 (by decide) ?_
      exact K _ trivial
set_option maxRecDepth 100000 in
set_option maxHeartbeats 4000000 in
theorem n_sign {σ : Type} {pic : σ → Heap → Prop} {x : σ} {v : Int32} (hv : isCd v = true) : ct D tys z0 A pic l yL_sign wsL_sign rm0 [.int v] x (qI pic A (fun r x' => x' = x ∧ r = sgn v)) := by
  refine ct_of RL (by decide +kernel) rfl rfl (Nat.le_of_ble_eq_true rfl) ?_
  have hch := (sgn_ch hv).2
  obtain ⟨k, hk, rfl⟩ := nI_of2 (M := 37) (n := 37) rfl (Int32.not_lt.mpr (of_decide_eq_true ((Bool.and_eq_true _ _).mp hv).1)) (of_decide_eq_true ((Bool.and_eq_true _ _).mp hv).2)
  have hA : ∀ k : Fin 38, (nI k.val < 10 → ((48 + nI k.val).toUInt32 % 65536).toInt32 = sgn (nI k.val)) ∧ (¬ nI k.val < 10 → nI k.val < 36 → ((97 + nI k.val - 10).toUInt32 % 65536).toInt32 = sgn (nI k.val)) ∧ (¬ nI k.val < 36 → nI k.val < 37 → 32 = sgn (nI k.val)) ∧ (¬ nI k.val < 37 → 44 = sgn (nI k.val)) := by decide +kernel
  have h9 := hA ⟨k, by omega⟩
  dsimp only at h9
  intro p e s m below meth c C hr hm
  refine v_lv (lv' := [(0, _)]) rfl ?_
  refine v_cut (pcj := 44) (lvj := [(0, .int (nI k))]) (stj := []) (fun w => w = sgn (nI k)) (fun w hw => ?_) (fun K => ?_)
  · skip
    subst hw
    exact v_ireturn C dL_sign_44 hr (hch) (Nat.le_of_ble_eq_true rfl) (Nat.le_of_ble_eq_true rfl) (⟨rfl, rfl⟩)
  · skip
    refine v_iload_n C dL_sign_0 (j := 0) rfl rfl ?_
    refine v_bipush C dL_sign_1 (v := 10) (by decide) ?_
    refine v_icmp_ge C 14 dL_sign_3 (by decide) (fun c1 => ?_) (fun c1 => ?_)
    · skip
      refine v_iload_n C dL_sign_14 (j := 0) rfl rfl ?_
      refine v_bipush C dL_sign_15 (v := 36) (by decide) ?_
      refine v_icmp_ge C 31 dL_sign_17 (by decide) (fun c2 => ?_) (fun c2 => ?_)
      · skip
        refine v_iload_n C dL_sign_31 (j := 0) rfl rfl ?_
        refine v_bipush C dL_sign_32 (v := 37) (by decide) ?_
        refine v_icmp_ge C 42 dL_sign_34 (by decide) (fun c3 => ?_) (fun c3 => ?_)
        · skip
          refine v_bipush C dL_sign_42 (v := 44) (by decide) ?_
          exact K _ (h9.2.2.2 (Int32.not_lt.mpr c3))
        · skip
          refine v_bipush C dL_sign_37 (v := 32) (by decide) ?_
          refine v_goto C 44 dL_sign_39 (by decide) ?_
          exact K _ (h9.2.2.1 (Int32.not_lt.mpr c2) (Int32.not_le.mp c3))
      · skip
        refine v_bipush C dL_sign_20 (v := 97) (by decide) ?_
        refine v_iload_n C dL_sign_22 (j := 0) rfl rfl ?_
        refine v_iadd C dL_sign_23 ?_
        refine v_bipush C dL_sign_24 (v := 10) (by decide) ?_
        refine v_isub C dL_sign_26 ?_
        refine v_i2c C dL_sign_27 ?_
        refine v_goto C 44 dL_sign_28 (by decide) ?_
        exact K _ (h9.2.1 (Int32.not_lt.mpr c1) (Int32.not_le.mp c2))
    · skip
      refine v_bipush C dL_sign_6 (v := 48) (by decide) ?_
      refine v_iload_n C dL_sign_8 (j := 0) rfl rfl ?_
      refine v_iadd C dL_sign_9 ?_
      refine v_i2c C dL_sign_10 ?_
      refine v_goto C 44 dL_sign_11 (by decide) ?_
      exact K _ (h9.1 (Int32.not_le.mp c1))
set_option maxRecDepth 100000 in
set_option maxHeartbeats 4000000 in
theorem n_place {σ : Type} {pic : σ → Heap → Prop} {x : σ} (v : Int32) : ct D tys z0 A pic l yL_place wsL_place rm0 [.int v] x (qI pic A (fun r x' => x' = x ∧ r = plc v)) := by
  refine ct_of RL (by decide +kernel) rfl rfl (Nat.le_of_ble_eq_true rfl) ?_
  intro p e s m below meth c C hr hm
  refine v_lv (lv' := [(0, _)]) rfl ?_
  refine v_cut (pcj := 31) (lvj := [(0, .int v)]) (stj := []) (fun w => w = plc v) (fun w hw => ?_) (fun K => ?_)
  · skip
    subst hw
    exact v_ireturn C dL_place_31 hr (rfl) (Nat.le_of_ble_eq_true rfl) (Nat.le_of_ble_eq_true rfl) (⟨rfl, rfl⟩)
  · skip
    refine v_iload_n C dL_place_0 (j := 0) rfl rfl ?_
    refine v_bipush C dL_place_1 (v := 32) (by decide) ?_
    refine v_icmp_ne C 10 dL_place_3 (by decide) (fun c1 => ?_) (fun c1 => ?_)
    · skip
      refine v_iload_n C dL_place_10 (j := 0) rfl rfl ?_
      refine v_bipush C dL_place_11 (v := 45) (by decide) ?_
      refine v_icmp_ne C 20 dL_place_13 (by decide) (fun c2 => ?_) (fun c2 => ?_)
      · skip
        refine v_iload_n C dL_place_20 (j := 0) rfl rfl ?_
        refine v_bipush C dL_place_21 (v := 44) (by decide) ?_
        refine v_icmp_ne C 30 dL_place_23 (by decide) (fun c3 => ?_) (fun c3 => ?_)
        · skip
          refine v_iload_n C dL_place_30 (j := 0) rfl rfl ?_
          exact K _ (by unfold plc; rw [if_neg c1, if_neg c2, if_neg c3])
        · skip
          refine v_iconst C dL_place_26 (v := 3) (by decide) ?_
          refine v_goto C 31 dL_place_27 (by decide) ?_
          exact K _ (by unfold plc; rw [if_neg c1, if_neg c2, if_pos c3])
      · skip
        refine v_iconst C dL_place_16 (v := 2) (by decide) ?_
        refine v_goto C 31 dL_place_17 (by decide) ?_
        exact K _ (by unfold plc; rw [if_neg c1, if_pos c2])
    · skip
      refine v_iconst C dL_place_6 (v := 1) (by decide) ?_
      refine v_goto C 31 dL_place_7 (by decide) ?_
      exact K _ (by unfold plc; rw [if_pos c1])
set_option maxRecDepth 100000 in
set_option maxHeartbeats 4000000 in
theorem n_puts (ht1 : tys[1]? = some (cI, .int)) {j : Nat} (hj : j < 4) {u : List Int32} (h : nT j X u) (c0 : Int32) : ct D tys z0 A (picN pic0 cI cJ ad al A) l yL_puts wsL_puts rm0 [.ref (ad j), .int c0] (y0, X, Y) (qV (picN pic0 cI cJ ad al A) A (fun x => ∃ X', x = (y0, X', Y) ∧ nT j X' (put60 u c0) ∧ ich [j] X X')) := by
  obtain ⟨h2, h3, h4⟩ := h
  refine ct_of RL (by decide +kernel) rfl rfl (Nat.le_of_ble_eq_true rfl) ?_
  intro p e s m below meth c C hr hm
  refine v_lv (lv' := [(0, _), (1, _)]) rfl ?_
  refine v_aload_n C dL_puts_0 (j := 0) rfl rfl ?_
  refine v_bipush C dL_puts_1 (v := 60) (by decide) ?_
  refine v_iald C dL_puts_3 1 ht1 (N_t hj) (by unfold vp_in; decide) ?_
  refine v_int (b := nI u.length) h2 ?_
  refine v_bipush C dL_puts_4 (v := 60) (by decide) ?_
  refine v_icmp_ge C 24 dL_puts_6 (by decide) (fun c1 => ?_) (fun c1 => ?_)
  · skip
    have c2 := le_of (a := 60) c1 (by decide) (by omega)
    exact v_return C dL_puts_24 hr (Nat.le_of_ble_eq_true rfl) (Nat.le_of_ble_eq_true rfl) (⟨X, rfl, by unfold put60; rw [if_neg (by omega)]; exact ⟨h2, h3, h4⟩, ich.rf⟩)
  · skip
    have c2 : u.length < 60 := lt_ofn (a := 60) c1 (by decide) (by omega)
    refine v_aload_n C dL_puts_9 (j := 0) rfl rfl ?_
    refine v_aload_n C dL_puts_10 (j := 0) rfl rfl ?_
    refine v_bipush C dL_puts_11 (v := 60) (by decide) ?_
    refine v_iald C dL_puts_13 1 ht1 (N_t hj) (by unfold vp_in; decide) ?_
    refine v_int (b := nI u.length) h2 ?_
    refine v_iload_n C dL_puts_14 (j := 1) rfl rfl ?_
    refine v_iast C dL_puts_15 1 ht1 (vp_in_nI (by show u.length < 61; omega) (by decide)) (N_st hj _) ?_
    rw [nI_clamp (by omega)]
    refine v_aload_n C dL_puts_16 (j := 0) rfl rfl ?_
    refine v_bipush C dL_puts_17 (v := 60) (by decide) ?_
    refine v_dup2 C dL_puts_19 rfl rfl ?_
    refine v_iald C dL_puts_20 1 ht1 (N_t hj) (by unfold vp_in; decide) ?_
    refine v_int (b := nI u.length) (by rw [va_up_same, c60]; unfold upd; rw [if_neg (by omega)]; exact h2) ?_
    refine v_iconst C dL_puts_21 (v := 1) (by decide) ?_
    refine v_iadd C dL_puts_22 ?_
    rw [nI_1]
    refine v_iast C dL_puts_23 1 ht1 (by unfold vp_in; decide) (N_st hj _) ?_
    exact v_return C dL_puts_24 hr (Nat.le_of_ble_eq_true rfl) (Nat.le_of_ble_eq_true rfl) (⟨_, rfl, by unfold put60; rw [if_pos c2]; exact ⟨by rw [va_up_same, c60]; unfold upd; simp, by simp; omega, fun k hk => by rw [va_up_same, c60]; unfold upd; simp only [List.length_append, List.length_singleton] at hk; rw [if_neg (by omega), va_up_same]; by_cases hku : k = u.length; rw [if_pos hku, hku]; simp [List.getD_eq_getElem?_getD]; rw [if_neg hku, h4 k (by omega)]; simp only [List.getD_eq_getElem?_getD]; rw [List.getElem?_append_left (by omega)]⟩, (ich_u (by simp) _).tr (ich_u (by simp) _)⟩)
set_option maxRecDepth 100000 in
set_option maxHeartbeats 4000000 in
theorem n_copies (ht1 : tys[1]? = some (cI, .int)) {i j : Nat} (hi : i < 4) (hj : j < 4) (hij : i ≠ j) {r s u : List Int32} {b e9 : Nat} (hr9 : nT i X r) (hs : str r b e9 s) (h : nT j X u) : ct D tys z0 A (picN pic0 cI cJ ad al A) l yL_copies wsL_copies (rmL 1 21) [.ref (ad i), .int (nI b), .int (nI e9), .ref (ad j)] (y0, X, Y) (qV (picN pic0 cI cJ ad al A) A (fun x => ∃ X', x = (y0, X', Y) ∧ nT j X' (app60 u s) ∧ ich [j] X X')) := by
  have h60 := hr9.2.1
  obtain ⟨hbe, her, hs3⟩ := hs
  refine ct_of RL (by decide +kernel) rfl rfl (Nat.le_of_ble_eq_true rfl) ?_
  intro p e s m below meth c C hr hm
  refine v_lv (lv' := [(0, _), (1, _), (2, _), (3, _)]) rfl ?_
  refine v_iload_n C dL_copies_0 (j := 1) rfl rfl ?_
  refine v_istore C dL_copies_1 (by decide) (lv' := [(4, _), (0, _), (1, _), (2, _), (3, _)]) rfl ?_
  obtain ⟨k, X1, hk, e1, hc, hm, hkb, hke⟩ : ∃ (k : Nat) (X1 : Nat → Nat → Int32), k = b ∧ X1 = X ∧ ich [j] X X1 ∧ nT j X1 (app60 u ((r.drop b).take (k - b))) ∧ b ≤ k ∧ k ≤ e9 := ⟨b, X, rfl, rfl, ich.rf, by rw [Nat.sub_self, List.take_zero, app60_nil h.2.1]; exact h, Nat.le_refl _, hbe⟩
  refine v_x (x' := (y0, X1, Y)) (fun H hP => by rw [e1]; exact hP) ?_
  refine v_lv (lv' := [(4, .int (nI k)), (0, _), (1, _), (2, _), (3, _)]) (by rw [hk]) ?_
  clear hk e1
  induction hd : (e9 - k) using Nat.strongRecOn generalizing X1 k with | _ d ih =>
    have hr1 := hr9.ch hc (by simpa using hij)
    refine v_iload C dL_copies_3 (j := 0) rfl ?_
    refine v_iload_n C dL_copies_5 (j := 3) rfl rfl ?_
    refine v_icmp_ge C 23 dL_copies_6 (by decide) (fun c1 => ?_) (fun c1 => ?_)
    · skip
      have c2 : k = e9 := by have := le_of c1 (by omega) (by omega); omega
      exact v_return C dL_copies_23 hr (Nat.le_of_ble_eq_true rfl) (Nat.le_of_ble_eq_true rfl) (⟨X1, rfl, by rw [hs3, ← c2]; exact hm, hc⟩)
    · skip
      have c2 : k < e9 := lt_ofn c1 (by omega) (by omega)
      refine v_aload_n C dL_copies_9 (j := 4) rfl rfl ?_
      refine v_aload_n C dL_copies_10 (j := 1) rfl rfl ?_
      refine v_iload C dL_copies_11 (j := 0) rfl ?_
      refine v_iald C dL_copies_13 1 ht1 (N_t hi) (vp_in_nI (by show k < 61; omega) (by decide)) ?_
      refine v_int (b := r.getD k 0) (by rw [nI_clamp (by omega)]; exact hr1.2.2 k (by omega)) ?_
      refine v_cv (v_runS C (n_puts ht1 hj hm (r.getD k 0)) (va_cwS 2 C.1.2.2.2.2 gL_copies_L_puts rfl rfl rfl (by decide +kernel) ⟨Nat.le_of_ble_eq_true rfl, Nat.le_of_ble_eq_true rfl⟩) rfl dL_copies_14 (rest := []) (Nat.le_of_ble_eq_true rfl) rfl ⟨(by first | exact Nat.le_of_ble_eq_true rfl | (dsimp only; omega)), (by first | exact Nat.le_of_ble_eq_true rfl | (dsimp only; omega))⟩) (fun x' hx' => ?_)
      obtain ⟨X2, rfl, g1, g2⟩ := hx'
      refine v_iinc C dL_copies_17 (j := 0) (v := _ + 1) rfl rfl (by decide) (lv' := [(4, _), (0, _), (1, _), (2, _), (3, _)]) rfl ?_
      refine v_goto C 3 dL_copies_20 (by decide) ?_
      rw [nI_1]
      exact ih (e9 - (k + 1)) (by omega) (k + 1) X2 (hc.tr g2) (by rw [← take_one hkb (by omega), app60_snoc]; exact g1) (by omega) (by omega) rfl
end NH
