/-! ===== Table: 20 rows, each with a name and a sum ===== -/
theorem wfX9_get_11 : Cond.fieldLink RX9 11 "FieldScribe$Table" (TX9 0).2.1 (TX9 0).2.2.1 ∈ wsX9_get := by decide +kernel
theorem wiX9_get_X9 : ∀ w ∈ u_ws RX9 TX9 2, w ∈ wsX9_get := by decide +kernel
theorem wfX9_find_18 : Cond.fieldLink RX9 18 "FieldScribe$Table" (TX9 1).2.1 (TX9 1).2.2.1 ∈ wsX9_find := by decide +kernel
theorem wiX9_find_X9 : ∀ w ∈ u_ws RX9 TX9 2, w ∈ wsX9_find := by decide +kernel
theorem wiX9_find_X6 : ∀ w ∈ u_ws RX6 TX6 2, w ∈ wsX9_find := by decide +kernel
theorem wfX9_grow_11 : Cond.fieldLink RX9 11 "FieldScribe$Table" (TX9 0).2.1 (TX9 0).2.2.1 ∈ wsX9_grow := by decide +kernel
theorem wiX9_grow_X9 : ∀ w ∈ u_ws RX9 TX9 2, w ∈ wsX9_grow := by decide +kernel
theorem wiX9_grow_X6 : ∀ w ∈ u_ws RX6 TX6 2, w ∈ wsX9_grow := by decide +kernel
theorem wwX9_grow_in_X11_isInt : Cond.initialized yX11_isInt.cls ∈ wsX9_grow := by decide +kernel
theorem wwX9_grow_st_X11_isInt : Cond.static yX11_isInt ∈ wsX9_grow := by decide +kernel
theorem wfX9_grow_18 : Cond.fieldLink RX9 18 "FieldScribe$Table" (TX9 1).2.1 (TX9 1).2.2.1 ∈ wsX9_grow := by decide +kernel
theorem wfX9_drop_18 : Cond.fieldLink RX9 18 "FieldScribe$Table" (TX9 1).2.1 (TX9 1).2.2.1 ∈ wsX9_drop := by decide +kernel
theorem wiX9_drop_X9 : ∀ w ∈ u_ws RX9 TX9 2, w ∈ wsX9_drop := by decide +kernel
theorem wfX9_drop_11 : Cond.fieldLink RX9 11 "FieldScribe$Table" (TX9 0).2.1 (TX9 0).2.2.1 ∈ wsX9_drop := by decide +kernel
abbrev RR : Type := List (List Int32 × Int32)
def rwE (nm : Nat) (sm : Int32) : Option va_E := some (.inr (6, [.ref nm, .int sm]))
def tbE (al cnt : Nat) : Option va_E := some (.inr (9, [.ref al, .int (nI cnt)]))
def tbA (f : Nat → Option va_E) (cR : ClassId) (al : Nat) (ro : Nat → Nat) : Prop := ∃ rf : Nat → Option Nat, f al = some (.inl (cR, 20, .inr (.inr (.inr (.inr rf))))) ∧ ∀ k, k < 20 → rf k = some (ro k)
/-- the rows' objects are apart, and their names -/
def tbD (ro na : Nat → Nat) : Prop := ∀ i j, i < 20 → j < 20 → na (ro i) = na (ro j) → i = j
def tbT (f : Nat → Option va_E) (T : Nat → Option (List Int32)) (ro na : Nat → Nat) (rs : RR) : Prop := rs.length ≤ 20 ∧ (∀ k, k < 20 → ∃ s z, T (na (ro k)) = some s ∧ f (ro k) = rwE (na (ro k)) z) ∧ ∀ i, i < rs.length → T (na (ro i)) = some (rs.getD i ([], 0)).1 ∧ f (ro i) = rwE (na (ro i)) (rs.getD i ([], 0)).2
/-- the place of the row of that name, or how many there are -/
def fnd : RR → List Int32 → Nat
  | [], _ => 0
  | q :: t, s => if q.1 = s then 0 else fnd t s + 1
def grwF (rs : RR) (s : List Int32) : RR := if fnd rs s = rs.length then rs ++ [(s, 0)] else rs
def sumAt (rs : RR) (s : List Int32) : Int32 := ((grwF rs s).getD (fnd rs s) ([], 0)).2
def growR (rs : RR) (s : List Int32) (z : Int32) : RR := if 20 ≤ fnd rs s then rs else (grwF rs s).set (fnd rs s) (s, fitI ((sumAt rs s).toInt64 + z.toInt64))
def growF (rs : RR) (s : List Int32) (z : Int32) : Int32 := if 20 ≤ fnd rs s then 0 else fltI ((sumAt rs s).toInt64 + z.toInt64)
def dropR (rs : RR) (s : List Int32) : RR := rs.eraseIdx (fnd rs s)
theorem fnd_le (rs : RR) (s : List Int32) : fnd rs s ≤ rs.length := by
  induction rs with
  | nil => exact Nat.le_refl _
  | cons q t ih =>
    unfold fnd
    split
    · exact Nat.zero_le _
    · simp; omega
theorem fnd_name (rs : RR) (s : List Int32) (h : fnd rs s < rs.length) : (rs.getD (fnd rs s) ([], 0)).1 = s := by
  induction rs with
  | nil => cases h
  | cons q t ih =>
    unfold fnd at h ⊢
    split at h
    · rename_i h1; rw [if_pos h1]; exact h1
    · rename_i h1
      rw [if_neg h1]
      simp only [List.length_cons] at h
      exact ih (by omega)
theorem fnd_no {q : List Int32 × Int32} {t : RR} {s : List Int32} (h : ¬ q.1 = s) : fnd (q :: t) s = fnd t s + 1 := if_neg h
theorem dropc {α : Type} {s : List α} {j : Nat} (d : α) (h : j < s.length) : s.drop j = s.getD j d :: s.drop (j + 1) := by
  rw [List.drop_eq_getElem_cons h, List.getD_eq_getElem?_getD, List.getElem?_eq_getElem h]; rfl
theorem grw_len (rs : RR) (s : List Int32) : fnd rs s < (grwF rs s).length ∧ rs.length ≤ (grwF rs s).length := by
  have := fnd_le rs s
  unfold grwF
  split
  · simp; omega
  · omega
theorem grw_le {rs : RR} {s : List Int32} (h : rs.length ≤ 20) (h2 : fnd rs s < 20) : (grwF rs s).length ≤ 20 := by
  unfold grwF
  split
  · simp; omega
  · exact h
def frT (f f' : Nat → Option va_E) (T T' : Nat → Option (List Int32)) (tb : Nat) (ro na : Nat → Nat) : Prop := (∀ q, q ≠ tb → (∀ k, k < 20 → q ≠ ro k) → f' q = f q) ∧ ∀ p, (∀ k, k < 20 → p ≠ na (ro k)) → T' p = T p
theorem tbT_fr {f f' : Nat → Option va_E} {T : Nat → Option (List Int32)} {ro na : Nat → Nat} {rs : RR} (h : tbT f T ro na rs) (hf : ∀ k, k < 20 → f' (ro k) = f (ro k)) : tbT f' T ro na rs := by
  obtain ⟨h1, h2, h3⟩ := h
  refine ⟨h1, fun k hk => ?_, fun i hi => ?_⟩
  · obtain ⟨s, z, a1, a2⟩ := h2 k hk
    exact ⟨s, z, a1, by rw [hf k hk]; exact a2⟩
  · rw [hf i (by omega)]; exact h3 i hi
theorem tbD.ro {ro na : Nat → Nat} (h : tbD ro na) {i j : Nat} (hi : i < 20) (hj : j < 20) (hij : i ≠ j) : ro i ≠ ro j := fun z => hij (h i j hi hj (by rw [z]))
theorem tbT_set {f : Nat → Option va_E} {T : Nat → Option (List Int32)} {ro na : Nat → Nat} {rs : RR} (h : tbT f T ro na rs) (hD : tbD ro na) {i : Nat} (hi : i < rs.length) {v : List Int32} (hv : (rs.getD i ([], 0)).1 = v) (w : Int32) : tbT (va_up f (ro i) (rwE (na (ro i)) w)) T ro na (rs.set i (v, w)) := by
  obtain ⟨h1, h2, h3⟩ := h
  refine ⟨by simpa using h1, fun k hk => ?_, fun j hj => ?_⟩
  · obtain ⟨s, z, a1, a2⟩ := h2 k hk
    by_cases hki : k = i
    · subst hki; exact ⟨s, w, a1, va_up_same _ _ _⟩
    · exact ⟨s, z, a1, by rw [va_up_other _ _ _ (hD.ro hk (by omega) hki)]; exact a2⟩
  · simp only [List.length_set] at hj
    by_cases hki : j = i
    · subst hki
      have e1 : (rs.set j (v, w)).getD j ([], 0) = (v, w) := by simp [List.getD_eq_getElem?_getD, hj]
      rw [e1, va_up_same]
      exact ⟨by rw [(h3 j hj).1, hv], rfl⟩
    · have e1 : (rs.set i (v, w)).getD j ([], 0) = rs.getD j ([], 0) := by simp [List.getD_eq_getElem?_getD, List.getElem?_set_ne (Ne.symm hki)]
      rw [e1, va_up_other _ _ _ (hD.ro (by omega) (by omega) hki)]
      exact h3 j hj
theorem tbT_new {f : Nat → Option va_E} {T : Nat → Option (List Int32)} {ro na : Nat → Nat} {rs : RR} (h : tbT f T ro na rs) (hD : tbD ro na) (hn : rs.length < 20) (v : List Int32) : tbT (va_up f (ro rs.length) (rwE (na (ro rs.length)) 0)) (va_up T (na (ro rs.length)) (some v)) ro na (rs ++ [(v, 0)]) := by
  obtain ⟨h1, h2, h3⟩ := h
  refine ⟨by simp; omega, fun k hk => ?_, fun j hj => ?_⟩
  · by_cases hki : k = rs.length
    · subst hki; exact ⟨v, 0, va_up_same _ _ _, va_up_same _ _ _⟩
    · obtain ⟨s, z, a1, a2⟩ := h2 k hk
      exact ⟨s, z, by rw [va_up_other _ _ _ (fun z => hki (hD _ _ hk hn z))]; exact a1, by rw [va_up_other _ _ _ (hD.ro hk hn hki)]; exact a2⟩
  · simp only [List.length_append, List.length_singleton] at hj
    by_cases hki : j = rs.length
    · subst hki
      rw [va_up_same, va_up_same]
      simp [List.getD_eq_getElem?_getD]
    · have e1 : (rs ++ [(v, 0)]).getD j ([], 0) = rs.getD j ([], 0) := by simp only [List.getD_eq_getElem?_getD]; rw [List.getElem?_append_left (by omega)]
      rw [e1, va_up_other _ _ _ (fun z => hki (hD _ _ (by omega) hn z)), va_up_other _ _ _ (hD.ro (by omega) hn hki)]
      exact h3 j (by omega)
/-- the places after the row i of n + 1 went -/
def shf (i n k : Nat) : Nat := if i ≤ k ∧ k < n then k + 1 else if k = n then i else k
theorem shf_n (i n : Nat) : shf i n n = i := by unfold shf; rw [if_neg (by omega), if_pos rfl]
theorem shf_ne {i n k : Nat} (h : ¬ k = n) : shf i n k = if i ≤ k ∧ k < n then k + 1 else k := by unfold shf; rw [if_neg h]
theorem shf_lt {i n k : Nat} (h : i ≤ n) (hn : n < 20) (hk : k < 20) : shf i n k < 20 := by
  unfold shf
  split
  · omega
  · split <;> omega
theorem shf_inj {i n a b : Nat} (h : i ≤ n) (hs : shf i n a = shf i n b) : a = b := by
  unfold shf at hs
  split at hs <;> split at hs <;> (try split at hs) <;> (try split at hs) <;> omega
theorem tbT_drop {f : Nat → Option va_E} {T : Nat → Option (List Int32)} {ro na : Nat → Nat} {rs : RR} (h : tbT f T ro na rs) {i : Nat} (hi : i < rs.length) : tbT f T (fun k => ro (shf i (rs.length - 1) k)) na (rs.eraseIdx i) := by
  obtain ⟨h1, h2, h3⟩ := h
  have hl : (rs.eraseIdx i).length = rs.length - 1 := by rw [List.length_eraseIdx, if_pos hi]
  refine ⟨by omega, fun k hk => h2 _ (shf_lt (by omega) (by omega) hk), fun j hj => ?_⟩
  rw [hl] at hj
  have e1 : (rs.eraseIdx i).getD j ([], 0) = rs.getD (shf i (rs.length - 1) j) ([], 0) := by
    simp only [List.getD_eq_getElem?_getD]
    rw [List.getElem?_eraseIdx]
    unfold shf
    by_cases hji : j < i
    · rw [if_pos hji, if_neg (by omega), if_neg (by omega)]
    · rw [if_neg hji, if_pos (by omega)]
  rw [e1]
  exact h3 _ (by unfold shf; split; omega; split <;> omega)
section TB
variable {l : Launch} {D : va_G} {tys : List (ClassId × FieldType)} {z0 : Nat} {A : Nat → Prop} {cC cR : ClassId} {f : Nat → Option va_E} {T : Nat → Option (List Int32)} {tb al t : Nat} {ro na : Nat → Nat} {v : List Int32} {rs : RR}
set_option maxRecDepth 100000 in
set_option maxHeartbeats 4000000 in
theorem k_tget (ht3 : tys[3]? = some (cR, .object RX6)) {cnt : Nat} (htb : f tb = tbE al cnt) (hal : tbA f cR al ro) {i : Nat} (hi : i < 20) : ct D tys z0 A (picF D cC A) l yX9_get wsX9_get rm0 [.ref tb, .int (nI i)] (f, T) (qR (picF D cC A) A (fun r x => x = (f, T) ∧ r = ro i)) := by
  refine ct_of RX9 (by decide +kernel) rfl rfl (Nat.le_of_ble_eq_true rfl) ?_
  intro p e s m below meth c C hr hm
  refine v_lv (lv' := [(0, _), (1, _)]) rfl ?_
  obtain ⟨rf, hal1, hrf⟩ := hal
  refine v_aload_n C dX9_get_0 (j := 0) rfl rfl ?_
  refine v_get C (T := TX9) (ci := 9) (j := 0) dX9_get_1 wiX9_get_X9 rfl (by decide) wfX9_get_11 (fun _ h => h) (FF_get htb rfl) ?_
  refine v_iload_n C dX9_get_4 (j := 1) rfl rfl ?_
  refine v_if_lt C 21 dX9_get_5 (by decide) (fun c1 => absurd c1 (by intro; exact (Int32.not_lt.mpr (nI_pos' (by omega))) c1)) (fun c1 => ?_)
  refine v_iload_n C dX9_get_8 (j := 1) rfl rfl ?_
  refine v_aload_n C dX9_get_9 (j := 0) rfl rfl ?_
  refine v_get C (T := TX9) (ci := 9) (j := 0) dX9_get_10 wiX9_get_X9 rfl (by decide) wfX9_get_11 (fun _ h => h) (FF_get htb rfl) ?_
  refine v_alen C (v := nI 20) dX9_get_13 3 ht3 (FF_arr hal1) rfl ?_
  refine v_icmp_ge C 21 dX9_get_14 (by decide) (fun c2 => absurd c2 (by intro; have := le_of (a := 20) c2 (by decide) (by omega); omega)) (fun c2 => ?_)
  refine v_iload_n C dX9_get_17 (j := 1) rfl rfl ?_
  refine v_goto C 22 dX9_get_18 (by decide) ?_
  refine v_aald C dX9_get_22 3 ht3 (FF_arr hal1) (vp_in_nI hi (by decide)) (w := some (ro i)) (by rw [nI_clamp (by omega)]; exact hrf _ hi) ?_
  refine v_eq (w := .ref (ro i)) rfl ?_
  exact v_areturn C dX9_get_23 hr (Or.inl ⟨_, rfl⟩) (Nat.le_of_ble_eq_true rfl) (Nat.le_of_ble_eq_true rfl) (⟨rfl, rfl⟩)
set_option maxRecDepth 100000 in
set_option maxHeartbeats 4000000 in
theorem k_find (ht : tys[0]? = some (cC, .char)) (ht3 : tys[3]? = some (cR, .object RX6)) (htb : f tb = tbE al rs.length) (hal : tbA f cR al ro) (hT : tbT f T ro na rs) (hs : T t = some v) : ct D tys z0 A (picF D cC A) l yX9_find wsX9_find (rmL 2 43) [.ref tb, .ref t] (f, T) (qI (picF D cC A) A (fun r x => x = (f, T) ∧ r = nI (fnd rs v))) := by
  refine ct_of RX9 (by decide +kernel) rfl rfl (Nat.le_of_ble_eq_true rfl) ?_
  intro p e s m below meth c C hr hm
  refine v_lv (lv' := [(0, _), (1, _)]) rfl ?_
  refine v_iconst C dX9_find_0 (v := 0) (by decide) ?_
  refine v_istore_n C dX9_find_1 rfl (by decide) (lv' := [(2, _), (0, _), (1, _)]) rfl ?_
  obtain ⟨i, hi, hile, hif⟩ : ∃ i : Nat, i = 0 ∧ i ≤ rs.length ∧ fnd rs v = i + fnd (rs.drop i) v := ⟨0, rfl, Nat.zero_le _, by simp⟩
  refine v_lv (lv' := [(2, .int (nI i)), (0, _), (1, _)]) (by rw [hi]; rfl) ?_
  clear hi
  have hl := hT.1
  induction hd : (rs.length - i) using Nat.strongRecOn generalizing i with | _ d ih =>
    refine v_iload_n C dX9_find_2 (j := 0) rfl rfl ?_
    refine v_aload_n C dX9_find_3 (j := 1) rfl rfl ?_
    refine v_get C (T := TX9) (ci := 9) (j := 1) dX9_find_4 wiX9_find_X9 rfl (by decide) wfX9_find_18 (fun _ h => h) (FF_get htb rfl) ?_
    refine v_icmp_ge C 31 dX9_find_7 (by decide) (fun c1 => ?_) (fun c1 => ?_)
    · skip
      have c2 := le_of c1 (by omega) (by omega)
      refine v_iload_n C dX9_find_31 (j := 0) rfl rfl ?_
      exact v_ireturn C dX9_find_32 hr (rfl) (Nat.le_of_ble_eq_true rfl) (Nat.le_of_ble_eq_true rfl) (⟨rfl, by rw [hif, List.drop_of_length_le c2]; simp [fnd]⟩)
    · skip
      have c2 : i < rs.length := lt_ofn c1 (by omega) (by omega)
      obtain ⟨e1, e2⟩ := hT.2.2 i c2
      refine v_aload_n C dX9_find_10 (j := 1) rfl rfl ?_
      refine v_iload_n C dX9_find_11 (j := 0) rfl rfl ?_
      refine v_cr (v_runV C (k_tget ht3 htb hal (i := i) (by omega)) (cwV 1 C.1.2.2.2.2 gX9_find_X9_get rfl rfl rfl (by decide +kernel) ⟨Nat.le_of_ble_eq_true rfl, Nat.le_of_ble_eq_true rfl⟩) rfl rfl ((FF_get htb (k := 0) rfl).gC) dX9_find_12 (rest := []) (Nat.le_of_ble_eq_true rfl) rfl ⟨Nat.le_of_ble_eq_true rfl, Nat.le_of_ble_eq_true rfl⟩) (fun r x' hx' => ?_)
      obtain ⟨rfl, rfl⟩ := hx'
      refine v_getN C (T := TX6) (ci := 6) (j := 0) dX9_find_15 wiX9_find_X6 rfl (by decide) (v_nw C 38 rfl) (fun _ h => h) (FF_get e2 rfl) ?_
      refine v_aload_n C dX9_find_18 (j := 2) rfl rfl ?_
      refine v_ci (v_runV C (k_hasSignsOf ht e1 hs) (cwV 1 C.1.2.2.2.2 gX9_find_X10_hasSignsOf rfl rfl rfl (by decide +kernel) ⟨Nat.le_of_ble_eq_true rfl, Nat.le_of_ble_eq_true rfl⟩) rfl rfl (FF_txt e1) dX9_find_19 (rest := []) (Nat.le_of_ble_eq_true rfl) rfl ⟨Nat.le_of_ble_eq_true rfl, Nat.le_of_ble_eq_true rfl⟩) (fun q x' hx' => ?_)
      obtain ⟨rfl, rfl⟩ := hx'
      refine v_if_ne C 31 dX9_find_22 (by decide) (fun c3 => ?_) (fun c3 => ?_)
      · skip
        refine v_iload_n C dX9_find_31 (j := 0) rfl rfl ?_
        exact v_ireturn C dX9_find_32 hr (rfl) (Nat.le_of_ble_eq_true rfl) (Nat.le_of_ble_eq_true rfl) (⟨rfl, by rw [hif, dropc ([], 0) c2]; unfold fnd; rw [if_pos (of_decide_eq_true (bI_1 c3)), Nat.add_zero]⟩)
      · skip
        refine v_iinc C dX9_find_25 (j := 0) (v := _ + 1) rfl rfl (by decide) (lv' := [(2, _), (0, _), (1, _)]) rfl ?_
        refine v_goto C 2 dX9_find_28 (by decide) ?_
        rw [nI_1]
        exact ih (rs.length - (i + 1)) (by omega) (i + 1) (by omega) (by rw [hif, dropc ([], 0) c2, fnd_no (of_decide_eq_false (bI_0 c3))]; omega) rfl
set_option maxRecDepth 100000 in
set_option maxHeartbeats 8000000 in
theorem k_grow (ht : tys[0]? = some (cC, .char)) (ht3 : tys[3]? = some (cR, .object RX6)) (htb : f tb = tbE al rs.length) (hal : tbA f cR al ro) (hD : tbD ro na) (hT : tbT f T ro na rs) (hs : T t = some v) (htn : ∀ k, k < 20 → t ≠ na (ro k)) (z : Int32) : ct D tys z0 A (picF D cC A) l yX9_grow wsX9_grow (rmL 3 65) [.ref tb, .ref t, .int z] (f, T) (qI (picF D cC A) A (fun r x => r = growF rs v z ∧ ∃ f' T', x = (f', T') ∧ f' tb = tbE al (growR rs v z).length ∧ tbT f' T' ro na (growR rs v z) ∧ tbA f' cR al ro ∧ frT f f' T T' tb ro na)) := by
  refine ct_of RX9 (by decide +kernel) rfl rfl (Nat.le_of_ble_eq_true rfl) ?_
  intro p e s m below meth c C hr hm
  refine v_lv (lv' := [(0, _), (1, _), (2, _)]) rfl ?_
  have hal2 := hal
  obtain ⟨rf, hal1, hrf⟩ := hal2
  have hle := fnd_le rs v
  have hl := hT.1
  refine v_aload_n C dX9_grow_0 (j := 0) rfl rfl ?_
  refine v_aload_n C dX9_grow_1 (j := 1) rfl rfl ?_
  refine v_ci (v_runV C (k_find ht ht3 htb hal hT hs) (cwV 1 C.1.2.2.2.2 gX9_grow_X9_find rfl rfl rfl (by decide +kernel) ⟨Nat.le_of_ble_eq_true rfl, Nat.le_of_ble_eq_true rfl⟩) rfl rfl ((FF_get htb (k := 0) rfl).gC) dX9_grow_2 (rest := []) (Nat.le_of_ble_eq_true rfl) rfl ⟨Nat.le_of_ble_eq_true rfl, Nat.le_of_ble_eq_true rfl⟩) (fun r x' hx' => ?_)
  obtain ⟨rfl, rfl⟩ := hx'
  refine v_istore_n C dX9_grow_5 rfl (by decide) (lv' := [(3, _), (0, _), (1, _), (2, _)]) rfl ?_
  refine v_iload_n C dX9_grow_6 (j := 0) rfl rfl ?_
  refine v_aload_n C dX9_grow_7 (j := 1) rfl rfl ?_
  refine v_get C (T := TX9) (ci := 9) (j := 0) dX9_grow_8 wiX9_grow_X9 rfl (by decide) wfX9_grow_11 (fun _ h => h) (FF_get htb rfl) ?_
  refine v_alen C (v := nI 20) dX9_grow_11 3 ht3 (FF_arr hal1) rfl ?_
  refine v_icmp_lt C 17 dX9_grow_12 (by decide) (fun c1 => ?_) (fun c1 => ?_)
  · skip
    have c2 : fnd rs v < 20 := lt_of (b := 20) c1 (by omega) (by decide)
    obtain ⟨s9, z9, e1, e2⟩ := hT.2.1 _ c2
    have hrt : ∀ k, k < 20 → ro k ≠ tb := fun k hk => by
      obtain ⟨s8, z8, e8, e9⟩ := hT.2.1 k hk
      exact F_ne e9 htb (by intro q; cases q)
    have hra : ∀ k, k < 20 → ro k ≠ al := fun k hk => by
      obtain ⟨s8, z8, e8, e9⟩ := hT.2.1 k hk
      exact F_ne e9 hal1 (by intro q; cases q)
    have hat : al ≠ tb := F_ne hal1 htb (by intro q; cases q)
    refine v_aload_n C dX9_grow_17 (j := 1) rfl rfl ?_
    refine v_iload_n C dX9_grow_18 (j := 0) rfl rfl ?_
    refine v_cr (v_runV C (k_tget ht3 htb hal c2) (cwV 1 C.1.2.2.2.2 gX9_grow_X9_get rfl rfl rfl (by decide +kernel) ⟨Nat.le_of_ble_eq_true rfl, Nat.le_of_ble_eq_true rfl⟩) rfl rfl ((FF_get htb (k := 0) rfl).gC) dX9_grow_19 (rest := []) (Nat.le_of_ble_eq_true rfl) rfl ⟨Nat.le_of_ble_eq_true rfl, Nat.le_of_ble_eq_true rfl⟩) (fun r x' hx' => ?_)
    obtain ⟨rfl, rfl⟩ := hx'
    refine v_cutX (pcj := 57) (fun w : fS => w) (fun _ => [(4, .ref (ro (fnd rs v))), (3, .int (nI (fnd rs v))), (0, .ref tb), (1, .ref t), (2, .int z)]) (fun _ => []) (fun w => w.1 tb = tbE al (grwF rs v).length ∧ tbT w.1 w.2 ro na (grwF rs v) ∧ tbA w.1 cR al ro ∧ frT f w.1 T w.2 tb ro na ∧ ((grwF rs v).getD (fnd rs v) ([], 0)).1 = v) (fun w hw => ?_) (fun K => ?_)
    · skip
      obtain ⟨f1, T1⟩ := w
      obtain ⟨w1, w2, w3, w4, w5⟩ := hw
      dsimp only at w1 w2 w3 w4
      have w6 := w2.2.2 _ (grw_len rs v).1
      refine v_aload C dX9_grow_57 (j := 0) rfl ?_
      refine v_getN C (T := TX6) (ci := 6) (j := 1) dX9_grow_59 wiX9_grow_X6 rfl (by decide) (v_nw C 39 rfl) (fun _ h => h) (FF_get w6.2 rfl) ?_
      refine v_i2l C dX9_grow_62 ?_
      refine v_iload_n C dX9_grow_63 (j := 4) rfl rfl ?_
      refine v_i2l C dX9_grow_64 ?_
      refine v_ladd C dX9_grow_65 ?_
      refine v_lstore C dX9_grow_66 (by decide) (lv' := [(5, _), (4, _), (3, _), (0, _), (1, _), (2, _)]) rfl ?_
      refine v_lload C dX9_grow_68 (j := 0) rfl ?_
      refine v_ci (v_runSN C (k_isInt ((sumAt rs v).toInt64 + z.toInt64)) ⟨va_cnB 1 C.1.2.2.2.2 gX9_grow_X11_isInt_n47 rfl rfl rfl (v_nest C 11 rfl) (C.1.2.2.2.2 _ wwX9_grow_in_X11_isInt) (by decide +kernel) ⟨Nat.le_of_ble_eq_true rfl, Nat.le_of_ble_eq_true rfl⟩, C.1.2.2.2.2 _ wwX9_grow_st_X11_isInt, trivial⟩ rfl dX9_grow_70 (rest := []) (Nat.le_of_ble_eq_true rfl) rfl ⟨Nat.le_of_ble_eq_true rfl, Nat.le_of_ble_eq_true rfl⟩) (fun q x' hx' => ?_)
      obtain ⟨rfl, rfl⟩ := hx'
      refine v_cut (pcj := 89) (lvj := [(7, .int (bI (isI ((sumAt rs v).toInt64 + z.toInt64)))), (5, .long ((sumAt rs v).toInt64 + z.toInt64)), (4, .ref (ro (fnd rs v))), (3, .int (nI (fnd rs v))), (0, .ref tb), (1, .ref t), (2, .int z)]) (stj := [.ref (ro (fnd rs v))]) (fun w => w = fitI ((sumAt rs v).toInt64 + z.toInt64)) (fun w hw => ?_) (fun K => ?_)
      · skip
        subst hw
        refine v_putN C (T := TX6) (ci := 6) (j := 1) (ty := .int) dX9_grow_89 wiX9_grow_X6 tyX6 tyX6_ok nmX6 rfl (by decide) (v_nw C 39 rfl) (fun _ h => h) rfl rfl (rfl) (rfl) (FF_put w6.2 (Nat.le_of_ble_eq_true rfl)) ?_
        have g1 : growR rs v z = (grwF rs v).set (fnd rs v) (v, fitI ((sumAt rs v).toInt64 + z.toInt64)) := if_neg (by omega)
        have g2 : growF rs v z = fltI ((sumAt rs v).toInt64 + z.toInt64) := if_neg (by omega)
        have g3 : ∃ f' T', (va_up f1 (ro (fnd rs v)) (rwE (na (ro (fnd rs v))) (fitI ((sumAt rs v).toInt64 + z.toInt64))), T1) = (f', T') ∧ f' tb = tbE al (growR rs v z).length ∧ tbT f' T' ro na (growR rs v z) ∧ tbA f' cR al ro ∧ frT f f' T T' tb ro na := by
            rw [g1]
            refine ⟨_, _, rfl, ?_, tbT_set w2 hD (grw_len rs v).1 w5 _, ?_, ⟨fun q hq1 hq2 => ?_, w4.2⟩⟩
            · rw [va_up_other _ _ _ (Ne.symm (hrt _ c2)), w1, List.length_set]
            · obtain ⟨rf3, b1, b2⟩ := w3
              exact ⟨rf3, by rw [va_up_other _ _ _ (Ne.symm (hra _ c2))]; exact b1, b2⟩
            · rw [va_up_other _ _ _ (hq2 _ c2)]; exact w4.1 q hq1 hq2
        refine v_iload C dX9_grow_92 (j := 0) rfl ?_
        refine v_if_eq C 101 dX9_grow_94 (by decide) (fun c3 => ?_) (fun c3 => ?_)
        · skip
          refine v_iconst C dX9_grow_101 (v := 1) (by decide) ?_
          exact v_ireturn C dX9_grow_102 hr (rfl) (Nat.le_of_ble_eq_true rfl) (Nat.le_of_ble_eq_true rfl) (⟨by rw [g2]; unfold fltI; rw [if_neg (by rw [bI_0 c3]; decide)], g3⟩)
        · skip
          refine v_iconst C dX9_grow_97 (v := 0) (by decide) ?_
          refine v_goto C 102 dX9_grow_98 (by decide) ?_
          exact v_ireturn C dX9_grow_102 hr (rfl) (Nat.le_of_ble_eq_true rfl) (Nat.le_of_ble_eq_true rfl) (⟨by rw [g2]; unfold fltI; rw [if_pos (bI_1 c3)], g3⟩)
      · skip
        refine v_istore C dX9_grow_73 (by decide) (lv' := [(7, _), (5, _), (4, _), (3, _), (0, _), (1, _), (2, _)]) rfl ?_
        refine v_aload C dX9_grow_75 (j := 2) rfl ?_
        refine v_iload C dX9_grow_77 (j := 0) rfl ?_
        refine v_if_eq C 88 dX9_grow_79 (by decide) (fun c3 => ?_) (fun c3 => ?_)
        · skip
          refine v_iconst C dX9_grow_88 (v := 0) (by decide) ?_
          exact K _ (by unfold fitI; rw [if_neg (by rw [bI_0 c3]; decide)])
        · skip
          refine v_lload C dX9_grow_82 (j := 1) rfl ?_
          refine v_l2i C dX9_grow_84 ?_
          refine v_goto C 89 dX9_grow_85 (by decide) ?_
          exact K _ (by unfold fitI; rw [if_pos (bI_1 c3)]; rfl)
    · skip
      refine v_astore C dX9_grow_22 (by decide) (lv' := [(4, _), (3, _), (0, _), (1, _), (2, _)]) rfl ?_
      refine v_iload_n C dX9_grow_24 (j := 1) rfl rfl ?_
      refine v_aload_n C dX9_grow_25 (j := 2) rfl rfl ?_
      refine v_get C (T := TX9) (ci := 9) (j := 1) dX9_grow_26 wiX9_grow_X9 rfl (by decide) wfX9_grow_18 (fun _ h => h) (FF_get htb rfl) ?_
      refine v_icmp_ne C 57 dX9_grow_29 (by decide) (fun c3 => ?_) (fun c3 => ?_)
      · skip
        have c4 : ¬ fnd rs v = rs.length := fun q => c3 (by rw [q])
        have g0 : grwF rs v = rs := if_neg c4
        exact K (f, T) ⟨by rw [g0]; exact htb, by rw [g0]; exact hT, hal, ⟨fun _ _ _ => rfl, fun _ _ => rfl⟩, by rw [g0]; exact fnd_name rs v (by omega)⟩
      · skip
        have c4 : fnd rs v = rs.length := by have := congrArg Int32.toNatClampNeg c3; rw [nI_clamp (by omega), nI_clamp (by omega)] at this; exact this
        have g0 : grwF rs v = rs ++ [(v, 0)] := if_pos c4
        refine v_aload C dX9_grow_32 (j := 0) rfl ?_
        refine v_getN C (T := TX6) (ci := 6) (j := 0) dX9_grow_34 wiX9_grow_X6 rfl (by decide) (v_nw C 38 rfl) (fun _ h => h) (FF_get e2 rfl) ?_
        refine v_aload_n C dX9_grow_37 (j := 3) rfl rfl ?_
        refine v_cv (v_runV C (k_copy ht e1 hs (htn _ c2)) (cwV 1 C.1.2.2.2.2 gX9_grow_X10_copy rfl rfl rfl (by decide +kernel) ⟨Nat.le_of_ble_eq_true rfl, Nat.le_of_ble_eq_true rfl⟩) rfl rfl (FF_txt e1) dX9_grow_38 (rest := []) (Nat.le_of_ble_eq_true rfl) rfl ⟨Nat.le_of_ble_eq_true rfl, Nat.le_of_ble_eq_true rfl⟩) (fun x' hx' => ?_)
        subst hx'
        refine v_aload C dX9_grow_41 (j := 0) rfl ?_
        refine v_iconst C dX9_grow_43 (v := 0) (by decide) ?_
        refine v_putN C (T := TX6) (ci := 6) (j := 1) (ty := .int) dX9_grow_44 wiX9_grow_X6 tyX6 tyX6_ok nmX6 rfl (by decide) (v_nw C 39 rfl) (fun _ h => h) rfl rfl (rfl) (rfl) (FF_put e2 (Nat.le_of_ble_eq_true rfl)) ?_
        have htb' : va_up f (ro (fnd rs v)) (rwE (na (ro (fnd rs v))) 0) tb = tbE al rs.length := by rw [va_up_other _ _ _ (Ne.symm (hrt _ c2))]; exact htb
        refine v_aload_n C dX9_grow_47 (j := 2) rfl rfl ?_
        refine v_dup C dX9_grow_48 rfl ?_
        refine v_get C (T := TX9) (ci := 9) (j := 1) dX9_grow_49 wiX9_grow_X9 rfl (by decide) wfX9_grow_18 (fun _ h => h) (FF_get htb' rfl) ?_
        refine v_iconst C dX9_grow_52 (v := 1) (by decide) ?_
        refine v_iadd C dX9_grow_53 ?_
        rw [nI_1]
        refine v_put C (T := TX9) (ci := 9) (j := 1) (ty := .int) dX9_grow_54 wiX9_grow_X9 tyX9 tyX9_ok nmX9 rfl (by decide) wfX9_grow_18 (fun _ h => h) rfl rfl (rfl) (rfl) (FF_put htb' (Nat.le_of_ble_eq_true rfl)) ?_
        refine K (va_up (va_up f (ro (fnd rs v)) (rwE (na (ro (fnd rs v))) 0)) tb (tbE al (rs.length + 1)), va_up T (na (ro (fnd rs v))) (some v)) ⟨?_, ?_, ?_, ⟨fun q hq1 hq2 => ?_, fun q hq => ?_⟩, ?_⟩ <;> (try dsimp only)
        · rw [g0, va_up_same]; simp
        · rw [g0]
          refine tbT_fr (f := va_up f (ro (fnd rs v)) (rwE (na (ro (fnd rs v))) 0)) ?_ (fun k hk => va_up_other _ _ _ (hrt k hk))
          rw [c4]
          exact tbT_new hT hD (by omega) v
        · exact ⟨rf, by rw [va_up_other _ _ _ hat, va_up_other _ _ _ (Ne.symm (hra _ c2))]; exact hal1, hrf⟩
        · rw [va_up_other _ _ _ hq1, va_up_other _ _ _ (hq2 _ c2)]
        · rw [va_up_other _ _ _ (hq _ c2)]
        · rw [g0, c4]; simp [List.getD_eq_getElem?_getD]
  · skip
    have c2 : 20 ≤ fnd rs v := le_ofn (b := 20) c1 (by omega) (by decide)
    refine v_iconst C dX9_grow_15 (v := 0) (by decide) ?_
    exact v_ireturn C dX9_grow_16 hr (rfl) (Nat.le_of_ble_eq_true rfl) (Nat.le_of_ble_eq_true rfl) (⟨(if_pos c2).symm, f, T, rfl, by unfold growR; rw [if_pos c2]; exact htb, by unfold growR; rw [if_pos c2]; exact hT, hal, ⟨fun _ _ _ => rfl, fun _ _ => rfl⟩⟩)
set_option maxRecDepth 100000 in
set_option maxHeartbeats 8000000 in
theorem k_drop (ht : tys[0]? = some (cC, .char)) (ht3 : tys[3]? = some (cR, .object RX6)) (htb : f tb = tbE al rs.length) (hal : tbA f cR al ro) (hD : tbD ro na) (hT : tbT f T ro na rs) (hs : T t = some v) : ct D tys z0 A (picF D cC A) l yX9_drop wsX9_drop (rmL 3 65) [.ref tb, .ref t] (f, T) (qV (picF D cC A) A (fun x => ∃ f' ro', x = (f', T) ∧ f' tb = tbE al (dropR rs v).length ∧ tbA f' cR al ro' ∧ tbD ro' na ∧ tbT f' T ro' na (dropR rs v) ∧ (∀ k, k < 20 → ∃ j, j < 20 ∧ ro' k = ro j) ∧ ∀ q, q ≠ tb → q ≠ al → f' q = f q)) := by
  refine ct_of RX9 (by decide +kernel) rfl rfl (Nat.le_of_ble_eq_true rfl) ?_
  intro p e s m below meth c C hr hm
  refine v_lv (lv' := [(0, _), (1, _)]) rfl ?_
  have hal2 := hal
  obtain ⟨rf, hal1, hrf⟩ := hal2
  have hle := fnd_le rs v
  have hl := hT.1
  refine v_aload_n C dX9_drop_0 (j := 0) rfl rfl ?_
  refine v_aload_n C dX9_drop_1 (j := 1) rfl rfl ?_
  refine v_ci (v_runV C (k_find ht ht3 htb hal hT hs) (cwV 1 C.1.2.2.2.2 gX9_drop_X9_find rfl rfl rfl (by decide +kernel) ⟨Nat.le_of_ble_eq_true rfl, Nat.le_of_ble_eq_true rfl⟩) rfl rfl ((FF_get htb (k := 0) rfl).gC) dX9_drop_2 (rest := []) (Nat.le_of_ble_eq_true rfl) rfl ⟨Nat.le_of_ble_eq_true rfl, Nat.le_of_ble_eq_true rfl⟩) (fun r x' hx' => ?_)
  obtain ⟨rfl, rfl⟩ := hx'
  refine v_istore_n C dX9_drop_5 rfl (by decide) (lv' := [(2, _), (0, _), (1, _)]) rfl ?_
  refine v_iload_n C dX9_drop_6 (j := 0) rfl rfl ?_
  refine v_aload_n C dX9_drop_7 (j := 1) rfl rfl ?_
  refine v_get C (T := TX9) (ci := 9) (j := 1) dX9_drop_8 wiX9_drop_X9 rfl (by decide) wfX9_drop_18 (fun _ h => h) (FF_get htb rfl) ?_
  refine v_icmp_lt C 15 dX9_drop_11 (by decide) (fun c1 => ?_) (fun c1 => ?_)
  · skip
    have c2 : fnd rs v < rs.length := lt_of c1 (by omega) (by omega)
    have hrt : ∀ k, k < 20 → ro k ≠ tb := fun k hk => by
      obtain ⟨s8, z8, e8, e9⟩ := hT.2.1 k hk
      exact F_ne e9 htb (by intro q; cases q)
    have hra : ∀ k, k < 20 → ro k ≠ al := fun k hk => by
      obtain ⟨s8, z8, e8, e9⟩ := hT.2.1 k hk
      exact F_ne e9 hal1 (by intro q; cases q)
    have hat : al ≠ tb := F_ne hal1 htb (by intro q; cases q)
    refine v_aload_n C dX9_drop_15 (j := 1) rfl rfl ?_
    refine v_iload_n C dX9_drop_16 (j := 0) rfl rfl ?_
    refine v_cr (v_runV C (k_tget ht3 htb hal (i := fnd rs v) (by omega)) (cwV 1 C.1.2.2.2.2 gX9_drop_X9_get rfl rfl rfl (by decide +kernel) ⟨Nat.le_of_ble_eq_true rfl, Nat.le_of_ble_eq_true rfl⟩) rfl rfl ((FF_get htb (k := 0) rfl).gC) dX9_drop_17 (rest := []) (Nat.le_of_ble_eq_true rfl) rfl ⟨Nat.le_of_ble_eq_true rfl, Nat.le_of_ble_eq_true rfl⟩) (fun r x' hx' => ?_)
    obtain ⟨rfl, rfl⟩ := hx'
    refine v_astore_n C dX9_drop_20 rfl (by decide) (lv' := [(3, _), (2, _), (0, _), (1, _)]) rfl ?_
    refine v_aload_n C dX9_drop_21 (j := 2) rfl rfl ?_
    refine v_dup C dX9_drop_22 rfl ?_
    refine v_get C (T := TX9) (ci := 9) (j := 1) dX9_drop_23 wiX9_drop_X9 rfl (by decide) wfX9_drop_18 (fun _ h => h) (FF_get htb rfl) ?_
    refine v_iconst C dX9_drop_26 (v := 1) (by decide) ?_
    refine v_isub C dX9_drop_27 ?_
    refine v_int (b := nI (rs.length - 1)) (by rw [show rs.length = rs.length - 1 + 1 by omega]; exact nI_pred _) ?_
    refine v_put C (T := TX9) (ci := 9) (j := 1) (ty := .int) dX9_drop_28 wiX9_drop_X9 tyX9 tyX9_ok nmX9 rfl (by decide) wfX9_drop_18 (fun _ h => h) rfl rfl (rfl) (rfl) (FF_put htb (Nat.le_of_ble_eq_true rfl)) ?_
    refine v_iload_n C dX9_drop_31 (j := 1) rfl rfl ?_
    refine v_istore C dX9_drop_32 (by decide) (lv' := [(4, _), (3, _), (2, _), (0, _), (1, _)]) rfl ?_
    obtain ⟨f1, hf1⟩ : ∃ f1, f1 = va_up f tb (tbE al (rs.length - 1)) := ⟨_, rfl⟩
    obtain ⟨f2, hf2⟩ : ∃ f2, f2 = f1 := ⟨_, rfl⟩
    refine v_x (x' := (f2, T)) (fun H hP => by rw [hf2, hf1]; exact hP) ?_
    obtain ⟨j, hj, hji, hjn⟩ : ∃ j : Nat, j = fnd rs v ∧ fnd rs v ≤ j ∧ j ≤ rs.length - 1 := ⟨_, rfl, Nat.le_refl _, by omega⟩
    refine v_lv (lv' := [(4, .int (nI j)), (3, _), (2, _), (0, _), (1, _)]) (by rw [hj]) ?_
    obtain ⟨rj, hrj1, hrj⟩ : ∃ rj : Nat → Option Nat, f2 al = some (.inl (cR, 20, .inr (.inr (.inr (.inr rj))))) ∧ ∀ k, k < 20 → rj k = some (ro (if fnd rs v ≤ k ∧ k < j then k + 1 else k)) := ⟨rf, by rw [hf2, hf1, va_up_other _ _ _ hat]; exact hal1, fun k hk => by rw [if_neg (by omega)]; exact hrf k hk⟩
    have hfo : ∀ q, q ≠ al → f2 q = f1 q := fun q _ => by rw [hf2]
    have htb1 : f1 tb = tbE al (rs.length - 1) := by rw [hf1, va_up_same]
    clear hf2 hj
    induction hd : (rs.length - j) using Nat.strongRecOn generalizing j f2 rj with | _ d ih =>
      have htb2 : f2 tb = tbE al (rs.length - 1) := by rw [hfo tb (Ne.symm hat)]; exact htb1
      refine v_cut0 (pcj := 77) (lvj := [(3, .ref (ro (fnd rs v))), (0, .ref tb)]) (stj := []) (j = rs.length - 1) (fun hw => ?_) (fun K => ?_)
      · skip
        refine v_aload_n C dX9_drop_77 (j := 1) rfl rfl ?_
        refine v_get C (T := TX9) (ci := 9) (j := 1) dX9_drop_78 wiX9_drop_X9 rfl (by decide) wfX9_drop_18 (fun _ h => h) (FF_get htb2 rfl) ?_
        refine v_if_lt C 106 dX9_drop_81 (by decide) (fun c3 => absurd c3 (by intro; exact (Int32.not_lt.mpr (nI_pos' (by omega))) c3)) (fun c3 => ?_)
        refine v_aload_n C dX9_drop_84 (j := 1) rfl rfl ?_
        refine v_get C (T := TX9) (ci := 9) (j := 1) dX9_drop_85 wiX9_drop_X9 rfl (by decide) wfX9_drop_18 (fun _ h => h) (FF_get htb2 rfl) ?_
        refine v_aload_n C dX9_drop_88 (j := 1) rfl rfl ?_
        refine v_get C (T := TX9) (ci := 9) (j := 0) dX9_drop_89 wiX9_drop_X9 rfl (by decide) wfX9_drop_11 (fun _ h => h) (FF_get htb2 rfl) ?_
        refine v_alen C (v := nI 20) dX9_drop_92 3 ht3 (FF_arr hrj1) rfl ?_
        refine v_icmp_ge C 106 dX9_drop_93 (by decide) (fun c4 => absurd c4 (by intro; have := le_of (a := 20) c4 (by decide) (by omega); omega)) (fun c4 => ?_)
        refine v_aload_n C dX9_drop_96 (j := 1) rfl rfl ?_
        refine v_get C (T := TX9) (ci := 9) (j := 0) dX9_drop_97 wiX9_drop_X9 rfl (by decide) wfX9_drop_11 (fun _ h => h) (FF_get htb2 rfl) ?_
        refine v_aload_n C dX9_drop_100 (j := 1) rfl rfl ?_
        refine v_get C (T := TX9) (ci := 9) (j := 1) dX9_drop_101 wiX9_drop_X9 rfl (by decide) wfX9_drop_18 (fun _ h => h) (FF_get htb2 rfl) ?_
        refine v_aload_n C dX9_drop_104 (j := 0) rfl rfl ?_
        refine v_aast C dX9_drop_105 (r := (RX6, TX6, 2)) (ci := 6) 3 ht3 rfl (by obtain ⟨s8, z8, e8, e9⟩ := hT.2.1 (fnd rs v) (by omega); exact (FF_get (by rw [hfo _ (hra _ (by omega)), hf1, va_up_other _ _ _ (hrt _ (by omega))]; exact e9) (k := 0) rfl).gC) (vp_in_nI (by omega) (by decide)) (FF_arrset hrj1) ?_
        rw [nI_clamp (by omega)]
        have d0 : dropR rs v = rs.eraseIdx (fnd rs v) := rfl
        have d1 : (dropR rs v).length = rs.length - 1 := by rw [d0, List.length_eraseIdx, if_pos c2]
        have hQ : ∀ q, q ≠ tb → q ≠ al → f2 q = f q := fun q q1 q2 => by rw [hfo q q2, hf1, va_up_other _ _ _ q1]
        exact v_return C dX9_drop_106 hr (Nat.le_of_ble_eq_true rfl) (Nat.le_of_ble_eq_true rfl) (⟨_, fun k => ro (shf (fnd rs v) (rs.length - 1) k), rfl, by rw [va_up_other _ _ _ (Ne.symm hat), htb2, d1], ⟨_, va_up_same _ _ _, fun k hk => by unfold va_up; by_cases hk2 : k = rs.length - 1; rw [if_pos hk2, hk2]; exact congrArg some (congrArg ro (shf_n _ _).symm); rw [if_neg hk2, hrj k hk, hw]; exact congrArg some (congrArg ro (shf_ne hk2).symm)⟩, fun a b ha hb hab => shf_inj (i := fnd rs v) (n := rs.length - 1) (by omega) (hD _ _ (shf_lt (by omega) (by omega) ha) (shf_lt (by omega) (by omega) hb) hab), tbT_fr (tbT_drop hT c2) (fun k hk => by rw [va_up_other _ _ _ (hra _ (shf_lt (by omega) (by omega) hk))]; exact hQ _ (hrt _ (shf_lt (by omega) (by omega) hk)) (hra _ (shf_lt (by omega) (by omega) hk))), fun k hk => ⟨_, shf_lt (by omega) (by omega) hk, rfl⟩, fun q q1 q2 => by rw [va_up_other _ _ _ q2]; exact hQ q q1 q2⟩)
      · skip
        refine v_iload C dX9_drop_34 (j := 0) rfl ?_
        refine v_aload_n C dX9_drop_36 (j := 3) rfl rfl ?_
        refine v_get C (T := TX9) (ci := 9) (j := 1) dX9_drop_37 wiX9_drop_X9 rfl (by decide) wfX9_drop_18 (fun _ h => h) (FF_get htb2 rfl) ?_
        refine v_icmp_ge C 77 dX9_drop_40 (by decide) (fun c3 => ?_) (fun c3 => ?_)
        · skip
          exact v_sub [1, 3] rfl (K (by have := le_of c3 (by omega) (by omega); omega))
        · skip
          have c4 : j < rs.length - 1 := lt_ofn c3 (by omega) (by omega)
          refine v_iload C dX9_drop_43 (j := 0) rfl ?_
          refine v_iconst C dX9_drop_45 (v := 1) (by decide) ?_
          refine v_iadd C dX9_drop_46 ?_
          refine v_aload_n C dX9_drop_47 (j := 3) rfl rfl ?_
          refine v_get C (T := TX9) (ci := 9) (j := 0) dX9_drop_48 wiX9_drop_X9 rfl (by decide) wfX9_drop_11 (fun _ h => h) (FF_get htb2 rfl) ?_
          refine v_alen C (v := nI 20) dX9_drop_51 3 ht3 (FF_arr hrj1) rfl ?_
          refine v_icmp_ge C 77 dX9_drop_52 (by decide) (fun c5 => absurd c5 (by intro; rw [nI_1] at c5; have := le_of (a := 20) c5 (by decide) (by omega); omega)) (fun c5 => ?_)
          refine v_aload_n C dX9_drop_55 (j := 3) rfl rfl ?_
          refine v_get C (T := TX9) (ci := 9) (j := 0) dX9_drop_56 wiX9_drop_X9 rfl (by decide) wfX9_drop_11 (fun _ h => h) (FF_get htb2 rfl) ?_
          refine v_iload C dX9_drop_59 (j := 0) rfl ?_
          refine v_aload_n C dX9_drop_61 (j := 3) rfl rfl ?_
          refine v_get C (T := TX9) (ci := 9) (j := 0) dX9_drop_62 wiX9_drop_X9 rfl (by decide) wfX9_drop_11 (fun _ h => h) (FF_get htb2 rfl) ?_
          refine v_iload C dX9_drop_65 (j := 0) rfl ?_
          refine v_iconst C dX9_drop_67 (v := 1) (by decide) ?_
          refine v_iadd C dX9_drop_68 ?_
          rw [nI_1]
          refine v_aald C dX9_drop_69 3 ht3 (FF_arr hrj1) (vp_in_nI (by omega) (by decide)) (w := some (ro (j + 1))) (by rw [nI_clamp (by omega), hrj _ (by omega), if_neg (by omega)]) ?_
          refine v_eq (w := .ref (ro (j + 1))) rfl ?_
          refine v_aast C dX9_drop_70 (r := (RX6, TX6, 2)) (ci := 6) 3 ht3 rfl (by obtain ⟨s8, z8, e8, e9⟩ := hT.2.1 (j + 1) (by omega); exact (FF_get (by rw [hfo _ (hra _ (by omega)), hf1, va_up_other _ _ _ (hrt _ (by omega))]; exact e9) (k := 0) rfl).gC) (vp_in_nI (by omega) (by decide)) (FF_arrset hrj1) ?_
          rw [nI_clamp (by omega)]
          refine v_iinc C dX9_drop_71 (j := 0) (v := _ + 1) rfl rfl (by decide) (lv' := [(4, _), (3, _), (2, _), (0, _), (1, _)]) rfl ?_
          refine v_goto C 34 dX9_drop_74 (by decide) ?_
          rw [nI_1]
          exact ih (rs.length - (j + 1)) (by omega) _ (j + 1) (by omega) (by omega) _ (va_up_same _ _ _) (fun k hk => by unfold va_up; by_cases hk2 : k = j; rw [if_pos hk2, if_pos (by omega), hk2]; rw [if_neg hk2, hrj k hk]; congr 2; by_cases hk3 : fnd rs v ≤ k ∧ k < j; rw [if_pos hk3, if_pos (by omega)]; rw [if_neg hk3, if_neg (by omega)]) (fun q hq => by rw [va_up_other _ _ _ hq]; exact hfo q hq) rfl
  · skip
    have c2 : rs.length ≤ fnd rs v := le_ofn c1 (by omega) (by omega)
    have d0 : dropR rs v = rs := List.eraseIdx_of_length_le c2
    exact v_return C dX9_drop_14 hr (Nat.le_of_ble_eq_true rfl) (Nat.le_of_ble_eq_true rfl) (⟨f, ro, rfl, by rw [d0]; exact htb, hal, hD, by rw [d0]; exact hT, fun k hk => ⟨k, hk, rfl⟩, fun _ _ _ => rfl⟩)
end TB
