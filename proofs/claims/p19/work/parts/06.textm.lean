/-! ===== Text: its methods ===== -/
theorem wfX10_clear_15 : Cond.fieldLink RX10 15 "FieldScribe$Text" (TX10 1).2.1 (TX10 1).2.2.1 ∈ wsX10_clear := by decide +kernel
theorem wiX10_clear_X10 : ∀ w ∈ u_ws RX10 TX10 2, w ∈ wsX10_clear := by decide +kernel
theorem wfX10_at_15 : Cond.fieldLink RX10 15 "FieldScribe$Text" (TX10 1).2.1 (TX10 1).2.2.1 ∈ wsX10_at := by decide +kernel
theorem wiX10_at_X10 : ∀ w ∈ u_ws RX10 TX10 2, w ∈ wsX10_at := by decide +kernel
theorem wfX10_at_9 : Cond.fieldLink RX10 9 "FieldScribe$Text" (TX10 0).2.1 (TX10 0).2.2.1 ∈ wsX10_at := by decide +kernel
theorem wfX10_put_15 : Cond.fieldLink RX10 15 "FieldScribe$Text" (TX10 1).2.1 (TX10 1).2.2.1 ∈ wsX10_put := by decide +kernel
theorem wiX10_put_X10 : ∀ w ∈ u_ws RX10 TX10 2, w ∈ wsX10_put := by decide +kernel
theorem wfX10_put_9 : Cond.fieldLink RX10 9 "FieldScribe$Text" (TX10 0).2.1 (TX10 0).2.2.1 ∈ wsX10_put := by decide +kernel
theorem wfX10_add_15 : Cond.fieldLink RX10 15 "FieldScribe$Text" (TX10 1).2.1 (TX10 1).2.2.1 ∈ wsX10_add := by decide +kernel
theorem wiX10_add_X10 : ∀ w ∈ u_ws RX10 TX10 2, w ∈ wsX10_add := by decide +kernel
theorem wfX10_add_9 : Cond.fieldLink RX10 9 "FieldScribe$Text" (TX10 0).2.1 (TX10 0).2.2.1 ∈ wsX10_add := by decide +kernel
theorem wfX10_numberLength_15 : Cond.fieldLink RX10 15 "FieldScribe$Text" (TX10 1).2.1 (TX10 1).2.2.1 ∈ wsX10_numberLength := by decide +kernel
theorem wiX10_numberLength_X10 : ∀ w ∈ u_ws RX10 TX10 2, w ∈ wsX10_numberLength := by decide +kernel
theorem wfX10_numberLength_9 : Cond.fieldLink RX10 9 "FieldScribe$Text" (TX10 0).2.1 (TX10 0).2.2.1 ∈ wsX10_numberLength := by decide +kernel
def rmL (fr lo : Nat) : Room := { frames := fr, cells := 0, slots := 0, locals := lo }
theorem up_up {α : Type} (f : Nat → α) (k : Nat) (v w : α) : va_up (va_up f k v) k w = va_up f k w := by
  funext j
  by_cases h : j = k
  · subst h; rw [va_up_same, va_up_same]
  · rw [va_up_other _ _ _ h, va_up_other _ _ _ h, va_up_other _ _ _ h]
theorem up_id {α : Type} {f : Nat → α} {k : Nat} {v : α} (h : f k = v) : va_up f k v = f := by
  funext j
  by_cases hj : j = k
  · subst hj; rw [va_up_same, h]
  · rw [va_up_other _ _ _ hj]
theorem take_push {u : List Int32} {k : Nat} (h : k < u.length) : u.take (k + 1) = u.take k ++ [u.getD k 0] := by
  rw [List.take_succ, List.getD_eq_getElem?_getD, List.getElem?_eq_getElem h]; rfl
/-- the sign at a place, a blank beside the text -/
def atT (s : List Int32) (i : Int32) : Int32 := if 0 ≤ i ∧ i < nI s.length then s.getD i.toNatClampNeg 0 else 32
theorem le_of {a b : Nat} (h : nI a ≤ nI b) (ha : a < 2 ^ 31) (hb : b < 2 ^ 31) : a ≤ b := (nI_leI ha hb).mp h
theorem lt_of {a b : Nat} (h : nI a < nI b) (ha : a < 2 ^ 31) (hb : b < 2 ^ 31) : a < b := (nI_ltI ha hb).mp h
theorem lt_ofn {a b : Nat} (h : ¬ nI a ≤ nI b) (ha : a < 2 ^ 31) (hb : b < 2 ^ 31) : b < a := by
  rcases Nat.lt_or_ge b a with q | q
  · exact q
  · exact absurd (nI_le q hb) h
theorem le_ofn {a b : Nat} (h : ¬ nI a < nI b) (ha : a < 2 ^ 31) (hb : b < 2 ^ 31) : b ≤ a := by
  rcases Nat.lt_or_ge a b with q | q
  · exact absurd (nI_lt q hb) h
  · exact q
def bI (b : Bool) : Int32 := if b = true then 1 else 0
theorem bI_t {b : Bool} (h : b = true) : (1 : Int32) = bI b := by rw [h]; rfl
theorem bI_f {b : Bool} (h : b = false) : (0 : Int32) = bI b := by rw [h]; rfl
theorem bI_nar (b : Bool) : narrow .boolean (.int (bI b)) = .int (bI b) := by cases b <;> rfl
theorem bI_0 {b : Bool} (h : bI b = 0) : b = false := by
  cases b with
  | false => rfl
  | true => exact absurd h (by decide)
theorem bI_1 {b : Bool} (h : ¬ bI b = 0) : b = true := by
  cases b with
  | false => exact absurd rfl h
  | true => rfl
theorem drop_cons {s : List Int32} {j : Nat} (h : j < s.length) : s.drop j = s.getD j 0 :: s.drop (j + 1) := by
  rw [List.drop_eq_getElem_cons h, List.getD_eq_getElem?_getD, List.getElem?_eq_getElem h]; rfl
theorem nrun_step {s : List Int32} {j k : Nat} (h : j < s.length) : nrun (s.drop j) (k + 1) = if isDig (s.getD j 0) = true then nrun (s.drop (j + 1)) k + 1 else 0 := by rw [drop_cons h]; rfl
theorem nrun_end {s : List Int32} {j k : Nat} (h : s.length ≤ j) : nrun (s.drop j) k = 0 := by
  rw [List.drop_eq_nil_of_le h]
  cases k <;> rfl
theorem nrun_0 (s : List Int32) : nrun s 0 = 0 := by cases s <;> rfl
theorem nrun_le : ∀ (s : List Int32) (k : Nat), nrun s k ≤ s.length ∧ nrun s k ≤ k
  | [], k => by cases k <;> simp [nrun]
  | c :: t, 0 => by simp [nrun]
  | c :: t, k + 1 => by
    have h := nrun_le t k
    unfold nrun
    split
    · simp only [List.length_cons]; omega
    · exact ⟨Nat.zero_le _, Nat.zero_le _⟩
theorem nst_le (s : List Int32) : nst s ≤ s.length ∧ nst s ≤ 1 := by
  unfold nst
  split
  next h =>
    cases s with
    | nil => cases h
    | cons a t => simp
  next => exact ⟨Nat.zero_le _, Nat.zero_le _⟩
theorem nlen_le (s : List Int32) : nlen s ≤ s.length := by
  have h1 := (nrun_le (s.drop (nst s)) 9).1
  have h2 := (nst_le s).1
  rw [List.length_drop] at h1
  unfold nlen
  split
  · exact Nat.zero_le _
  · omega
theorem nst_at {s : List Int32} (h : 0 < s.length) : nst s = if s.getD 0 0 = 45 then 1 else 0 := by
  cases s with
  | nil => exact absurd h (Nat.lt_irrefl 0)
  | cons a t => simp [nst]
theorem nst_nil {s : List Int32} (h : ¬ 0 < s.length) : nst s = 0 := by
  cases s with
  | nil => rfl
  | cons a t => exact absurd (Nat.succ_pos _) h
theorem atT_0 {s : List Int32} (hle : s.length ≤ 60) : (atT s 0 = 45) ↔ nst s = 1 := by
  cases s with
  | nil => exact ⟨fun h => absurd h (by decide), fun h => absurd h (by decide)⟩
  | cons a t =>
    unfold atT
    rw [if_pos ⟨Int32.le_refl _, nI_lt (a := 0) (Nat.succ_pos _) (by omega)⟩, show (0 : Int32).toNatClampNeg = 0 from rfl]
    simp [nst]
theorem nval_step {s : List Int32} {j k : Nat} {a : Int32} (h : j < s.length) : nval (s.drop j) (k + 1) a = nval (s.drop (j + 1)) k (a * 10 + (s.getD j 0 - 48)) := by rw [drop_cons h]; rfl
theorem nval_0 (s : List Int32) (a : Int32) : nval s 0 a = a := by cases s <;> rfl
section TM
variable {l : Launch} {D : va_G} {tys : List (ClassId × FieldType)} {z0 : Nat} {A : Nat → Prop} {cC : ClassId} {f : Nat → Option va_E} {ar : Nat → Option Nat} {ln : Nat → Nat} {g : Nat → Nat → Int32} {t a o b : Nat} {T : Nat → Option (List Int32)} {s0 u0 : List Int32}
set_option maxRecDepth 100000 in
set_option maxHeartbeats 4000000 in
theorem t_clear (h : ar t = some a) : ct D tys z0 A (picT D cC A) l yX10_clear wsX10_clear rm0 [.ref t] (f, ar, ln, g) (qV (picT D cC A) A (fun x => x = (f, ar, va_up ln t 0, g))) := by
  refine ct_of RX10 (by decide +kernel) rfl rfl (Nat.le_of_ble_eq_true rfl) ?_
  intro p e s m below meth c C hr hm
  refine v_lv (lv' := [(0, _)]) rfl ?_
  refine v_aload_n C dX10_clear_0 (j := 0) rfl rfl ?_
  refine v_iconst C dX10_clear_1 (v := 0) (by decide) ?_
  refine v_put C (T := TX10) (ci := 10) (j := 1) (ty := .int) dX10_clear_2 wiX10_clear_X10 tyX10 tyX10_ok nmX10 rfl (by decide) wfX10_clear_15 (fun _ h => h) rfl rfl (rfl) (rfl) (T_setlen h (Nat.zero_le _)) ?_
  exact v_return C dX10_clear_5 hr (Nat.le_of_ble_eq_true rfl) (Nat.le_of_ble_eq_true rfl) (rfl)
theorem k_clear (hT : T t = some s0) : ct D tys z0 A (picF D cC A) l yX10_clear wsX10_clear rm0 [.ref t] (f, T) (qV (picF D cC A) A (fun x => x = (f, va_up T t (some [])))) :=
  ct_FV (post := fun ar ln g x => x = (f, ar, va_up ln t 0, g)) (fun ar ln g hr => by
    obtain ⟨a, ha, -⟩ := rep_arr hr hT
    exact t_clear ha) (fun ar ln g hr x hx => by
    obtain ⟨a, ha, -⟩ := rep_arr hr hT
    subst hx
    exact ⟨_, rep_len hr ha (sl_0 _) (fun j hj => absurd hj (Nat.not_lt_zero j)), rfl⟩)
set_option maxRecDepth 100000 in
set_option maxHeartbeats 4000000 in
theorem k_at (ht : tys[0]? = some (cC, .char)) (hT : T t = some s0) (i : Int32) : ct D tys z0 A (picF D cC A) l yX10_at wsX10_at rm0 [.ref t, .int i] (f, T) (qI (picF D cC A) A (fun r x => x = (f, T) ∧ r = atT s0 i)) := by
  refine ct_of RX10 (by decide +kernel) rfl rfl (Nat.le_of_ble_eq_true rfl) ?_
  intro p e s m below meth c C hr hm
  refine v_lv (lv' := [(0, _), (1, _)]) rfl ?_
  refine v_use (fun H hP => FF_le hT hP) (fun hle => ?_)
  refine v_iload_n C dX10_at_0 (j := 1) rfl rfl ?_
  refine v_if_lt C 21 dX10_at_1 (by decide) (fun c1 => ?_) (fun c1 => ?_)
  · skip
    refine v_bipush C dX10_at_21 (v := 32) (by decide) ?_
    exact v_ireturn C dX10_at_23 hr (rfl) (Nat.le_of_ble_eq_true rfl) (Nat.le_of_ble_eq_true rfl) (⟨rfl, (if_neg (fun z => (Int32.not_lt.mpr z.1) c1)).symm⟩)
  · skip
    refine v_iload_n C dX10_at_4 (j := 1) rfl rfl ?_
    refine v_aload_n C dX10_at_5 (j := 0) rfl rfl ?_
    refine v_get C (T := TX10) (ci := 10) (j := 1) dX10_at_6 wiX10_at_X10 rfl (by decide) wfX10_at_15 (fun _ h => h) (FF_len hT) ?_
    refine v_icmp_ge C 21 dX10_at_9 (by decide) (fun c2 => ?_) (fun c2 => ?_)
    · skip
      refine v_bipush C dX10_at_21 (v := 32) (by decide) ?_
      exact v_ireturn C dX10_at_23 hr (rfl) (Nat.le_of_ble_eq_true rfl) (Nat.le_of_ble_eq_true rfl) (⟨rfl, (if_neg (fun z => (Int32.not_lt.mpr c2) z.2)).symm⟩)
    · skip
      obtain ⟨j, hj, rfl⟩ := nI_of c1
      have c3 : j < s0.length := by
        rcases Nat.lt_or_ge j s0.length with q | q
        · exact q
        · exact absurd (nI_le q hj) c2
      refine v_open (fun ar ln g hr2 => ?_)
      obtain ⟨a, ha, es⟩ := rep_arr hr2 hT
      have c4 : j < ln t := by rw [es, sl_len] at c3; exact c3
      refine v_aload_n C dX10_at_12 (j := 0) rfl rfl ?_
      refine v_get C (T := TX10) (ci := 10) (j := 0) dX10_at_13 wiX10_at_X10 rfl (by decide) wfX10_at_9 (fun _ h => h) (T_sig ha) ?_
      refine v_iload_n C dX10_at_16 (j := 1) rfl rfl ?_
      refine v_cald C dX10_at_17 0 ht (T_row ha) (vp_in_nI (by omega) (by decide)) ?_
      refine v_goto C 23 dX10_at_18 (by decide) ?_
      refine v_close hr2 ?_
      exact v_ireturn C dX10_at_23 hr (by rw [nI_clamp hj]; exact hr2.2 t a j ha c4) (Nat.le_of_ble_eq_true rfl) (Nat.le_of_ble_eq_true rfl) (⟨rfl, by unfold atT; rw [if_pos ⟨nI_pos' hj, nI_lt c3 (by omega)⟩, nI_clamp hj, es, sl_getD c4]⟩)
set_option maxRecDepth 100000 in
set_option maxHeartbeats 4000000 in
theorem t_put (ht : tys[0]? = some (cC, .char)) (h : ar t = some a) {c0 : Int32} (hc : ch c0) : ct D tys z0 A (picT D cC A) l yX10_put wsX10_put rm0 [.ref t, .int c0] (f, ar, ln, g) (qV (picT D cC A) A (fun x => x = if ln t < 60 then (f, ar, va_up ln t (ln t + 1), va_up g t (upd (g t) (ln t) c0)) else (f, ar, ln, g))) := by
  refine ct_of RX10 (by decide +kernel) rfl rfl (Nat.le_of_ble_eq_true rfl) ?_
  intro p e s m below meth c C hr hm
  refine v_lv (lv' := [(0, _), (1, _)]) rfl ?_
  refine v_use (fun H hP => T_le h hP) (fun hle => ?_)
  refine v_aload_n C dX10_put_0 (j := 0) rfl rfl ?_
  refine v_get C (T := TX10) (ci := 10) (j := 1) dX10_put_1 wiX10_put_X10 rfl (by decide) wfX10_put_15 (fun _ h => h) (T_len h) ?_
  refine v_aload_n C dX10_put_4 (j := 0) rfl rfl ?_
  refine v_get C (T := TX10) (ci := 10) (j := 0) dX10_put_5 wiX10_put_X10 rfl (by decide) wfX10_put_9 (fun _ h => h) (T_sig h) ?_
  refine v_alen C (v := nI 60) dX10_put_8 0 ht (T_row h) rfl ?_
  refine v_icmp_ge C 32 dX10_put_9 (by decide) (fun c1 => ?_) (fun c1 => ?_)
  · skip
    have c2 := (nI_leI (by decide) (by omega)).mp c1
    exact v_return C dX10_put_32 hr (Nat.le_of_ble_eq_true rfl) (Nat.le_of_ble_eq_true rfl) ((if_neg (by omega)).symm)
  · skip
    have c2 : ln t < 60 := by
      rcases Nat.lt_or_ge (ln t) 60 with q | q
      · exact q
      · exact absurd (nI_le q (by omega)) c1
    refine v_aload_n C dX10_put_12 (j := 0) rfl rfl ?_
    refine v_get C (T := TX10) (ci := 10) (j := 0) dX10_put_13 wiX10_put_X10 rfl (by decide) wfX10_put_9 (fun _ h => h) (T_sig h) ?_
    refine v_aload_n C dX10_put_16 (j := 0) rfl rfl ?_
    refine v_get C (T := TX10) (ci := 10) (j := 1) dX10_put_17 wiX10_put_X10 rfl (by decide) wfX10_put_15 (fun _ h => h) (T_len h) ?_
    refine v_iload_n C dX10_put_20 (j := 1) rfl rfl ?_
    refine v_cast C dX10_put_21 0 ht (vp_in_nI c2 (by decide)) (T_setrow h _) ?_
    rw [nI_clamp (by omega), ch_nar hc]
    refine v_aload_n C dX10_put_22 (j := 0) rfl rfl ?_
    refine v_dup C dX10_put_23 rfl ?_
    refine v_get C (T := TX10) (ci := 10) (j := 1) dX10_put_24 wiX10_put_X10 rfl (by decide) wfX10_put_15 (fun _ h => h) (T_len h) ?_
    refine v_iconst C dX10_put_27 (v := 1) (by decide) ?_
    refine v_iadd C dX10_put_28 ?_
    rw [nI_1]
    refine v_put C (T := TX10) (ci := 10) (j := 1) (ty := .int) dX10_put_29 wiX10_put_X10 tyX10 tyX10_ok nmX10 rfl (by decide) wfX10_put_15 (fun _ h => h) rfl rfl (rfl) (rfl) (T_setlen h (by omega)) ?_
    exact v_return C dX10_put_32 hr (Nat.le_of_ble_eq_true rfl) (Nat.le_of_ble_eq_true rfl) ((if_pos c2).symm)
theorem k_put (ht : tys[0]? = some (cC, .char)) (hT : T t = some s0) {c0 : Int32} (hc : ch c0) : ct D tys z0 A (picF D cC A) l yX10_put wsX10_put rm0 [.ref t, .int c0] (f, T) (qV (picF D cC A) A (fun x => x = (f, va_up T t (some (put60 s0 c0))))) :=
  ct_FV (post := fun ar ln g x => x = if ln t < 60 then (f, ar, va_up ln t (ln t + 1), va_up g t (upd (g t) (ln t) c0)) else (f, ar, ln, g)) (fun ar ln g hr => by
    obtain ⟨a, ha, -⟩ := rep_arr hr hT
    exact t_put ht ha hc) (fun ar ln g hr x hx => by
    obtain ⟨a, ha, es⟩ := rep_arr hr hT
    subst hx
    by_cases h60 : ln t < 60
    · rw [if_pos h60]
      have e1 : put60 s0 c0 = s0 ++ [c0] := by unfold put60; rw [if_pos (by rw [es, sl_len]; exact h60)]
      refine ⟨_, rep_set hr ha (m := ln t + 1) (r := upd (g t) (ln t) c0) (s' := put60 s0 c0) (by rw [sl_push, e1, es]) (fun j hj => ?_), rfl⟩
      unfold upd
      by_cases hj2 : j = ln t
      · rw [if_pos hj2]; exact hc
      · rw [if_neg hj2]; exact hr.2 t a j ha (by omega)
    · rw [if_neg h60]
      have e1 : put60 s0 c0 = s0 := by unfold put60; rw [if_neg (by rw [es, sl_len]; exact h60)]
      exact ⟨T, hr, by rw [e1, up_id hT]⟩)
set_option maxRecDepth 100000 in
set_option maxHeartbeats 4000000 in
theorem k_add (ht : tys[0]? = some (cC, .char)) (hT : T t = some s0) (hO : T o = some u0) (hto : o ≠ t) : ct D tys z0 A (picF D cC A) l yX10_add wsX10_add (rmL 1 21) [.ref t, .ref o] (f, T) (qV (picF D cC A) A (fun x => x = (f, va_up T t (some (app60 s0 u0))))) := by
  refine ct_of RX10 (by decide +kernel) rfl rfl (Nat.le_of_ble_eq_true rfl) ?_
  intro p e s m below meth c C hr hm
  refine v_lv (lv' := [(0, _), (1, _)]) rfl ?_
  refine v_use (fun H hP => FF_le hT hP) (fun hle => ?_)
  refine v_use (fun H hP => FF_le hO hP) (fun hle2 => ?_)
  refine v_aload_n C dX10_add_0 (j := 1) rfl rfl ?_
  refine v_get C (T := TX10) (ci := 10) (j := 1) dX10_add_1 wiX10_add_X10 rfl (by decide) wfX10_add_15 (fun _ h => h) (FF_len hO) ?_
  refine v_istore_n C dX10_add_4 rfl (by decide) (lv' := [(2, _), (0, _), (1, _)]) rfl ?_
  refine v_iconst C dX10_add_5 (v := 0) (by decide) ?_
  refine v_istore_n C dX10_add_6 rfl (by decide) (lv' := [(3, _), (2, _), (0, _), (1, _)]) rfl ?_
  obtain ⟨k, hk, hku⟩ : ∃ k : Nat, k = 0 ∧ k ≤ u0.length := ⟨0, rfl, Nat.zero_le _⟩
  obtain ⟨T1, hT1⟩ : ∃ T1, T1 = va_up T t (some (app60 s0 (u0.take k))) := ⟨_, rfl⟩
  refine v_lv (lv' := [(3, .int (nI k)), (2, _), (0, _), (1, _)]) (by rw [hk]; rfl) ?_
  refine v_x (x' := (f, T1)) (fun H hP => by rw [hT1, hk, List.take_zero, app60_nil hle.1, up_id hT]; exact hP) ?_
  clear hk
  induction hd : (u0.length - k) using Nat.strongRecOn generalizing k T1 with | _ d ih =>
    refine v_iload_n C dX10_add_7 (j := 0) rfl rfl ?_
    refine v_iload_n C dX10_add_8 (j := 1) rfl rfl ?_
    refine v_icmp_ge C 28 dX10_add_9 (by decide) (fun c1 => ?_) (fun c1 => ?_)
    · skip
      have c2 := (nI_leI (by omega) (by omega)).mp c1
      exact v_return C dX10_add_28 hr (Nat.le_of_ble_eq_true rfl) (Nat.le_of_ble_eq_true rfl) ((by rw [hT1, List.take_of_length_le (by omega)]))
    · skip
      have c2 : k < u0.length := by
        rcases Nat.lt_or_ge k u0.length with q | q
        · exact q
        · exact absurd (nI_le q (by omega)) c1
      have hT1t : T1 t = some (app60 s0 (u0.take k)) := by rw [hT1, va_up_same]
      have hT1o : T1 o = some u0 := by rw [hT1, va_up_other _ _ _ hto]; exact hO
      refine v_open (fun ar ln g hr2 => ?_)
      obtain ⟨b, hb, es⟩ := rep_arr hr2 hT1o
      have c4 : k < ln o := by rw [es, sl_len] at c2; exact c2
      have c5 : ln o ≤ 60 := by rw [es, sl_len] at hle2; exact hle2.1
      refine v_aload_n C dX10_add_12 (j := 2) rfl rfl ?_
      refine v_aload_n C dX10_add_13 (j := 3) rfl rfl ?_
      refine v_get C (T := TX10) (ci := 10) (j := 0) dX10_add_14 wiX10_add_X10 rfl (by decide) wfX10_add_9 (fun _ h => h) (T_sig hb) ?_
      refine v_iload_n C dX10_add_17 (j := 0) rfl rfl ?_
      refine v_cald C dX10_add_18 0 ht (T_row hb) (vp_in_nI (by omega) (by decide)) ?_
      rw [nI_clamp (by omega)]
      refine v_close hr2 ?_
      refine v_cv (v_runV C (k_put ht hT1t (hr2.2 o b k hb c4)) (cwV 1 C.1.2.2.2.2 gX10_add_X10_put rfl rfl rfl (by decide +kernel) ⟨Nat.le_of_ble_eq_true rfl, Nat.le_of_ble_eq_true rfl⟩) rfl rfl (FF_txt hT1t) dX10_add_19 (rest := []) (Nat.le_of_ble_eq_true rfl) rfl ⟨Nat.le_of_ble_eq_true rfl, Nat.le_of_ble_eq_true rfl⟩) (fun x' hx' => ?_)
      subst hx'
      refine v_iinc C dX10_add_22 (j := 0) (v := _ + 1) rfl rfl (by decide) (lv' := [(3, _), (2, _), (0, _), (1, _)]) rfl ?_
      refine v_goto C 7 dX10_add_25 (by decide) ?_
      rw [nI_1]
      refine v_sub [0, 1, 2, 3] rfl ?_
      exact ih (u0.length - (k + 1)) (by omega) (k + 1) (by omega) _ (by rw [hT1, up_up, take_push c2, app60_snoc, es, sl_getD c4]) rfl
set_option maxRecDepth 100000 in
set_option maxHeartbeats 4000000 in
theorem k_numberLength (ht : tys[0]? = some (cC, .char)) (hT : T t = some s0) : ct D tys z0 A (picF D cC A) l yX10_numberLength wsX10_numberLength rm0 [.ref t] (f, T) (qI (picF D cC A) A (fun r x => x = (f, T) ∧ r = nI (nlen s0))) := by
  refine ct_of RX10 (by decide +kernel) rfl rfl (Nat.le_of_ble_eq_true rfl) ?_
  intro p e s m below meth c C hr hm
  refine v_lv (lv' := [(0, _)]) rfl ?_
  refine v_use (fun H hP => FF_le hT hP) (fun hle => ?_)
  obtain ⟨hle, hch⟩ := hle
  have hst := nst_le s0
  refine v_cut (pcj := 23) (lvj := [(0, .ref t)]) (stj := []) (fun w => w = nI (nst s0)) (fun w hw => ?_) (fun K => ?_)
  · skip
    subst hw
    refine v_istore_n C dX10_numberLength_23 rfl (by decide) (lv' := [(1, _), (0, _)]) rfl ?_
    refine v_iload_n C dX10_numberLength_24 (j := 0) rfl rfl ?_
    refine v_istore_n C dX10_numberLength_25 rfl (by decide) (lv' := [(2, _), (1, _), (0, _)]) rfl ?_
    have hE := nrun_le (s0.drop (nst s0)) 9
    obtain ⟨j, hj, hj2, hjE⟩ : ∃ j : Nat, j = nst s0 ∧ (nst s0 ≤ j ∧ j ≤ s0.length ∧ j ≤ nst s0 + 9) ∧ j + nrun (s0.drop j) (nst s0 + 9 - j) = nst s0 + nrun (s0.drop (nst s0)) 9 := ⟨nst s0, rfl, ⟨Nat.le_refl _, hst.1, by omega⟩, by rw [Nat.add_sub_cancel_left]⟩
    refine v_lv (lv' := [(2, .int (nI j)), (1, _), (0, _)]) (by rw [hj]) ?_
    clear hj
    induction hd : (nst s0 + 9 - j) using Nat.strongRecOn generalizing j with | _ d ih =>
      refine v_cut0 (pcj := 70) (lvj := [(2, .int (nI j)), (1, .int (nI (nst s0))), (0, .ref t)]) (stj := []) ( nrun (s0.drop j) (nst s0 + 9 - j) = 0) (fun hw => ?_) (fun K => ?_)
      · skip
        refine v_iload_n C dX10_numberLength_70 (j := 0) rfl rfl ?_
        refine v_iload_n C dX10_numberLength_71 (j := 1) rfl rfl ?_
        refine v_icmp_le C 79 dX10_numberLength_72 (by decide) (fun c1 => ?_) (fun c1 => ?_)
        · skip
          have c2 := le_of c1 (by omega) (by omega)
          have c3 : nrun (s0.drop (nst s0)) 9 = 0 := by omega
          refine v_iconst C dX10_numberLength_79 (v := 0) (by decide) ?_
          exact v_ireturn C dX10_numberLength_80 hr (rfl) (Nat.le_of_ble_eq_true rfl) (Nat.le_of_ble_eq_true rfl) (⟨rfl, by unfold nlen; rw [if_pos c3]; rfl⟩)
        · skip
          have c2 := lt_ofn c1 (by omega) (by omega)
          have c3 : ¬ nrun (s0.drop (nst s0)) 9 = 0 := by omega
          refine v_iload_n C dX10_numberLength_75 (j := 0) rfl rfl ?_
          refine v_goto C 80 dX10_numberLength_76 (by decide) ?_
          exact v_ireturn C dX10_numberLength_80 hr (rfl) (Nat.le_of_ble_eq_true rfl) (Nat.le_of_ble_eq_true rfl) (⟨rfl, by unfold nlen; rw [if_neg c3, ← hjE, hw, Nat.add_zero]⟩)
      · skip
        refine v_iload_n C dX10_numberLength_26 (j := 0) rfl rfl ?_
        refine v_aload_n C dX10_numberLength_27 (j := 2) rfl rfl ?_
        refine v_get C (T := TX10) (ci := 10) (j := 1) dX10_numberLength_28 wiX10_numberLength_X10 rfl (by decide) wfX10_numberLength_15 (fun _ h => h) (FF_len hT) ?_
        refine v_icmp_ge C 70 dX10_numberLength_31 (by decide) (fun c1 => ?_) (fun c1 => ?_)
        · skip
          exact K (nrun_end (le_of c1 (by omega) (by omega)))
        · skip
          have c2 := lt_ofn c1 (by omega) (by omega)
          refine v_iload_n C dX10_numberLength_34 (j := 0) rfl rfl ?_
          refine v_iload_n C dX10_numberLength_35 (j := 1) rfl rfl ?_
          refine v_bipush C dX10_numberLength_36 (v := 9) (by decide) ?_
          refine v_iadd C dX10_numberLength_38 ?_
          refine v_int (b := nI (nst s0 + 9)) (nI_add _ 9) ?_
          refine v_icmp_ge C 70 dX10_numberLength_39 (by decide) (fun c3 => ?_) (fun c3 => ?_)
          · skip
            have c4 := le_of c3 (by omega) (by omega)
            exact K (by rw [show nst s0 + 9 - j = 0 by omega]; exact nrun_0 _)
          · skip
            have c4 := lt_ofn c3 (by omega) (by omega)
            refine v_open (fun ar ln g hr2 => ?_)
            obtain ⟨a, ha, es⟩ := rep_arr hr2 hT
            have c5 : j < ln t := by rw [es, sl_len] at c2; exact c2
            have c6 : ln t ≤ 60 := by rw [es, sl_len] at hle; exact hle
            refine v_aload_n C dX10_numberLength_42 (j := 2) rfl rfl ?_
            refine v_get C (T := TX10) (ci := 10) (j := 0) dX10_numberLength_43 wiX10_numberLength_X10 rfl (by decide) wfX10_numberLength_9 (fun _ h => h) (T_sig ha) ?_
            refine v_iload_n C dX10_numberLength_46 (j := 0) rfl rfl ?_
            refine v_cald C dX10_numberLength_47 0 ht (T_row ha) (vp_in_nI (by omega) (by decide)) ?_
            rw [nI_clamp (by omega), show g t j = s0.getD j 0 by rw [es, sl_getD c5]]
            have hs := nrun_step (k := nst s0 + 9 - (j + 1)) c2
            rw [show nst s0 + 9 - (j + 1) + 1 = nst s0 + 9 - j by omega] at hs
            refine v_bipush C dX10_numberLength_48 (v := 48) (by decide) ?_
            refine v_icmp_lt C 70 dX10_numberLength_50 (by decide) (fun c7 => ?_) (fun c7 => ?_)
            · skip
              refine v_close hr2 (K ?_)
              rw [hs, if_neg]
              intro z
              simp only [isDig, Bool.and_eq_true, decide_eq_true_eq] at z
              exact (Int32.not_lt.mpr z.1) c7
            · skip
              refine v_aload_n C dX10_numberLength_53 (j := 2) rfl rfl ?_
              refine v_get C (T := TX10) (ci := 10) (j := 0) dX10_numberLength_54 wiX10_numberLength_X10 rfl (by decide) wfX10_numberLength_9 (fun _ h => h) (T_sig ha) ?_
              refine v_iload_n C dX10_numberLength_57 (j := 0) rfl rfl ?_
              refine v_cald C dX10_numberLength_58 0 ht (T_row ha) (vp_in_nI (by omega) (by decide)) ?_
              rw [nI_clamp (by omega), show g t j = s0.getD j 0 by rw [es, sl_getD c5]]
              refine v_bipush C dX10_numberLength_59 (v := 57) (by decide) ?_
              refine v_icmp_gt C 70 dX10_numberLength_61 (by decide) (fun c8 => ?_) (fun c8 => ?_)
              · skip
                refine v_close hr2 (K ?_)
                rw [hs, if_neg]
                intro z
                simp only [isDig, Bool.and_eq_true, decide_eq_true_eq] at z
                exact (Int32.not_lt.mpr z.2) c8
              · skip
                refine v_iinc C dX10_numberLength_64 (j := 0) (v := _ + 1) rfl rfl (by decide) (lv' := [(2, _), (1, _), (0, _)]) rfl ?_
                refine v_goto C 26 dX10_numberLength_67 (by decide) ?_
                refine v_close hr2 ?_
                have hdg : isDig (s0.getD j 0) = true := by
                  simp only [isDig, Bool.and_eq_true, decide_eq_true_eq]
                  exact ⟨Int32.not_lt.mp c7, Int32.not_lt.mp c8⟩
                rw [if_pos hdg] at hs
                rw [nI_1]
                exact ih (nst s0 + 9 - (j + 1)) (by omega) (j + 1) ⟨by omega, by omega, by omega⟩ (by omega) rfl
  · skip
    refine v_aload_n C dX10_numberLength_0 (j := 0) rfl rfl ?_
    refine v_get C (T := TX10) (ci := 10) (j := 1) dX10_numberLength_1 wiX10_numberLength_X10 rfl (by decide) wfX10_numberLength_15 (fun _ h => h) (FF_len hT) ?_
    refine v_if_le C 22 dX10_numberLength_4 (by decide) (fun c1 => ?_) (fun c1 => ?_)
    · skip
      refine v_iconst C dX10_numberLength_22 (v := 0) (by decide) ?_
      exact K _ (by rw [nst_nil]; · rfl
                    · intro z; exact (Int32.not_lt.mpr c1) (nI_lt z (by omega)))
    · skip
      have c2 : 0 < s0.length := by
        rcases Nat.eq_zero_or_pos s0.length with q | q
        · rw [q] at c1; exact absurd (Int32.le_refl _) c1
        · exact q
      refine v_open (fun ar ln g hr2 => ?_)
      obtain ⟨a, ha, es⟩ := rep_arr hr2 hT
      have c5 : 0 < ln t := by rw [es, sl_len] at c2; exact c2
      refine v_aload_n C dX10_numberLength_7 (j := 0) rfl rfl ?_
      refine v_get C (T := TX10) (ci := 10) (j := 0) dX10_numberLength_8 wiX10_numberLength_X10 rfl (by decide) wfX10_numberLength_9 (fun _ h => h) (T_sig ha) ?_
      refine v_iconst C dX10_numberLength_11 (v := 0) (by decide) ?_
      refine v_cald C dX10_numberLength_12 0 ht (T_row ha) (vp_in_nI (n := 0) (by decide) (by decide)) ?_
      rw [show g t (0 : Int32).toNatClampNeg = s0.getD 0 0 by rw [es, sl_getD c5]; rfl]
      refine v_bipush C dX10_numberLength_13 (v := 45) (by decide) ?_
      refine v_icmp_ne C 22 dX10_numberLength_15 (by decide) (fun c7 => ?_) (fun c7 => ?_)
      · skip
        refine v_iconst C dX10_numberLength_22 (v := 0) (by decide) ?_
        exact v_close hr2 (K _ (by rw [nst_at c2, if_neg c7]; rfl))
      · skip
        refine v_iconst C dX10_numberLength_18 (v := 1) (by decide) ?_
        refine v_goto C 23 dX10_numberLength_19 (by decide) ?_
        exact v_close hr2 (K _ (by rw [nst_at c2, if_pos c7]; rfl))
end TM
