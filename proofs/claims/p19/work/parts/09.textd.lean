/-! ===== Text: a number as digits ===== -/
theorem wfX10_write_15 : Cond.fieldLink RX10 15 "FieldScribe$Text" (TX10 1).2.1 (TX10 1).2.2.1 ∈ wsX10_write := by decide +kernel
theorem wiX10_write_X10 : ∀ w ∈ u_ws RX10 TX10 2, w ∈ wsX10_write := by decide +kernel
theorem wwX10_write_k23 : Cond.constantLong RX10 23 (1000000000) ∈ wsX10_write := by decide +kernel
theorem wwX10_write_k27 : Cond.constantLong RX10 27 (10) ∈ wsX10_write := by decide +kernel
theorem wfX10_write_9 : Cond.fieldLink RX10 9 "FieldScribe$Text" (TX10 0).2.1 (TX10 0).2.2.1 ∈ wsX10_write := by decide +kernel
theorem wwX10_write_k25 : Cond.constantLong RX10 25 (48) ∈ wsX10_write := by decide +kernel
theorem ndig_in (n : Nat) : 1 ≤ ndig n ∧ ndig n ≤ 10 := by
  unfold ndig
  (repeat' split) <;> omega
theorem ndig_iff {n k : Nat} (hk : k < 10) (hn : n < 10 ^ 10) : k < ndig n ↔ (10 ^ k ≤ n ∨ k = 0) := by
  have h : k = 0 ∨ k = 1 ∨ k = 2 ∨ k = 3 ∨ k = 4 ∨ k = 5 ∨ k = 6 ∨ k = 7 ∨ k = 8 ∨ k = 9 := by omega
  rcases h with rfl | h
  · exact ⟨fun _ => Or.inr rfl, fun _ => (ndig_in n).1⟩
  · unfold ndig
    rcases h with rfl | rfl | rfl | rfl | rfl | rfl | rfl | rfl | rfl <;> simp only [Nat.reducePow] at hn ⊢ <;> (repeat' split) <;> omega
theorem dl_len (n k : Nat) : (dl n k).length = k := by
  induction k with
  | zero => rfl
  | succ k ih => simp [dl, ih]
theorem dig_small (n k : Nat) : 48 + n / 10 ^ k % 10 < 58 := by omega
theorem ch_small {k : Nat} (h : k < 65536) : ch (nI k) := (pk_charN h).1
theorem ch_dig (n k : Nat) : ch (dig n k) := ch_small (by have := dig_small n k; omega)
theorem chs_dl (n k : Nat) : chs (dl n k) := by
  induction k with
  | zero => exact chs_nil
  | succ k ih =>
    intro c hc
    rcases List.mem_cons.mp hc with h | h
    · rw [h]; exact ch_dig n k
    · exact ih c h
theorem chs_dec (x : Int32) : chs (dec x) := by
  unfold dec
  split
  · intro c hc
    rcases List.mem_cons.mp hc with h | h
    · rw [h]; exact ch_small (k := 45) (by decide)
    · exact chs_dl _ _ c h
  · exact chs_dl _ _
theorem dec_len (x : Int32) : (dec x).length ≤ 11 := by
  have h := ndig_in x.toInt.natAbs
  unfold dec
  split
  · simp only [List.length_cons, dl_len]; omega
  · rw [dl_len]; omega
theorem abs_lt (x : Int32) : x.toInt.natAbs ≤ 2147483648 := by
  have h1 := x.toInt_lt
  have h2 := x.le_toInt
  omega
theorem long_abs {x : Int32} (h : ¬ x < 0) : x.toInt64 = lN x.toInt.natAbs := by
  have h0 : 0 ≤ x.toInt := by
    have := Int32.not_lt.mp h
    exact Int32.le_iff_toInt_le.mp this
  apply Int64.toInt_inj.mp
  rw [Int32.toInt_toInt64, pk_lT (by have := abs_lt x; omega)]
  omega
theorem long_neg {x : Int32} (h : x < 0) : -x.toInt64 = lN x.toInt.natAbs := by
  have h0 : x.toInt < 0 := Int32.lt_iff_toInt_lt.mp h
  have h2 := x.le_toInt
  apply Int64.toInt_inj.mp
  rw [pk_lT (by have := abs_lt x; omega), Int64.toInt_neg, Int32.toInt_toInt64]
  rw [Int.bmod_eq_of_le (by omega) (by omega)]
  omega
theorem lc_le {a b : Nat} (ha : a < 2 ^ 63) (hb : b < 2 ^ 63) : lg_cmp (lN a) (lN b) ≤ 0 ↔ a ≤ b := by
  unfold lg_cmp
  rcases Nat.lt_trichotomy a b with h | h | h
  · rw [if_neg (fun z => by have := (pk_lLT hb ha).mp z; omega), if_neg (fun z => by have := (pk_lEQ ha hb).mp z; omega)]
    exact ⟨fun _ => by omega, fun _ => by decide⟩
  · rw [if_neg (fun z => by have := (pk_lLT hb ha).mp z; omega), if_pos (by rw [h])]
    exact ⟨fun _ => by omega, fun _ => by decide⟩
  · rw [if_pos ((pk_lLT hb ha).mpr h)]
    exact ⟨fun z => absurd z (by decide), fun z => by omega⟩
theorem lc_ge {a b : Nat} (ha : a < 2 ^ 63) (hb : b < 2 ^ 63) : 0 ≤ lg_cmp (lN a) (lN b) ↔ b ≤ a := by
  unfold lg_cmp
  rcases Nat.lt_trichotomy a b with h | h | h
  · rw [if_neg (fun z => by have := (pk_lLT hb ha).mp z; omega), if_neg (fun z => by have := (pk_lEQ ha hb).mp z; omega)]
    exact ⟨fun z => absurd z (by decide), fun z => by omega⟩
  · rw [if_neg (fun z => by have := (pk_lLT hb ha).mp z; omega), if_pos (by rw [h])]
    exact ⟨fun _ => by omega, fun _ => by decide⟩
  · rw [if_pos ((pk_lLT hb ha).mpr h)]
    exact ⟨fun z => by omega, fun z => by decide⟩
theorem lc_eq (a b : Int64) : lg_cmp a b = 0 ↔ a = b := by
  unfold lg_cmp
  by_cases h : a = b
  · subst h
    rw [if_neg (Int64.lt_irrefl), if_pos rfl]
    exact ⟨fun _ => rfl, fun _ => rfl⟩
  · rw [if_neg h]
    split
    · exact ⟨fun z => absurd z (by decide), fun z => absurd z h⟩
    · exact ⟨fun z => absurd z (by decide), fun z => absurd z h⟩
theorem lc_sgn (x : Int32) : 0 ≤ lg_cmp x.toInt64 0 ↔ ¬ x < 0 := by
  have e : (0 : Int64) = (0 : Int32).toInt64 := rfl
  unfold lg_cmp
  by_cases h : x < 0
  · have h1 : x.toInt64 < 0 := by rw [e]; exact Int32.toInt64_lt.mpr h
    rw [if_neg (fun z => Int64.lt_asymm h1 z), if_neg (fun z => by rw [z] at h1; exact Int64.lt_irrefl h1)]
    exact ⟨fun z => absurd z (by decide), fun z => absurd h z⟩
  · refine ⟨fun _ => h, fun _ => ?_⟩
    split
    · decide
    · split
      · decide
      next h1 h2 =>
        exfalso
        have h3 : ¬ x.toInt64 < 0 := fun z => h (Int32.toInt64_lt.mp (by rw [e] at z; exact z))
        rcases Int64.lt_or_eq_of_le (Int64.not_lt.mp h3) with q | q
        · exact h1 q
        · exact h2 q.symm
/-- the unit before which i digits are left -/
def uT (i : Nat) : Nat := if i = 0 then 0 else 10 ^ (i - 1)
theorem uT_s (i : Nat) : uT (i + 1) = 10 ^ i := by simp [uT]
theorem uT_div (i : Nat) : uT (i + 1) / 10 = uT i := by
  rw [uT_s]
  cases i with
  | zero => rfl
  | succ i => rw [uT_s, Nat.pow_succ, Nat.mul_div_cancel _ (by decide)]
theorem pow_lt {i : Nat} (h : i < 10) : 10 ^ i ≤ 1000000000 ∧ 0 < 10 ^ i := by
  have h : i = 0 ∨ i = 1 ∨ i = 2 ∨ i = 3 ∨ i = 4 ∨ i = 5 ∨ i = 6 ∨ i = 7 ∨ i = 8 ∨ i = 9 := by omega
  rcases h with rfl | rfl | rfl | rfl | rfl | rfl | rfl | rfl | rfl | rfl <;> decide
theorem uT_lt {i : Nat} (h : i ≤ 10) : uT i ≤ 1000000000 := by
  cases i with
  | zero => decide
  | succ i => rw [uT_s]; exact (pow_lt (by omega)).1
theorem char_dig {N k : Nat} (hN : N < 2 ^ 63) (hk : k < 10) : ((lN 48 + (lN N / lN (10 ^ k) - lN N / lN (10 ^ k) / lN 10 * lN 10)).toInt32.toUInt32 % 65536).toInt32 = dig N k := by
  have h1 := pow_lt hk
  have hq : N / 10 ^ k < 2 ^ 63 := Nat.lt_of_le_of_lt (Nat.div_le_self _ _) hN
  have hd := dig_small N k
  rw [pk_lDiv hN h1.2 (by omega), pk_lRem hq (by decide) (by decide), lN_add, lN_i, pk_char, pk_tn (by omega), Nat.mod_eq_of_lt (by omega)]
  rfl
section TD
variable {l : Launch} {D : va_G} {tys : List (ClassId × FieldType)} {z0 : Nat} {A : Nat → Prop} {cC : ClassId} {f : Nat → Option va_E} {ar : Nat → Option Nat} {ln : Nat → Nat} {g : Nat → Nat → Int32} {t a o b : Nat} {T : Nat → Option (List Int32)} {s0 u0 : List Int32}
set_option maxRecDepth 100000 in
set_option maxHeartbeats 4000000 in
theorem k_write (ht : tys[0]? = some (cC, .char)) (hT : T t = some s0) (n0 : Int32) : ct D tys z0 A (picF D cC A) l yX10_write wsX10_write rm0 [.ref t, .int n0] (f, T) (qV (picF D cC A) A (fun x => x = (f, va_up T t (some (dec n0))))) := by
  refine ct_of RX10 (by decide +kernel) rfl rfl (Nat.le_of_ble_eq_true rfl) ?_
  intro p e s m below meth c C hr hm
  refine v_lv (lv' := [(0, _), (1, _)]) rfl ?_
  refine v_open (fun ar ln g hr2 => ?_)
  obtain ⟨a, ha, es⟩ := rep_arr hr2 hT
  obtain ⟨N, hN⟩ : ∃ N, N = n0.toInt.natAbs := ⟨_, rfl⟩
  have hN2 : N ≤ 2147483648 := by rw [hN]; exact abs_lt n0
  have hnd := ndig_in N
  refine v_iload_n C dX10_write_0 (j := 1) rfl rfl ?_
  refine v_i2l C dX10_write_1 ?_
  refine v_lstore_n C dX10_write_2 rfl (by decide) (lv' := [(2, _), (0, _), (1, _)]) rfl ?_
  refine v_aload_n C dX10_write_3 (j := 1) rfl rfl ?_
  refine v_iconst C dX10_write_4 (v := 0) (by decide) ?_
  refine v_put C (T := TX10) (ci := 10) (j := 1) (ty := .int) dX10_write_5 wiX10_write_X10 tyX10 tyX10_ok nmX10 rfl (by decide) wfX10_write_15 (fun _ h => h) rfl rfl (rfl) (rfl) (T_setlen ha (Nat.zero_le _)) ?_
  refine v_cutX (α := Nat × (Nat → Int32)) (fun w => (f, ar, va_up ln t w.1, va_up g t w.2)) (pcj := 30) (fun _ => [(2, .long (lN N)), (0, .ref t), (1, .int n0)]) (fun _ => []) (fun w => w.1 ≤ 1 ∧ sl w.2 w.1 ++ dl N (ndig N) = dec n0 ∧ ∀ j, j < w.1 → ch (w.2 j)) (fun w hw => ?_) (fun K => ?_)
  · skip
    obtain ⟨k0, r0⟩ := w
    obtain ⟨hk0, hs0, hc0⟩ := hw
    dsimp only at hk0 hs0 hc0 ⊢
    refine v_ldc2 C dX10_write_30 (v := (1000000000)) wwX10_write_k23 ?_
    refine v_lstore C dX10_write_33 (by decide) (lv' := [(4, _), (2, _), (0, _), (1, _)]) rfl ?_
    obtain ⟨i, k, r, hi, hkk, hrr, hi2, hk, hs, hc⟩ : ∃ (i k : Nat) (r : Nat → Int32), i = 10 ∧ k = k0 ∧ r = r0 ∧ i ≤ 10 ∧ k + i ≤ 11 ∧ sl r k ++ dl N (min i (ndig N)) = dec n0 ∧ ∀ j, j < k → ch (r j) := ⟨10, k0, r0, rfl, rfl, rfl, by omega, by omega, by rw [Nat.min_eq_right hnd.2]; exact hs0, hc0⟩
    refine v_x (x' := (f, ar, va_up ln t k, va_up g t r)) (fun H hP => by rw [hkk, hrr]; exact hP) ?_
    refine v_lv (lv' := [(4, .long (lN (uT i))), (2, _), (0, _), (1, _)]) (by rw [hi]; rfl) ?_
    clear hi hkk hrr hs0 hc0
    induction hd : (0 + i) using Nat.strongRecOn generalizing i k r with | _ d ih =>
      have hu := uT_lt hi2
      refine v_lload C dX10_write_35 (j := 0) rfl ?_
      refine v_lconst C dX10_write_37 (v := 0) (by decide) ?_
      refine v_lcmp C dX10_write_38 ?_
      refine v_if_le C 112 dX10_write_39 (by decide) (fun c1 => ?_) (fun c1 => ?_)
      · skip
        have c2 : uT i ≤ 0 := (lc_le (a := uT i) (b := 0) (by omega) (by decide)).mp c1
        have c3 : i = 0 := by
          cases i with
          | zero => rfl
          | succ i => rw [uT_s] at c2; have := (pow_lt (i := i) (by omega)).2; omega
        rw [c3, Nat.zero_min] at hs
        have hrr := rep_set hr2 ha (m := k) (r := r) (s' := dec n0) (by rw [← hs]; simp [dl]) hc
        refine v_close hrr ?_
        exact v_return C dX10_write_112 hr (Nat.le_of_ble_eq_true rfl) (Nat.le_of_ble_eq_true rfl) (rfl)
      · skip
        have c2 : ¬ uT i ≤ 0 := fun z => c1 ((lc_le (a := uT i) (b := 0) (by omega) (by decide)).mpr z)
        obtain ⟨i', rfl⟩ : ∃ i', i = i' + 1 := by
          cases i with
          | zero => exact absurd (Nat.le_refl 0) c2
          | succ i => exact ⟨i, rfl⟩
        have hpw := pow_lt (i := i') (by omega)
        have hni := ndig_iff (n := N) (k := i') (by omega) (by omega)
        rw [uT_s] at hu c1 c2 ⊢
        refine v_cutX (α := Nat × (Nat → Int32)) (fun w => (f, ar, va_up ln t w.1, va_up g t w.2)) (pcj := 101) (fun _ => [(4, .long (lN (10 ^ i'))), (2, .long (lN N)), (0, .ref t), (1, .int n0)]) (fun _ => []) (fun w => w.1 + i' ≤ 11 ∧ sl w.2 w.1 ++ dl N (min i' (ndig N)) = dec n0 ∧ ∀ j, j < w.1 → ch (w.2 j)) (fun w hw => ?_) (fun K => ?_)
        · skip
          obtain ⟨k2, r2⟩ := w
          obtain ⟨hk2, hs2, hc2⟩ := hw
          dsimp only at hk2 hs2 hc2 ⊢
          refine v_lload C dX10_write_101 (j := 0) rfl ?_
          refine v_ldc2 C dX10_write_103 (v := (10)) wwX10_write_k27 ?_
          refine v_ldiv C dX10_write_106 (by decide) ?_
          refine v_lstore C dX10_write_107 (by decide) (lv' := [(4, _), (2, _), (0, _), (1, _)]) rfl ?_
          refine v_goto C 35 dX10_write_109 (by decide) ?_
          refine v_lv (lv' := [(4, .long (lN (uT i'))), (2, _), (0, _), (1, _)]) (by rw [show (10 : Int64) = lN 10 from rfl, pk_lDiv (by omega) (by decide) (by decide), ← uT_s, uT_div]) ?_
          exact ih (0 + i') (by omega) i' k2 r2 (by omega) hk2 hs2 hc2 rfl
        · skip
          refine v_cut0 (pcj := 56) (lvj := [(4, .long (lN (10 ^ i'))), (2, .long (lN N)), (0, .ref t), (1, .int n0)]) (stj := []) (i' < ndig N) (fun hw => ?_) (fun K2 => ?_)
          · skip
            refine v_aload_n C dX10_write_56 (j := 2) rfl rfl ?_
            refine v_get C (T := TX10) (ci := 10) (j := 1) dX10_write_57 wiX10_write_X10 rfl (by decide) wfX10_write_15 (fun _ h => h) (T_len' ha (va_up_same _ _ _)) ?_
            refine v_aload_n C dX10_write_60 (j := 2) rfl rfl ?_
            refine v_get C (T := TX10) (ci := 10) (j := 0) dX10_write_61 wiX10_write_X10 rfl (by decide) wfX10_write_9 (fun _ h => h) (T_sig ha) ?_
            refine v_alen C (v := nI 60) dX10_write_64 0 ht (T_row' ha (va_up_same _ _ _)) rfl ?_
            refine v_icmp_ge C 101 dX10_write_65 (by decide) (fun c3 => absurd c3 (by intro; have := le_of c3 (by decide) (by omega); omega)) (fun c3 => ?_)
            refine v_aload_n C dX10_write_68 (j := 2) rfl rfl ?_
            refine v_get C (T := TX10) (ci := 10) (j := 0) dX10_write_69 wiX10_write_X10 rfl (by decide) wfX10_write_9 (fun _ h => h) (T_sig ha) ?_
            refine v_aload_n C dX10_write_72 (j := 2) rfl rfl ?_
            refine v_get C (T := TX10) (ci := 10) (j := 1) dX10_write_73 wiX10_write_X10 rfl (by decide) wfX10_write_15 (fun _ h => h) (T_len' ha (va_up_same _ _ _)) ?_
            refine v_ldc2 C dX10_write_76 (v := (48)) wwX10_write_k25 ?_
            refine v_lload_n C dX10_write_79 (j := 1) rfl rfl ?_
            refine v_lload C dX10_write_80 (j := 0) rfl ?_
            refine v_ldiv C dX10_write_82 (fun z => by have := (pk_lEQ (a := 10 ^ i') (b := 0) (by omega) (by decide)).mp z; omega) ?_
            refine v_ldc2 C dX10_write_83 (v := (10)) wwX10_write_k27 ?_
            refine v_lrem C dX10_write_86 (by decide) ?_
            refine v_ladd C dX10_write_87 ?_
            refine v_l2i C dX10_write_88 ?_
            refine v_i2c C dX10_write_89 ?_
            refine v_cast C dX10_write_90 0 ht (vp_in_nI (by omega) (by decide)) (T_setrow' ha) ?_
            rw [nI_clamp (by omega), show (48 : Int64) = lN 48 from rfl, show (10 : Int64) = lN 10 from rfl, char_dig (by omega) (by omega), ch_nar (ch_dig _ _)]
            refine v_aload_n C dX10_write_91 (j := 2) rfl rfl ?_
            refine v_dup C dX10_write_92 rfl ?_
            refine v_get C (T := TX10) (ci := 10) (j := 1) dX10_write_93 wiX10_write_X10 rfl (by decide) wfX10_write_15 (fun _ h => h) (T_len' ha (va_up_same _ _ _)) ?_
            refine v_iconst C dX10_write_96 (v := 1) (by decide) ?_
            refine v_iadd C dX10_write_97 ?_
            rw [nI_1]
            refine v_put C (T := TX10) (ci := 10) (j := 1) (ty := .int) dX10_write_98 wiX10_write_X10 tyX10 tyX10_ok nmX10 rfl (by decide) wfX10_write_15 (fun _ h => h) rfl rfl (rfl) (rfl) (T_setlen' ha (by omega)) ?_
            exact K (k + 1, upd r k (dig N i')) ⟨by dsimp only; omega, by
              dsimp only
              rw [sl_push, Nat.min_eq_left (by omega), ← hs, Nat.min_eq_left (by omega)]
              simp [dl], fun j hj => by
              dsimp only at hj ⊢
              unfold upd
              by_cases hjk : j = k
              · rw [if_pos hjk]; exact ch_dig _ _
              · rw [if_neg hjk]; exact hc j (by omega)⟩
          · skip
            refine v_lload_n C dX10_write_42 (j := 1) rfl rfl ?_
            refine v_lload C dX10_write_43 (j := 0) rfl ?_
            refine v_lcmp C dX10_write_45 ?_
            refine v_if_ge C 56 dX10_write_46 (by decide) (fun c3 => ?_) (fun c3 => ?_)
            · skip
              exact K2 (hni.mpr (Or.inl ((lc_ge (by omega) (by omega)).mp c3)))
            · skip
              refine v_lload C dX10_write_49 (j := 0) rfl ?_
              refine v_lconst C dX10_write_51 (v := 1) (by decide) ?_
              refine v_lcmp C dX10_write_52 ?_
              refine v_if_ne C 101 dX10_write_53 (by decide) (fun c4 => ?_) (fun c4 => ?_)
              · skip
                refine K (k, r) ⟨by dsimp only; omega, ?_, hc⟩
                have c5 : ¬ i' < ndig N := fun z => by
                  rcases hni.mp z with q | q
                  · exact c3 ((lc_ge (by omega) (by omega)).mpr q)
                  · subst q; exact c4 ((lc_eq _ _).mpr rfl)
                dsimp only
                rw [← hs, Nat.min_eq_right (by omega), Nat.min_eq_right (by omega)]
              · skip
                have c5 := (lc_eq _ _).mp c4
                have c6 : i' = 0 := by
                  rw [show (1 : Int64) = lN 1 from rfl] at c5
                  have c7 := (pk_lEQ (by omega) (by decide)).mp c5
                  cases i' with
                  | zero => rfl
                  | succ q => rw [Nat.pow_succ] at c7; omega
                exact K2 (hni.mpr (Or.inr c6))
  · skip
    refine v_lload_n C dX10_write_8 (j := 0) rfl rfl ?_
    refine v_lconst C dX10_write_9 (v := 0) (by decide) ?_
    refine v_lcmp C dX10_write_10 ?_
    refine v_if_ge C 30 dX10_write_11 (by decide) (fun c1 => ?_) (fun c1 => ?_)
    · skip
      have c2 := (lc_sgn n0).mp c1
      refine v_lv (lv' := [(2, .long (lN N)), (0, _), (1, _)]) (by rw [hN, long_abs c2]) ?_
      refine v_x (x' := (f, ar, va_up ln t 0, va_up g t (g t))) (fun H hP => by rw [up_id rfl]; exact hP) ?_
      exact K (0, g t) ⟨Nat.zero_le _, by dsimp only; rw [sl_0, List.nil_append]; unfold dec; rw [if_neg c2, hN], fun j hj => absurd hj (Nat.not_lt_zero j)⟩
    · skip
      have c2 : n0 < 0 := Classical.not_not.mp (fun z => c1 ((lc_sgn n0).mpr z))
      refine v_lload_n C dX10_write_14 (j := 0) rfl rfl ?_
      refine v_lneg C dX10_write_15 ?_
      refine v_lstore_n C dX10_write_16 rfl (by decide) (lv' := [(2, _), (0, _), (1, _)]) rfl ?_
      refine v_aload_n C dX10_write_17 (j := 1) rfl rfl ?_
      refine v_x (x' := (f, ar, va_up ln t 0, va_up g t (g t))) (fun H hP => by rw [up_id rfl]; exact hP) ?_
      refine v_get C (T := TX10) (ci := 10) (j := 0) dX10_write_18 wiX10_write_X10 rfl (by decide) wfX10_write_9 (fun _ h => h) (T_sig ha) ?_
      refine v_iconst C dX10_write_21 (v := 0) (by decide) ?_
      refine v_bipush C dX10_write_22 (v := 45) (by decide) ?_
      refine v_cast C dX10_write_24 0 ht (vp_in_nI (n := 0) (by decide) (by decide)) (T_setrow' ha) ?_
      refine v_aload_n C dX10_write_25 (j := 1) rfl rfl ?_
      refine v_iconst C dX10_write_26 (v := 1) (by decide) ?_
      refine v_put C (T := TX10) (ci := 10) (j := 1) (ty := .int) dX10_write_27 wiX10_write_X10 tyX10 tyX10_ok nmX10 rfl (by decide) wfX10_write_15 (fun _ h => h) rfl rfl (rfl) (rfl) (T_setlen' ha (m := 1) (by decide)) ?_
      refine v_lv (lv' := [(2, .long (lN N)), (0, _), (1, _)]) (by rw [hN, long_neg c2]) ?_
      exact K (1, upd (g t) 0 45) ⟨Nat.le_refl _, by dsimp only; rw [sl_push, sl_0]; unfold dec; rw [if_pos c2, hN]; rfl, fun j hj => by
        dsimp only at hj ⊢
        unfold upd
        rw [if_pos (by omega)]
        exact ch_small (k := 45) (by decide)⟩
end TD
