/-! ===== Text: order, copying, writing numbers ===== -/
theorem wfX10_isLessThan_15 : Cond.fieldLink RX10 15 "FieldScribe$Text" (TX10 1).2.1 (TX10 1).2.2.1 ∈ wsX10_isLessThan := by decide +kernel
theorem wiX10_isLessThan_X10 : ∀ w ∈ u_ws RX10 TX10 2, w ∈ wsX10_isLessThan := by decide +kernel
theorem wfX10_isLessThan_9 : Cond.fieldLink RX10 9 "FieldScribe$Text" (TX10 0).2.1 (TX10 0).2.2.1 ∈ wsX10_isLessThan := by decide +kernel
theorem wwX10_isLessThan_in_X11_rankOf : Cond.initialized yX11_rankOf.cls ∈ wsX10_isLessThan := by decide +kernel
theorem wwX10_isLessThan_st_X11_rankOf : Cond.static yX11_rankOf ∈ wsX10_isLessThan := by decide +kernel
theorem wfX10_copy_15 : Cond.fieldLink RX10 15 "FieldScribe$Text" (TX10 1).2.1 (TX10 1).2.2.1 ∈ wsX10_copy := by decide +kernel
theorem wiX10_copy_X10 : ∀ w ∈ u_ws RX10 TX10 2, w ∈ wsX10_copy := by decide +kernel
theorem wfX10_copy_9 : Cond.fieldLink RX10 9 "FieldScribe$Text" (TX10 0).2.1 (TX10 0).2.2.1 ∈ wsX10_copy := by decide +kernel
section TW
variable {l : Launch} {D : va_G} {tys : List (ClassId × FieldType)} {z0 : Nat} {A : Nat → Prop} {cC : ClassId} {f : Nat → Option va_E} {ar : Nat → Option Nat} {ln : Nat → Nat} {g : Nat → Nat → Int32} {t a o b : Nat} {T : Nat → Option (List Int32)} {s0 u0 : List Int32}
set_option maxRecDepth 100000 in
set_option maxHeartbeats 4000000 in
theorem k_rankOf {σ : Type} {pic : σ → Heap → Prop} {x : σ} (c0 : Int32) : ct D tys z0 A pic l yX11_rankOf wsX11_rankOf rm0 [.int c0] x (qI pic A (fun r x' => x' = x ∧ r = rank c0)) := by
  refine ct_of RX11 (by decide +kernel) rfl rfl (Nat.le_of_ble_eq_true rfl) ?_
  intro p e s m below meth c C hr hm
  refine v_lv (lv' := [(0, _)]) rfl ?_
  have e0 : ∀ z : Int32, c0.toInt = z.toInt ↔ c0 = z := fun z => ⟨fun h => Int32.toInt_inj.mp h, fun h => by rw [h]⟩
  by_cases h1 : c0 = 32
  · skip
    refine v_iload_n C dX11_rankOf_0 (j := 0) rfl rfl ?_
    refine v_lookup C 36 dX11_rankOf_1 (by decide) (off := 35) (by rw [h1]; decide) (by decide) ?_
    refine v_iconst C dX11_rankOf_36 (v := 0) (by decide) ?_
    exact v_ireturn C dX11_rankOf_37 hr (rfl) (Nat.le_of_ble_eq_true rfl) (Nat.le_of_ble_eq_true rfl) (⟨rfl, by unfold rank; rw [if_pos h1]⟩)
  · skip
    by_cases h2 : c0 = 45
    · skip
      refine v_iload_n C dX11_rankOf_0 (j := 0) rfl rfl ?_
      refine v_lookup C 38 dX11_rankOf_1 (by decide) (off := 37) (by rw [h2]; decide) (by decide) ?_
      refine v_iconst C dX11_rankOf_38 (v := 1) (by decide) ?_
      exact v_ireturn C dX11_rankOf_39 hr (rfl) (Nat.le_of_ble_eq_true rfl) (Nat.le_of_ble_eq_true rfl) (⟨rfl, by unfold rank; rw [if_neg h1, if_pos h2]⟩)
    · skip
      by_cases h3 : c0 = 44
      · skip
        refine v_iload_n C dX11_rankOf_0 (j := 0) rfl rfl ?_
        refine v_lookup C 40 dX11_rankOf_1 (by decide) (off := 39) (by rw [h3]; decide) (by decide) ?_
        refine v_iconst C dX11_rankOf_40 (v := 2) (by decide) ?_
        exact v_ireturn C dX11_rankOf_41 hr (rfl) (Nat.le_of_ble_eq_true rfl) (Nat.le_of_ble_eq_true rfl) (⟨rfl, by unfold rank; rw [if_neg h1, if_neg h2, if_pos h3]⟩)
      · skip
        refine v_iload_n C dX11_rankOf_0 (j := 0) rfl rfl ?_
        refine v_lookup C 42 dX11_rankOf_1 (by decide) (off := 41) (by have q1 := mt (e0 32).mp h1; have q2 := mt (e0 45).mp h2; have q3 := mt (e0 44).mp h3; simp only [Op.lookupswitch.offset_cons, Op.lookupswitch.offset_nil]; rw [if_neg (fun z => q1 z.symm), if_neg (fun z => q3 z.symm), if_neg (fun z => q2 z.symm)]) (by decide) ?_
        refine v_iload_n C dX11_rankOf_42 (j := 0) rfl rfl ?_
        exact v_ireturn C dX11_rankOf_43 hr (rfl) (Nat.le_of_ble_eq_true rfl) (Nat.le_of_ble_eq_true rfl) (⟨rfl, by unfold rank; rw [if_neg h1, if_neg h2, if_neg h3]⟩)
set_option maxRecDepth 100000 in
set_option maxHeartbeats 4000000 in
theorem k_isLessThan (ht : tys[0]? = some (cC, .char)) (hT : T t = some s0) (hO : T o = some u0) : ct D tys z0 A (picF D cC A) l yX10_isLessThan wsX10_isLessThan (rmL 2 46) [.ref t, .ref o] (f, T) (qI (picF D cC A) A (fun r x => x = (f, T) ∧ r = bI (lessT s0 u0))) := by
  refine ct_of RX10 (by decide +kernel) rfl rfl (Nat.le_of_ble_eq_true rfl) ?_
  intro p e s m below meth c C hr hm
  refine v_lv (lv' := [(0, _), (1, _)]) rfl ?_
  refine v_use (fun H hP => FF_le hT hP) (fun hle => ?_)
  obtain ⟨hle, hch⟩ := hle
  refine v_use (fun H hP => FF_le hO hP) (fun hle2 => ?_)
  obtain ⟨hle2, hch2⟩ := hle2
  have hfd := fdif_le s0 u0
  refine v_cut0 (pcj := 31) (lvj := [(0, .ref t), (1, .ref o)]) (stj := []) ((isNum s0 && isNum u0) = false) (fun hw => ?_) (fun K => ?_)
  · skip
    refine v_aload_n C dX10_isLessThan_31 (j := 0) rfl rfl ?_
    refine v_aload_n C dX10_isLessThan_32 (j := 1) rfl rfl ?_
    refine v_ci (v_runV C (k_firstDifference ht hT hO) (cwV 1 C.1.2.2.2.2 gX10_isLessThan_X10_firstDifference rfl rfl rfl (by decide +kernel) ⟨Nat.le_of_ble_eq_true rfl, Nat.le_of_ble_eq_true rfl⟩) rfl rfl (FF_txt hT) dX10_isLessThan_33 (rest := []) (Nat.le_of_ble_eq_true rfl) rfl ⟨Nat.le_of_ble_eq_true rfl, Nat.le_of_ble_eq_true rfl⟩) (fun r x' hx' => ?_)
    obtain ⟨rfl, rfl⟩ := hx'
    refine v_cut0 (pcj := 80) (lvj := [(2, .int (nI (fdif s0 u0))), (0, .ref t), (1, .ref o)]) (stj := []) (¬ (fdif s0 u0 < s0.length ∧ fdif s0 u0 < u0.length)) (fun hw2 => ?_) (fun K => ?_)
    · skip
      have e9 : lessT s0 u0 = decide (s0.length < u0.length) := by unfold lessT; rw [if_neg (by rw [hw]; decide), if_neg hw2]
      refine v_aload_n C dX10_isLessThan_80 (j := 1) rfl rfl ?_
      refine v_get C (T := TX10) (ci := 10) (j := 1) dX10_isLessThan_81 wiX10_isLessThan_X10 rfl (by decide) wfX10_isLessThan_15 (fun _ h => h) (FF_len hT) ?_
      refine v_aload_n C dX10_isLessThan_84 (j := 2) rfl rfl ?_
      refine v_get C (T := TX10) (ci := 10) (j := 1) dX10_isLessThan_85 wiX10_isLessThan_X10 rfl (by decide) wfX10_isLessThan_15 (fun _ h => h) (FF_len hO) ?_
      refine v_icmp_ge C 95 dX10_isLessThan_88 (by decide) (fun c1 => ?_) (fun c1 => ?_)
      · skip
        refine v_iconst C dX10_isLessThan_95 (v := 0) (by decide) ?_
        exact v_ireturn C dX10_isLessThan_96 hr (rfl) (Nat.le_of_ble_eq_true rfl) (Nat.le_of_ble_eq_true rfl) (⟨rfl, bI_f (by rw [e9]; exact decide_eq_false (by have := le_of c1 (by omega) (by omega); omega))⟩)
      · skip
        refine v_iconst C dX10_isLessThan_91 (v := 1) (by decide) ?_
        refine v_goto C 96 dX10_isLessThan_92 (by decide) ?_
        exact v_ireturn C dX10_isLessThan_96 hr (rfl) (Nat.le_of_ble_eq_true rfl) (Nat.le_of_ble_eq_true rfl) (⟨rfl, bI_t (by rw [e9]; exact decide_eq_true (lt_ofn c1 (by omega) (by omega)))⟩)
    · skip
      refine v_istore_n C dX10_isLessThan_36 rfl (by decide) (lv' := [(2, _), (0, _), (1, _)]) rfl ?_
      refine v_iload_n C dX10_isLessThan_37 (j := 0) rfl rfl ?_
      refine v_aload_n C dX10_isLessThan_38 (j := 1) rfl rfl ?_
      refine v_get C (T := TX10) (ci := 10) (j := 1) dX10_isLessThan_39 wiX10_isLessThan_X10 rfl (by decide) wfX10_isLessThan_15 (fun _ h => h) (FF_len hT) ?_
      refine v_icmp_ge C 80 dX10_isLessThan_42 (by decide) (fun c1 => ?_) (fun c1 => ?_)
      · skip
        exact K (fun z => by have := le_of c1 (by omega) (by omega); omega)
      · skip
        have c2 := lt_ofn c1 (by omega) (by omega)
        refine v_iload_n C dX10_isLessThan_45 (j := 0) rfl rfl ?_
        refine v_aload_n C dX10_isLessThan_46 (j := 2) rfl rfl ?_
        refine v_get C (T := TX10) (ci := 10) (j := 1) dX10_isLessThan_47 wiX10_isLessThan_X10 rfl (by decide) wfX10_isLessThan_15 (fun _ h => h) (FF_len hO) ?_
        refine v_icmp_ge C 80 dX10_isLessThan_50 (by decide) (fun c3 => ?_) (fun c3 => ?_)
        · skip
          exact K (fun z => by have := le_of c3 (by omega) (by omega); omega)
        · skip
          have c4 := lt_ofn c3 (by omega) (by omega)
          have e9 : lessT s0 u0 = decide (rank (s0.getD (fdif s0 u0) 0) < rank (u0.getD (fdif s0 u0) 0)) := by unfold lessT; rw [if_neg (by rw [hw]; decide), if_pos ⟨c2, c4⟩]
          refine v_open (fun ar ln g hr2 => ?_)
          obtain ⟨a, ha, es⟩ := rep_arr hr2 hT
          obtain ⟨b, hb, es2⟩ := rep_arr hr2 hO
          obtain ⟨j, hj⟩ : ∃ j, j = fdif s0 u0 := ⟨_, rfl⟩
          rw [← hj] at c2 c4 e9 hfd ⊢
          have c5 : j < ln t := by rw [es, sl_len] at c2; exact c2
          have c6 : ln t ≤ 60 := by rw [es, sl_len] at hle; exact hle
          have c7 : j < ln o := by rw [es2, sl_len] at c4; exact c4
          have c8 : ln o ≤ 60 := by rw [es2, sl_len] at hle2; exact hle2
          refine v_aload_n C dX10_isLessThan_53 (j := 1) rfl rfl ?_
          refine v_get C (T := TX10) (ci := 10) (j := 0) dX10_isLessThan_54 wiX10_isLessThan_X10 rfl (by decide) wfX10_isLessThan_9 (fun _ h => h) (T_sig ha) ?_
          refine v_iload_n C dX10_isLessThan_57 (j := 0) rfl rfl ?_
          refine v_cald C dX10_isLessThan_58 0 ht (T_row ha) (vp_in_nI (by omega) (by decide)) ?_
          rw [nI_clamp (by omega), show g t j = s0.getD j 0 by rw [es, sl_getD c5]]
          refine v_ci (v_runSN C (k_rankOf _) ⟨va_cnB 1 C.1.2.2.2.2 gX10_isLessThan_X11_rankOf_n48 rfl rfl rfl (v_nest C 12 rfl) (C.1.2.2.2.2 _ wwX10_isLessThan_in_X11_rankOf) (by decide +kernel) ⟨Nat.le_of_ble_eq_true rfl, Nat.le_of_ble_eq_true rfl⟩, C.1.2.2.2.2 _ wwX10_isLessThan_st_X11_rankOf, trivial⟩ rfl dX10_isLessThan_59 (rest := []) (Nat.le_of_ble_eq_true rfl) rfl ⟨Nat.le_of_ble_eq_true rfl, Nat.le_of_ble_eq_true rfl⟩) (fun r x' hx' => ?_)
          obtain ⟨rfl, rfl⟩ := hx'
          refine v_aload_n C dX10_isLessThan_62 (j := 2) rfl rfl ?_
          refine v_get C (T := TX10) (ci := 10) (j := 0) dX10_isLessThan_63 wiX10_isLessThan_X10 rfl (by decide) wfX10_isLessThan_9 (fun _ h => h) (T_sig hb) ?_
          refine v_iload_n C dX10_isLessThan_66 (j := 0) rfl rfl ?_
          refine v_cald C dX10_isLessThan_67 0 ht (T_row hb) (vp_in_nI (by omega) (by decide)) ?_
          rw [nI_clamp (by omega), show g o j = u0.getD j 0 by rw [es2, sl_getD c7]]
          refine v_ci (v_runSN C (k_rankOf _) ⟨va_cnB 1 C.1.2.2.2.2 gX10_isLessThan_X11_rankOf_n48 rfl rfl rfl (v_nest C 12 rfl) (C.1.2.2.2.2 _ wwX10_isLessThan_in_X11_rankOf) (by decide +kernel) ⟨Nat.le_of_ble_eq_true rfl, Nat.le_of_ble_eq_true rfl⟩, C.1.2.2.2.2 _ wwX10_isLessThan_st_X11_rankOf, trivial⟩ rfl dX10_isLessThan_68 (rest := [_]) (Nat.le_of_ble_eq_true rfl) rfl ⟨Nat.le_of_ble_eq_true rfl, Nat.le_of_ble_eq_true rfl⟩) (fun r x' hx' => ?_)
          obtain ⟨rfl, rfl⟩ := hx'
          refine v_close hr2 ?_
          refine v_icmp_ge C 78 dX10_isLessThan_71 (by decide) (fun c9 => ?_) (fun c9 => ?_)
          · skip
            refine v_iconst C dX10_isLessThan_78 (v := 0) (by decide) ?_
            exact v_ireturn C dX10_isLessThan_79 hr (rfl) (Nat.le_of_ble_eq_true rfl) (Nat.le_of_ble_eq_true rfl) (⟨rfl, bI_f (by rw [e9]; exact decide_eq_false (Int32.not_lt.mpr c9))⟩)
          · skip
            refine v_iconst C dX10_isLessThan_74 (v := 1) (by decide) ?_
            refine v_goto C 79 dX10_isLessThan_75 (by decide) ?_
            exact v_ireturn C dX10_isLessThan_79 hr (rfl) (Nat.le_of_ble_eq_true rfl) (Nat.le_of_ble_eq_true rfl) (⟨rfl, bI_t (by rw [e9]; exact decide_eq_true (Int32.not_le.mp c9))⟩)
  · skip
    refine v_aload_n C dX10_isLessThan_0 (j := 0) rfl rfl ?_
    refine v_ci (v_runV C (k_isNumeric ht hT) (cwV 0 C.1.2.2.2.2 gX10_isLessThan_X10_isNumeric rfl rfl rfl (by decide +kernel) ⟨Nat.le_of_ble_eq_true rfl, Nat.le_of_ble_eq_true rfl⟩) rfl rfl (FF_txt hT) dX10_isLessThan_1 (rest := []) (Nat.le_of_ble_eq_true rfl) rfl ⟨Nat.le_of_ble_eq_true rfl, Nat.le_of_ble_eq_true rfl⟩) (fun r x' hx' => ?_)
    obtain ⟨rfl, rfl⟩ := hx'
    refine v_if_eq C 31 dX10_isLessThan_4 (by decide) (fun c1 => ?_) (fun c1 => ?_)
    · skip
      exact K (by rw [bI_0 c1]; rfl)
    · skip
      refine v_aload_n C dX10_isLessThan_7 (j := 1) rfl rfl ?_
      refine v_ci (v_runV C (k_isNumeric ht hO) (cwV 0 C.1.2.2.2.2 gX10_isLessThan_X10_isNumeric rfl rfl rfl (by decide +kernel) ⟨Nat.le_of_ble_eq_true rfl, Nat.le_of_ble_eq_true rfl⟩) rfl rfl (FF_txt hO) dX10_isLessThan_8 (rest := []) (Nat.le_of_ble_eq_true rfl) rfl ⟨Nat.le_of_ble_eq_true rfl, Nat.le_of_ble_eq_true rfl⟩) (fun r x' hx' => ?_)
      obtain ⟨rfl, rfl⟩ := hx'
      refine v_if_eq C 31 dX10_isLessThan_11 (by decide) (fun c2 => ?_) (fun c2 => ?_)
      · skip
        exact K (by rw [bI_0 c2, Bool.and_false])
      · skip
        have e9 : lessT s0 u0 = decide (num s0 < num u0) := by unfold lessT; rw [if_pos (by rw [bI_1 c1, bI_1 c2]; rfl)]
        refine v_aload_n C dX10_isLessThan_14 (j := 0) rfl rfl ?_
        refine v_ci (v_runV C (k_asNumber ht hT) (cwV 0 C.1.2.2.2.2 gX10_isLessThan_X10_asNumber rfl rfl rfl (by decide +kernel) ⟨Nat.le_of_ble_eq_true rfl, Nat.le_of_ble_eq_true rfl⟩) rfl rfl (FF_txt hT) dX10_isLessThan_15 (rest := []) (Nat.le_of_ble_eq_true rfl) rfl ⟨Nat.le_of_ble_eq_true rfl, Nat.le_of_ble_eq_true rfl⟩) (fun r x' hx' => ?_)
        obtain ⟨rfl, rfl⟩ := hx'
        refine v_aload_n C dX10_isLessThan_18 (j := 1) rfl rfl ?_
        refine v_ci (v_runV C (k_asNumber ht hO) (cwV 0 C.1.2.2.2.2 gX10_isLessThan_X10_asNumber rfl rfl rfl (by decide +kernel) ⟨Nat.le_of_ble_eq_true rfl, Nat.le_of_ble_eq_true rfl⟩) rfl rfl (FF_txt hO) dX10_isLessThan_19 (rest := [_]) (Nat.le_of_ble_eq_true rfl) rfl ⟨Nat.le_of_ble_eq_true rfl, Nat.le_of_ble_eq_true rfl⟩) (fun r x' hx' => ?_)
        obtain ⟨rfl, rfl⟩ := hx'
        refine v_icmp_ge C 29 dX10_isLessThan_22 (by decide) (fun c9 => ?_) (fun c9 => ?_)
        · skip
          refine v_iconst C dX10_isLessThan_29 (v := 0) (by decide) ?_
          exact v_ireturn C dX10_isLessThan_30 hr (rfl) (Nat.le_of_ble_eq_true rfl) (Nat.le_of_ble_eq_true rfl) (⟨rfl, bI_f (by rw [e9]; exact decide_eq_false (Int32.not_lt.mpr c9))⟩)
        · skip
          refine v_iconst C dX10_isLessThan_25 (v := 1) (by decide) ?_
          refine v_goto C 30 dX10_isLessThan_26 (by decide) ?_
          exact v_ireturn C dX10_isLessThan_30 hr (rfl) (Nat.le_of_ble_eq_true rfl) (Nat.le_of_ble_eq_true rfl) (⟨rfl, bI_t (by rw [e9]; exact decide_eq_true (Int32.not_le.mp c9))⟩)
theorem T_len' {m : Nat} (h : ar t = some a) (e : ln t = m) : gO D (picT D cC A) (f, ar, ln, g) 10 t 1 (.int (nI m)) := by rw [← e]; exact T_len h
theorem T_row' {r : Nat → Int32} (h : ar t = some a) (e : g t = r) : gA (picT D cC A) (f, ar, ln, g) cC a (60, .inl r) := by rw [← e]; exact T_row h
theorem T_setrow' {r r' : Nat → Int32} (h : ar t = some a) : pA (picT D cC A) A (f, ar, ln, va_up g t r) cC a (60, .inl r) (60, .inl r') (f, ar, ln, va_up g t r') := by
  have z := T_setrow (D := D) (cC := cC) (A := A) (f := f) (ln := ln) (g := va_up g t r) h r'
  rw [va_up_same, up_up] at z
  exact z
theorem T_setlen' {k m : Nat} (h : ar t = some a) (hm : m ≤ 60) : pO D (picT D cC A) A (f, ar, va_up ln t k, g) 10 t 1 (.int (nI m)) (f, ar, va_up ln t m, g) := by
  have z := T_setlen (D := D) (cC := cC) (A := A) (f := f) (ln := va_up ln t k) (g := g) h hm
  rw [up_up] at z
  exact z
set_option maxRecDepth 100000 in
set_option maxHeartbeats 4000000 in
theorem k_copy (ht : tys[0]? = some (cC, .char)) (hT : T t = some s0) (hO : T o = some u0) (hto : o ≠ t) : ct D tys z0 A (picF D cC A) l yX10_copy wsX10_copy rm0 [.ref t, .ref o] (f, T) (qV (picF D cC A) A (fun x => x = (f, va_up T t (some u0)))) := by
  refine ct_of RX10 (by decide +kernel) rfl rfl (Nat.le_of_ble_eq_true rfl) ?_
  intro p e s m below meth c C hr hm
  refine v_lv (lv' := [(0, _), (1, _)]) rfl ?_
  refine v_open (fun ar ln g hr2 => ?_)
  obtain ⟨a, ha, es⟩ := rep_arr hr2 hT
  obtain ⟨b, hb, es2⟩ := rep_arr hr2 hO
  refine v_use (fun H hP => T_le hb hP) (fun hle2 => ?_)
  refine v_aload_n C dX10_copy_0 (j := 0) rfl rfl ?_
  refine v_aload_n C dX10_copy_1 (j := 1) rfl rfl ?_
  refine v_get C (T := TX10) (ci := 10) (j := 1) dX10_copy_2 wiX10_copy_X10 rfl (by decide) wfX10_copy_15 (fun _ h => h) (T_len hb) ?_
  refine v_put C (T := TX10) (ci := 10) (j := 1) (ty := .int) dX10_copy_5 wiX10_copy_X10 tyX10 tyX10_ok nmX10 rfl (by decide) wfX10_copy_15 (fun _ h => h) rfl rfl (rfl) (rfl) (T_setlen ha hle2) ?_
  refine v_iconst C dX10_copy_8 (v := 0) (by decide) ?_
  refine v_istore_n C dX10_copy_9 rfl (by decide) (lv' := [(2, _), (0, _), (1, _)]) rfl ?_
  obtain ⟨j, r, hj, hr0, hj2, hjr⟩ : ∃ (j : Nat) (r : Nat → Int32), j = 0 ∧ r = g t ∧ j ≤ ln o ∧ ∀ i, i < j → r i = g o i := ⟨0, g t, rfl, rfl, Nat.zero_le _, fun i hi => absurd hi (Nat.not_lt_zero i)⟩
  refine v_x (x' := (f, ar, va_up ln t (ln o), va_up g t r)) (fun H hP => by rw [hr0, up_id rfl]; exact hP) ?_
  refine v_lv (lv' := [(2, .int (nI j)), (0, _), (1, _)]) (by rw [hj]; rfl) ?_
  clear hj hr0
  induction hd : (ln o - j) using Nat.strongRecOn generalizing j r with | _ d ih =>
    refine v_iload_n C dX10_copy_10 (j := 0) rfl rfl ?_
    refine v_aload_n C dX10_copy_11 (j := 1) rfl rfl ?_
    refine v_get C (T := TX10) (ci := 10) (j := 1) dX10_copy_12 wiX10_copy_X10 rfl (by decide) wfX10_copy_15 (fun _ h => h) (T_len' ha (va_up_same _ _ _)) ?_
    refine v_icmp_ge C 36 dX10_copy_15 (by decide) (fun c1 => ?_) (fun c1 => ?_)
    · skip
      have c2 := le_of c1 (by omega) (by omega)
      have hrr := rep_set hr2 ha (m := ln o) (r := r) (s' := u0) (by rw [es2]; exact sl_congr (fun i hi => hjr i (by omega))) (fun i hi => by rw [hjr i (by omega)]; exact hr2.2 o b i hb hi)
      refine v_close hrr ?_
      exact v_return C dX10_copy_36 hr (Nat.le_of_ble_eq_true rfl) (Nat.le_of_ble_eq_true rfl) (rfl)
    · skip
      have c2 := lt_ofn c1 (by omega) (by omega)
      refine v_aload_n C dX10_copy_18 (j := 1) rfl rfl ?_
      refine v_get C (T := TX10) (ci := 10) (j := 0) dX10_copy_19 wiX10_copy_X10 rfl (by decide) wfX10_copy_9 (fun _ h => h) (T_sig ha) ?_
      refine v_iload_n C dX10_copy_22 (j := 0) rfl rfl ?_
      refine v_aload_n C dX10_copy_23 (j := 2) rfl rfl ?_
      refine v_get C (T := TX10) (ci := 10) (j := 0) dX10_copy_24 wiX10_copy_X10 rfl (by decide) wfX10_copy_9 (fun _ h => h) (T_sig hb) ?_
      refine v_iload_n C dX10_copy_27 (j := 0) rfl rfl ?_
      refine v_cald C dX10_copy_28 0 ht (T_row' hb (va_up_other _ _ _ hto)) (vp_in_nI (by omega) (by decide)) ?_
      rw [nI_clamp (by omega)]
      refine v_cast C dX10_copy_29 0 ht (vp_in_nI (by omega) (by decide)) (T_setrow' ha) ?_
      rw [nI_clamp (by omega), ch_nar (hr2.2 o b j hb c2)]
      refine v_iinc C dX10_copy_30 (j := 0) (v := _ + 1) rfl rfl (by decide) (lv' := [(2, _), (0, _), (1, _)]) rfl ?_
      refine v_goto C 10 dX10_copy_33 (by decide) ?_
      rw [nI_1]
      exact ih (ln o - (j + 1)) (by omega) (j + 1) _ (by omega) (fun i hi => by
        unfold upd
        by_cases hij : i = j
        · rw [if_pos hij, hij]
        · rw [if_neg hij]; exact hjr i (by omega)) rfl
end TW
