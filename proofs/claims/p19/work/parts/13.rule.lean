/-! ===== Rule ===== -/
theorem wfX7_isInRange_25 : Cond.fieldLink RX7 25 "FieldScribe$Rule" (TX7 2).2.1 (TX7 2).2.2.1 ∈ wsX7_isInRange := by decide +kernel
theorem wiX7_isInRange_X7 : ∀ w ∈ u_ws RX7 TX7 5, w ∈ wsX7_isInRange := by decide +kernel
theorem wfX7_isInRange_47 : Cond.fieldLink RX7 47 "FieldScribe$Rule" (TX7 4).2.1 (TX7 4).2.2.1 ∈ wsX7_isInRange := by decide +kernel
theorem wfX7_isInRange_22 : Cond.fieldLink RX7 22 "FieldScribe$Rule" (TX7 1).2.1 (TX7 1).2.2.1 ∈ wsX7_isInRange := by decide +kernel
theorem wfX7_isTrue_18 : Cond.fieldLink RX7 18 "FieldScribe$Rule" (TX7 0).2.1 (TX7 0).2.2.1 ∈ wsX7_isTrue := by decide +kernel
theorem wiX7_isTrue_X7 : ∀ w ∈ u_ws RX7 TX7 5, w ∈ wsX7_isTrue := by decide +kernel
theorem wfX7_isTrue_22 : Cond.fieldLink RX7 22 "FieldScribe$Rule" (TX7 1).2.1 (TX7 1).2.2.1 ∈ wsX7_isTrue := by decide +kernel
theorem wfX7_isTrue_25 : Cond.fieldLink RX7 25 "FieldScribe$Rule" (TX7 2).2.1 (TX7 2).2.2.1 ∈ wsX7_isTrue := by decide +kernel
/-- is the pattern true, and is the range open then -/
def patB (pat a b : Int32) (op : Bool) (F : Nat → List Int32) : Bool := if pat = 1 then sameN (F a.toNatClampNeg) b else if pat = 2 then lessT (F a.toNatClampNeg) (F b.toNatClampNeg) else if pat = 3 then (op || sameN (F 1) a) else true
def patO (pat a b : Int32) (op : Bool) (F : Nat → List Int32) : Bool := if pat = 3 then (if (op || sameN (F 1) a) = true then !(sameN (F 1) b) else op) else op
def okPat (pat a b : Int32) : Prop := (pat = 1 → ∃ k, k ≤ 12 ∧ a = nI k) ∧ (pat = 2 → (∃ k, k ≤ 12 ∧ a = nI k) ∧ ∃ k, k ≤ 12 ∧ b = nI k)
def ruE (pat a b : Int32) (acts : Nat) (op : Bool) : Option va_E := some (.inr (7, [.int pat, .int a, .int b, .ref acts, .int (bI op)]))
theorem bI_not (b : Bool) : bI (!b) = if bI b = 0 then 1 else 0 := by cases b <;> rfl
section RU
variable {l : Launch} {D : va_G} {tys : List (ClassId × FieldType)} {z0 : Nat} {A : Nat → Prop} {cC cT : ClassId} {f : Nat → Option va_E} {T : Nat → Option (List Int32)} {pg wh pa t ru acts : Nat} {pc : Nat → Nat} {sep num pat a b : Int32} {r v : List Int32} {op : Bool}
set_option maxRecDepth 100000 in
set_option maxHeartbeats 4000000 in
theorem k_isInRange (ht : tys[0]? = some (cC, .char)) (hru : f ru = ruE pat a b acts op) (hT : T t = some v) : ct D tys z0 A (picF D cC A) l yX7_isInRange wsX7_isInRange (rmL 3 67) [.ref ru, .ref t] (f, T) (qI (picF D cC A) A (fun q x => x = (va_up f ru (ruE pat a b acts (if (op || sameN v a) = true then !(sameN v b) else op)), T) ∧ q = bI (op || sameN v a))) := by
  refine ct_of RX7 (by decide +kernel) rfl rfl (Nat.le_of_ble_eq_true rfl) ?_
  intro p e s m below meth c C hr hm
  refine v_lv (lv' := [(0, _), (1, _)]) rfl ?_
  refine v_cut0 (pcj := 20) (lvj := [(0, .ref ru), (1, .ref t)]) (stj := []) ((op || sameN v a) = true) (fun hw => ?_) (fun K => ?_)
  · skip
    refine v_aload_n C dX7_isInRange_20 (j := 0) rfl rfl ?_
    refine v_aload_n C dX7_isInRange_21 (j := 1) rfl rfl ?_
    refine v_aload_n C dX7_isInRange_22 (j := 0) rfl rfl ?_
    refine v_get C (T := TX7) (ci := 7) (j := 2) dX7_isInRange_23 wiX7_isInRange_X7 rfl (by decide) wfX7_isInRange_25 (fun _ h => h) (FF_get hru rfl) ?_
    refine v_ci (v_runV C (k_isSameAs ht hT b) (cwV 1 C.1.2.2.2.2 gX7_isInRange_X10_isSameAs rfl rfl rfl (by decide +kernel) ⟨Nat.le_of_ble_eq_true rfl, Nat.le_of_ble_eq_true rfl⟩) rfl rfl (FF_txt hT) dX7_isInRange_26 (rest := [_]) (Nat.le_of_ble_eq_true rfl) rfl ⟨Nat.le_of_ble_eq_true rfl, Nat.le_of_ble_eq_true rfl⟩) (fun q x' hx' => ?_)
    obtain ⟨rfl, rfl⟩ := hx'
    refine v_cut (pcj := 37) (lvj := [(0, .ref ru), (1, .ref t)]) (stj := [.ref ru]) (fun w => w = bI (!(sameN v b))) (fun w hw => ?_) (fun K => ?_)
    · skip
      subst hw
      refine v_put C (T := TX7) (ci := 7) (j := 4) (ty := .boolean) dX7_isInRange_37 wiX7_isInRange_X7 tyX7 tyX7_ok nmX7 rfl (by decide) wfX7_isInRange_47 (fun _ h => h) rfl rfl (bI_nar _) ((by cases (sameN v b) <;> rfl)) (FF_put hru (Nat.le_of_ble_eq_true rfl)) ?_
      refine v_iconst C dX7_isInRange_40 (v := 1) (by decide) ?_
      exact v_ireturn C dX7_isInRange_41 hr (rfl) (Nat.le_of_ble_eq_true rfl) (Nat.le_of_ble_eq_true rfl) (⟨by rw [if_pos hw]; rfl, bI_t hw⟩)
    · skip
      refine v_if_ne C 36 dX7_isInRange_29 (by decide) (fun c1 => ?_) (fun c1 => ?_)
      · skip
        refine v_iconst C dX7_isInRange_36 (v := 0) (by decide) ?_
        exact K _ (by rw [bI_not, if_neg c1])
      · skip
        refine v_iconst C dX7_isInRange_32 (v := 1) (by decide) ?_
        refine v_goto C 37 dX7_isInRange_33 (by decide) ?_
        exact K _ (by rw [bI_not, if_pos c1])
  · skip
    refine v_aload_n C dX7_isInRange_0 (j := 0) rfl rfl ?_
    refine v_get C (T := TX7) (ci := 7) (j := 4) dX7_isInRange_1 wiX7_isInRange_X7 rfl (by decide) wfX7_isInRange_47 (fun _ h => h) (FF_get hru rfl) ?_
    refine v_if_ne C 20 dX7_isInRange_4 (by decide) (fun c1 => ?_) (fun c1 => ?_)
    · skip
      exact K (by rw [bI_1 c1]; rfl)
    · skip
      refine v_aload_n C dX7_isInRange_7 (j := 1) rfl rfl ?_
      refine v_aload_n C dX7_isInRange_8 (j := 0) rfl rfl ?_
      refine v_get C (T := TX7) (ci := 7) (j := 1) dX7_isInRange_9 wiX7_isInRange_X7 rfl (by decide) wfX7_isInRange_22 (fun _ h => h) (FF_get hru rfl) ?_
      refine v_ci (v_runV C (k_isSameAs ht hT a) (cwV 1 C.1.2.2.2.2 gX7_isInRange_X10_isSameAs rfl rfl rfl (by decide +kernel) ⟨Nat.le_of_ble_eq_true rfl, Nat.le_of_ble_eq_true rfl⟩) rfl rfl (FF_txt hT) dX7_isInRange_12 (rest := []) (Nat.le_of_ble_eq_true rfl) rfl ⟨Nat.le_of_ble_eq_true rfl, Nat.le_of_ble_eq_true rfl⟩) (fun q x' hx' => ?_)
      obtain ⟨rfl, rfl⟩ := hx'
      refine v_if_ne C 20 dX7_isInRange_15 (by decide) (fun c2 => ?_) (fun c2 => ?_)
      · skip
        exact K (by rw [bI_1 c2, Bool.or_true])
      · skip
        have e1 : (op || sameN v a) = false := by rw [bI_0 c1, bI_0 c2]; rfl
        refine v_iconst C dX7_isInRange_18 (v := 0) (by decide) ?_
        exact v_ireturn C dX7_isInRange_19 hr (rfl) (Nat.le_of_ble_eq_true rfl) (Nat.le_of_ble_eq_true rfl) (⟨by rw [if_neg (by rw [e1]; decide), up_id hru], bI_f e1⟩)
set_option maxRecDepth 100000 in
set_option maxHeartbeats 4000000 in
theorem k_isTrue (ht : tys[0]? = some (cC, .char)) (ht4 : tys[4]? = some (cT, .object RX10)) {cnt : Int32} (hO : pgO f cT pg wh pa pc sep cnt num) (hT : pgT T wh pc sep r) (hru : f ru = ruE pat a b acts op) (hok : okPat pat a b) :
    ct D tys z0 A (picF D cC A) l yX7_isTrue wsX7_isTrue (rmL 4 88) [.ref ru, .ref pg] (f, T) (qI (picF D cC A) A (fun q x => x = (va_up f ru (ruE pat a b acts (patO pat a b op (fld sep r))), T) ∧ q = bI (patB pat a b op (fld sep r)))) := by
  refine ct_of RX7 (by decide +kernel) rfl rfl (Nat.le_of_ble_eq_true rfl) ?_
  intro p e s m below meth c C hr hm
  refine v_lv (lv' := [(0, _), (1, _)]) rfl ?_
  have hgt : ∀ k, k ≤ 12 → T (if k = 0 then wh else pc (k - 1)) = some (fld sep r k) := fun k hk => by
    by_cases h0 : k = 0
    · rw [if_pos h0, h0]; exact hT.1
    · rw [if_neg h0, hT.2 (k - 1) (by omega), Nat.sub_add_cancel (by omega)]
  by_cases h1 : pat = 1
  · skip
    obtain ⟨k, hk, e1⟩ := hok.1 h1
    refine v_aload_n C dX7_isTrue_0 (j := 0) rfl rfl ?_
    refine v_get C (T := TX7) (ci := 7) (j := 0) dX7_isTrue_1 wiX7_isTrue_X7 rfl (by decide) wfX7_isTrue_18 (fun _ h => h) (FF_get hru rfl) ?_
    refine v_tabIn C 32 dX7_isTrue_4 (off := 28) (by rw [h1]; decide) (by rw [h1]; decide) (by rw [h1]; rfl) (by decide) ?_
    refine v_aload_n C dX7_isTrue_32 (j := 1) rfl rfl ?_
    refine v_aload_n C dX7_isTrue_33 (j := 0) rfl rfl ?_
    refine v_get C (T := TX7) (ci := 7) (j := 1) dX7_isTrue_34 wiX7_isTrue_X7 rfl (by decide) wfX7_isTrue_22 (fun _ h => h) (FF_get hru rfl) ?_
    rw [e1]
    refine v_cr (v_runV C (k_pget ht4 hO hk) (cwV 1 C.1.2.2.2.2 gX7_isTrue_X4_get rfl rfl rfl (by decide +kernel) ⟨Nat.le_of_ble_eq_true rfl, Nat.le_of_ble_eq_true rfl⟩) rfl rfl ((FF_get hO.1 (k := 0) rfl).gC) dX7_isTrue_37 (rest := []) (Nat.le_of_ble_eq_true rfl) rfl ⟨Nat.le_of_ble_eq_true rfl, Nat.le_of_ble_eq_true rfl⟩) (fun q x' hx' => ?_)
    obtain ⟨rfl, rfl⟩ := hx'
    refine v_aload_n C dX7_isTrue_40 (j := 0) rfl rfl ?_
    refine v_get C (T := TX7) (ci := 7) (j := 2) dX7_isTrue_41 wiX7_isTrue_X7 rfl (by decide) wfX7_isTrue_25 (fun _ h => h) (FF_get hru rfl) ?_
    refine v_ci (v_runV C (k_isSameAs ht (hgt k hk) b) (cwV 1 C.1.2.2.2.2 gX7_isTrue_X10_isSameAs rfl rfl rfl (by decide +kernel) ⟨Nat.le_of_ble_eq_true rfl, Nat.le_of_ble_eq_true rfl⟩) rfl rfl (FF_txt (hgt k hk)) dX7_isTrue_44 (rest := []) (Nat.le_of_ble_eq_true rfl) rfl ⟨Nat.le_of_ble_eq_true rfl, Nat.le_of_ble_eq_true rfl⟩) (fun q x' hx' => ?_)
    obtain ⟨rfl, rfl⟩ := hx'
    exact v_ireturn C dX7_isTrue_47 hr (bI_nar _) (Nat.le_of_ble_eq_true rfl) (Nat.le_of_ble_eq_true rfl) (⟨by unfold patO; rw [if_neg (by rw [h1]; decide), up_id (by rw [← e1]; exact hru)], by unfold patB; rw [if_pos h1, nI_clamp (by omega)]⟩)
  · skip
    by_cases h2 : pat = 2
    · skip
      obtain ⟨⟨k, hk, e1⟩, k2, hk2, e2⟩ := hok.2 h2
      refine v_aload_n C dX7_isTrue_0 (j := 0) rfl rfl ?_
      refine v_get C (T := TX7) (ci := 7) (j := 0) dX7_isTrue_1 wiX7_isTrue_X7 rfl (by decide) wfX7_isTrue_18 (fun _ h => h) (FF_get hru rfl) ?_
      refine v_tabIn C 48 dX7_isTrue_4 (off := 44) (by rw [h2]; decide) (by rw [h2]; decide) (by rw [h2]; rfl) (by decide) ?_
      refine v_aload_n C dX7_isTrue_48 (j := 1) rfl rfl ?_
      refine v_aload_n C dX7_isTrue_49 (j := 0) rfl rfl ?_
      refine v_get C (T := TX7) (ci := 7) (j := 1) dX7_isTrue_50 wiX7_isTrue_X7 rfl (by decide) wfX7_isTrue_22 (fun _ h => h) (FF_get hru rfl) ?_
      rw [e1]
      refine v_cr (v_runV C (k_pget ht4 hO hk) (cwV 1 C.1.2.2.2.2 gX7_isTrue_X4_get rfl rfl rfl (by decide +kernel) ⟨Nat.le_of_ble_eq_true rfl, Nat.le_of_ble_eq_true rfl⟩) rfl rfl ((FF_get hO.1 (k := 0) rfl).gC) dX7_isTrue_53 (rest := []) (Nat.le_of_ble_eq_true rfl) rfl ⟨Nat.le_of_ble_eq_true rfl, Nat.le_of_ble_eq_true rfl⟩) (fun q x' hx' => ?_)
      obtain ⟨rfl, rfl⟩ := hx'
      refine v_aload_n C dX7_isTrue_56 (j := 1) rfl rfl ?_
      refine v_aload_n C dX7_isTrue_57 (j := 0) rfl rfl ?_
      refine v_get C (T := TX7) (ci := 7) (j := 2) dX7_isTrue_58 wiX7_isTrue_X7 rfl (by decide) wfX7_isTrue_25 (fun _ h => h) (FF_get hru rfl) ?_
      rw [e2]
      refine v_cr (v_runV C (k_pget ht4 hO hk2) (cwV 1 C.1.2.2.2.2 gX7_isTrue_X4_get rfl rfl rfl (by decide +kernel) ⟨Nat.le_of_ble_eq_true rfl, Nat.le_of_ble_eq_true rfl⟩) rfl rfl ((FF_get hO.1 (k := 0) rfl).gC) dX7_isTrue_61 (rest := [_]) (Nat.le_of_ble_eq_true rfl) rfl ⟨Nat.le_of_ble_eq_true rfl, Nat.le_of_ble_eq_true rfl⟩) (fun q x' hx' => ?_)
      obtain ⟨rfl, rfl⟩ := hx'
      refine v_ci (v_runV C (k_isLessThan ht (hgt k hk) (hgt k2 hk2)) (cwV 1 C.1.2.2.2.2 gX7_isTrue_X10_isLessThan rfl rfl rfl (by decide +kernel) ⟨Nat.le_of_ble_eq_true rfl, Nat.le_of_ble_eq_true rfl⟩) rfl rfl (FF_txt (hgt k hk)) dX7_isTrue_64 (rest := []) (Nat.le_of_ble_eq_true rfl) rfl ⟨Nat.le_of_ble_eq_true rfl, Nat.le_of_ble_eq_true rfl⟩) (fun q x' hx' => ?_)
      obtain ⟨rfl, rfl⟩ := hx'
      exact v_ireturn C dX7_isTrue_67 hr (bI_nar _) (Nat.le_of_ble_eq_true rfl) (Nat.le_of_ble_eq_true rfl) (⟨by unfold patO; rw [if_neg (by rw [h2]; decide), up_id (by rw [← e1, ← e2]; exact hru)], by unfold patB; rw [if_neg h1, if_pos h2, nI_clamp (by omega), nI_clamp (by omega)]⟩)
    · skip
      by_cases h3 : pat = 3
      · skip
        refine v_aload_n C dX7_isTrue_0 (j := 0) rfl rfl ?_
        refine v_get C (T := TX7) (ci := 7) (j := 0) dX7_isTrue_1 wiX7_isTrue_X7 rfl (by decide) wfX7_isTrue_18 (fun _ h => h) (FF_get hru rfl) ?_
        refine v_tabIn C 68 dX7_isTrue_4 (off := 64) (by rw [h3]; decide) (by rw [h3]; decide) (by rw [h3]; rfl) (by decide) ?_
        refine v_aload_n C dX7_isTrue_68 (j := 0) rfl rfl ?_
        refine v_aload_n C dX7_isTrue_69 (j := 1) rfl rfl ?_
        refine v_iconst C dX7_isTrue_70 (v := 1) (by decide) ?_
        refine v_int (b := nI 1) rfl ?_
        refine v_cr (v_runV C (k_pget ht4 hO (k := 1) (by omega)) (cwV 1 C.1.2.2.2.2 gX7_isTrue_X4_get rfl rfl rfl (by decide +kernel) ⟨Nat.le_of_ble_eq_true rfl, Nat.le_of_ble_eq_true rfl⟩) rfl rfl ((FF_get hO.1 (k := 0) rfl).gC) dX7_isTrue_71 (rest := [_]) (Nat.le_of_ble_eq_true rfl) rfl ⟨Nat.le_of_ble_eq_true rfl, Nat.le_of_ble_eq_true rfl⟩) (fun q x' hx' => ?_)
        obtain ⟨rfl, rfl⟩ := hx'
        refine v_ci (v_runV C (k_isInRange ht hru (hgt 1 (by omega))) (cwV 1 C.1.2.2.2.2 gX7_isTrue_X7_isInRange rfl rfl rfl (by decide +kernel) ⟨Nat.le_of_ble_eq_true rfl, Nat.le_of_ble_eq_true rfl⟩) rfl rfl ((FF_get hru (k := 0) rfl).gC) dX7_isTrue_74 (rest := []) (Nat.le_of_ble_eq_true rfl) rfl ⟨Nat.le_of_ble_eq_true rfl, Nat.le_of_ble_eq_true rfl⟩) (fun q x' hx' => ?_)
        obtain ⟨rfl, rfl⟩ := hx'
        exact v_ireturn C dX7_isTrue_77 hr (bI_nar _) (Nat.le_of_ble_eq_true rfl) (Nat.le_of_ble_eq_true rfl) (⟨by unfold patO; rw [if_pos h3], by unfold patB; rw [if_neg h1, if_neg h2, if_pos h3]⟩)
      · skip
        refine v_aload_n C dX7_isTrue_0 (j := 0) rfl rfl ?_
        refine v_get C (T := TX7) (ci := 7) (j := 0) dX7_isTrue_1 wiX7_isTrue_X7 rfl (by decide) wfX7_isTrue_18 (fun _ h => h) (FF_get hru rfl) ?_
        refine v_tabOut C 78 dX7_isTrue_4 (by have q1 := i32_ne h1; have q2 := i32_ne h2; have q3 := i32_ne h3; rw [show (1 : Int32).toInt = 1 from rfl] at q1; rw [show (2 : Int32).toInt = 2 from rfl] at q2; rw [show (3 : Int32).toInt = 3 from rfl] at q3; omega) (by decide) ?_
        refine v_iconst C dX7_isTrue_78 (v := 1) (by decide) ?_
        exact v_ireturn C dX7_isTrue_79 hr (rfl) (Nat.le_of_ble_eq_true rfl) (Nat.le_of_ble_eq_true rfl) (⟨by unfold patO; rw [if_neg h3, up_id hru], bI_t (by unfold patB; rw [if_neg h1, if_neg h2, if_neg h3])⟩)
end RU
