/-! ===== rule, act ===== -/
theorem wfX11_rule_12 : Cond.fieldLink RX11 12 "FieldScribe" (TX11 0).2.1 (TX11 0).2.2.1 ∈ wsX11_rule := by decide +kernel
theorem wiX11_rule_X11 : ∀ w ∈ u_ws RX11 TX11 9, w ∈ wsX11_rule := by decide +kernel
theorem wiX11_rule_X7 : ∀ w ∈ u_ws RX7 TX7 5, w ∈ wsX11_rule := by decide +kernel
theorem wwX11_rule_cl74 : Cond.classLink RX11 74 RX7 ∈ wsX11_rule := by decide +kernel
theorem wwX11_rule_isX7 : Cond.instantiable RX7 5 ∈ wsX11_rule := by decide +kernel
theorem wwX11_rule_inX7 : Cond.initialized RX7 ∈ wsX11_rule := by decide +kernel
theorem wwX11_rule_in_X7_init : Cond.initialized yX7_init.cls ∈ wsX11_rule := by decide +kernel
theorem wwX11_rule_ml76 : Cond.methodLink RX11 76 yX7_init ∈ wsX11_rule := by decide +kernel
theorem wwX11_rule_im_X7_init : Cond.instanceMethod yX7_init ∈ wsX11_rule := by decide +kernel
theorem wwX11_rule_cl69 : Cond.classLink RX11 69 "java/lang/IllegalStateException" ∈ wsX11_rule := by decide +kernel
theorem wwX11_rule_in_ISE : Cond.initialized "java/lang/IllegalStateException" ∈ wsX11_rule := by decide +kernel
theorem wgX11_rule_ISE : ∀ w ∈ wgISE, w ∈ wsX11_rule := by
  intro w h
  first | exact List.mem_cons_of_mem _ (List.mem_append_right _ h) | exact List.mem_cons_of_mem _ (List.mem_append_left _ (List.mem_append_right _ h)) | exact List.mem_cons_of_mem _ (List.mem_append_left _ (List.mem_append_left _ (List.mem_append_right _ h)))
theorem wwX11_rule_cl58 : Cond.classLink RX11 58 "java/lang/IllegalArgumentException" ∈ wsX11_rule := by decide +kernel
theorem wwX11_rule_in_IAE : Cond.initialized "java/lang/IllegalArgumentException" ∈ wsX11_rule := by decide +kernel
theorem wgX11_rule_IAE : ∀ w ∈ wgIAE, w ∈ wsX11_rule := by
  intro w h
  first | exact List.mem_cons_of_mem _ (List.mem_append_right _ h) | exact List.mem_cons_of_mem _ (List.mem_append_left _ (List.mem_append_right _ h)) | exact List.mem_cons_of_mem _ (List.mem_append_left _ (List.mem_append_left _ (List.mem_append_right _ h)))
theorem wwX11_act_cl83 : Cond.classLink RX11 83 "java/lang/IndexOutOfBoundsException" ∈ wsX11_act := by decide +kernel
theorem wwX11_act_in_IOO : Cond.initialized "java/lang/IndexOutOfBoundsException" ∈ wsX11_act := by decide +kernel
theorem wgX11_act_IOO : ∀ w ∈ wgIOO, w ∈ wsX11_act := by
  intro w h
  first | exact List.mem_cons_of_mem _ (List.mem_append_right _ h) | exact List.mem_cons_of_mem _ (List.mem_append_left _ (List.mem_append_right _ h)) | exact List.mem_cons_of_mem _ (List.mem_append_left _ (List.mem_append_left _ (List.mem_append_right _ h)))
theorem wfX11_act_12 : Cond.fieldLink RX11 12 "FieldScribe" (TX11 0).2.1 (TX11 0).2.2.1 ∈ wsX11_act := by decide +kernel
theorem wiX11_act_X11 : ∀ w ∈ u_ws RX11 TX11 9, w ∈ wsX11_act := by decide +kernel
theorem wwX11_act_cl58 : Cond.classLink RX11 58 "java/lang/IllegalArgumentException" ∈ wsX11_act := by decide +kernel
theorem wwX11_act_in_IAE : Cond.initialized "java/lang/IllegalArgumentException" ∈ wsX11_act := by decide +kernel
theorem wgX11_act_IAE : ∀ w ∈ wgIAE, w ∈ wsX11_act := by
  intro w h
  first | exact List.mem_cons_of_mem _ (List.mem_append_right _ h) | exact List.mem_cons_of_mem _ (List.mem_append_left _ (List.mem_append_right _ h)) | exact List.mem_cons_of_mem _ (List.mem_append_left _ (List.mem_append_left _ (List.mem_append_right _ h)))
theorem wwX11_act_cl74 : Cond.classLink RX11 74 RX7 ∈ wsX11_act := by decide +kernel
theorem wiX11_act_X7 : ∀ w ∈ u_ws RX7 TX7 5, w ∈ wsX11_act := by decide +kernel
theorem wiX11_act_X0 : ∀ w ∈ u_ws RX0 TX0 4, w ∈ wsX11_act := by decide +kernel
theorem wwX11_act_cl108 : Cond.classLink RX11 108 RX0 ∈ wsX11_act := by decide +kernel
theorem wwX11_act_isX0 : Cond.instantiable RX0 4 ∈ wsX11_act := by decide +kernel
theorem wwX11_act_inX0 : Cond.initialized RX0 ∈ wsX11_act := by decide +kernel
theorem wwX11_act_in_X0_init : Cond.initialized yX0_init.cls ∈ wsX11_act := by decide +kernel
theorem wwX11_act_ml118 : Cond.methodLink RX11 118 yX0_init ∈ wsX11_act := by decide +kernel
theorem wwX11_act_im_X0_init : Cond.instanceMethod yX0_init ∈ wsX11_act := by decide +kernel
theorem wwX11_act_cl69 : Cond.classLink RX11 69 "java/lang/IllegalStateException" ∈ wsX11_act := by decide +kernel
theorem wwX11_act_in_ISE : Cond.initialized "java/lang/IllegalStateException" ∈ wsX11_act := by decide +kernel
theorem wgX11_act_ISE : ∀ w ∈ wgISE, w ∈ wsX11_act := by
  intro w h
  first | exact List.mem_cons_of_mem _ (List.mem_append_right _ h) | exact List.mem_cons_of_mem _ (List.mem_append_left _ (List.mem_append_right _ h)) | exact List.mem_cons_of_mem _ (List.mem_append_left _ (List.mem_append_left _ (List.mem_append_right _ h)))
theorem alI.lb {f f' : Nat → Option va_E} {z0 : Nat} {cO : ClassId} {al ea m : Nat} {xs : List Nat} {lf : Nat → Nat} (h : alI f z0 cO al ea xs) (h1 : lf al = m) (h2 : xs ≠ [] → lf ea = m) (k : ∀ p, lf p = m → f p ≠ none → f' p = f p) : alI f' z0 cO al ea xs := by
  obtain ⟨⟨mc, g1⟩, g2, g3⟩ := h
  refine ⟨⟨mc, by rw [k al h1 (by rw [g1]; intro z; cases z)]; exact g1⟩, g2, ?_⟩
  split
  · rename_i hx; rw [if_pos hx] at g3; exact g3
  · rename_i hx
    rw [if_neg hx] at g3
    obtain ⟨rf, g4, g5⟩ := g3
    exact ⟨rf, by rw [k ea (h2 hx) (by rw [g4]; intro z; cases z)]; exact g4, g5⟩
theorem alI.some {f : Nat → Option va_E} {z0 : Nat} {cO : ClassId} {al ea : Nat} {xs : List Nat} (h : alI f z0 cO al ea xs) : f al ≠ none ∧ (xs ≠ [] → f ea ≠ none) := by
  obtain ⟨⟨mc, g1⟩, g2, g3⟩ := h
  refine ⟨(by rw [g1]; intro z; cases z), fun hx => ?_⟩
  rw [if_neg hx] at g3
  obtain ⟨rf, g4, g5⟩ := g3
  rw [g4]; intro z; cases z
theorem acI.lab {f : Nat → Option va_E} {T : Nat → Option (List Int32)} {cI : ClassId} {lab lab' : Nat → Nat} {ac : Nat} {c : Ac} (h : acI f T cI lab ac c) (hl : ∀ p, lab p = 9 → lab' p = 9) : acI f T cI lab' ac c := by
  obtain ⟨tr, cd, sc, h1, h2, h3, h4, h5, h6, h7, h8⟩ := h
  exact ⟨tr, cd, sc, h1, h2, h3, h4, h5, h6, h7, fun hz => hl _ (h8 hz)⟩
theorem ruI.fr {f f' : Nat → Option va_E} {T T' : Nat → Option (List Int32)} {z0 : Nat} {cI cO : ClassId} {lab lab' lf lf' : Nat → Nat} {m ru : Nat} {R : Rl} {ms : List Nat} (h : ruI f T z0 cI cO lab lf m ru R) (k : kpN [0, 110] f f') (t : lpT lab ms T T') (k2 : ∀ p, lf p = m → f p ≠ none → f' p = f p) (hl : ∀ p, f p ≠ none → lf p = m → lf' p = m) (hb : ∀ p, lab p = 9 → lab' p = 9) : ruI f' T' z0 cI cO lab' lf' m ru R := by
  obtain ⟨als, ae, acs, h1, h2, h3, h4, h5, h6, h7⟩ := h
  have h8 := h4.some
  exact ⟨als, ae, acs, k _ _ h1 (by simp [kdn]), hl _ (by rw [h1]; intro z; cases z) h2, h3, h4.lb h5 h6 k2, hl _ h8.1 h5, fun hx => hl _ (h8.2 hx) (h6 hx), h7.1, fun j hj => ((h7.2 j hj).kp k t (by decide) (by decide) (by decide) (by decide) (by decide)).lab hb⟩
theorem ruI.some {f : Nat → Option va_E} {T : Nat → Option (List Int32)} {z0 : Nat} {cI cO : ClassId} {lab lf : Nat → Nat} {m ru : Nat} {R : Rl} (h : ruI f T z0 cI cO lab lf m ru R) : f ru ≠ none := by
  obtain ⟨als, ae, acs, h1, -⟩ := h
  rw [h1]; intro z; cases z
theorem wI.lab {f : Nat → Option va_E} {T : Nat → Option (List Int32)} {cT cR : ClassId} {a na lab lab' : Nat → Nat} {sep rnum : Int32} {typ : List Int32} {stk : Bool} {w : WS} (h : wI f T cT cR a na lab sep rnum typ stk w) (hL : labI a lab) (hlb : ∀ p, T p ≠ none → lab' p = lab p) : wI f T cT cR a na lab' sep rnum typ stk w ∧ labI a lab' := by
  obtain ⟨h1, h2, ⟨ro, h3, h3a, h3d, h3t, h3l⟩, h4, h5, h6, h7⟩ := h
  obtain ⟨b1, b2, b3, b4, b5, b6, b7, b8, b9⟩ := hL
  have ne : ∀ p, (∃ s, T p = some s) → lab' p = lab p := fun p ⟨s, hs⟩ => hlb p (by rw [hs]; intro z; cases z)
  have h4c := h4
  obtain ⟨st, h4a, h4b, h4t⟩ := h4c
  refine ⟨⟨h1, h2, ⟨ro, h3, h3a, h3d, h3t, fun k hk => ?_⟩, h4, h5, h6, h7⟩, ?_, fun k hk => ?_, ?_, ?_, ?_, ?_, fun k hk => ?_, b8, b9⟩
  · obtain ⟨s, z, e1, e2⟩ := h3t.2.1 k hk
    rw [ne _ ⟨s, e1⟩]; exact h3l k hk
  · rw [ne _ ⟨_, h2.2.1⟩]; exact b1
  · rw [ne _ ⟨_, h2.2.2 k hk⟩]; exact b2 k hk
  · rw [ne _ ⟨_, h6⟩]; exact b3
  · rw [ne _ h7]; exact b4
  · rw [ne _ h5.2.2.1]; exact b5
  · rw [ne _ h5.2.2.2]; exact b6
  · rw [ne _ (h4t.2.2.1 k hk)]; exact b7 k hk
section RA
variable {l : Launch} {D : va_G} {tys : List (ClassId × FieldType)} {z0 : Nat} {A : Nat → Prop} {cC cT cR cI cO : ClassId} {f : Nat → Option va_E} {T : Nat → Option (List Int32)} {a na lab lf : Nat → Nat} {sep rnum : Int32} {typ : List Int32} {stk : Bool} {w : WS} {rls : List Rl}
theorem isPat_ok {pat a0 b0 : Int32} (h : isPat pat a0 b0 = true) : okPat pat a0 b0 := by
  unfold isPat at h
  refine ⟨fun h1 => ?_, fun h1 => ?_⟩
  · rw [if_neg (by rw [h1]; decide), if_pos h1, Bool.and_eq_true] at h; exact isFd_nI h.1
  · rw [if_neg (by rw [h1]; decide), if_neg (by rw [h1]; decide), if_pos h1, Bool.and_eq_true] at h; exact ⟨isFd_nI h.1, isFd_nI h.2⟩
set_option maxRecDepth 100000 in
set_option maxHeartbeats 8000000 in
theorem k_rule (hl : l.stackTraces = false) (ht5 : tys[5]? = some (cO, .object "java/lang/Object")) (hW : wI f T cT cR a na lab sep rnum typ stk w) (hL : labI a lab) (hR : rI f T z0 cI cO lab lf (a 1) rls) (pat a0 b0 : Int32) : cX D tys z0 A (picF D cC A) l yX11_rule wsX11_rule ({ frames := 8, cells := 3, slots := 18, locals := 224 } : Room) [.ref (a 0), .int pat, .int a0, .int b0] (f, T) (qI (picF D cC A) A (fun q x => ∃ f' lf', x = (f', T) ∧ isPat pat a0 b0 = true ∧ rls.length < 8 ∧ q = nI rls.length ∧ wI f' T cT cR a na lab sep rnum typ stk w ∧ rI f' T z0 cI cO lab lf' (a 1) (rls ++ [((pat, a0, b0), false, [])]))) (fun E x => x = (f, T) ∧ ((E = xIAE ∧ isPat pat a0 b0 = false) ∨ (E = xISE ∧ isPat pat a0 b0 = true ∧ 8 ≤ rls.length))) := by
  have hW2 := hW
  obtain ⟨h1, -⟩ := hW2
  have hR2 := hR
  obtain ⟨pe, rus, r1, r2, r3, r4, r5⟩ := hR2
  have r1b := r1
  obtain ⟨⟨mc9, r6⟩, r7, -⟩ := r1b
  refine cX_of RX11 (by decide +kernel) rfl rfl (Nat.le_of_ble_eq_true rfl) ?_
  intro p e s m below meth c C hr hex
  refine v_lv (lv' := [(0, _), (1, _), (2, _), (3, _)]) rfl ?_
  refine v_iload_n C dX11_rule_0 (j := 1) rfl rfl ?_
  refine v_iload_n C dX11_rule_1 (j := 2) rfl rfl ?_
  refine v_iload_n C dX11_rule_2 (j := 3) rfl rfl ?_
  refine v_ci (v_runS C (k_isPattern pat a0 b0) (va_cwS 3 C.1.2.2.2.2 gX11_rule_X11_isPattern rfl rfl rfl (by decide +kernel) ⟨Nat.le_of_ble_eq_true rfl, Nat.le_of_ble_eq_true rfl⟩) rfl dX11_rule_3 (rest := []) (Nat.le_of_ble_eq_true rfl) rfl ⟨(by first | exact Nat.le_of_ble_eq_true rfl | (dsimp only; omega)), (by first | exact Nat.le_of_ble_eq_true rfl | (dsimp only; omega))⟩) (fun q x' hx' => ?_)
  obtain ⟨rfl, rfl⟩ := hx'
  refine v_if_ne C 19 dX11_rule_6 (by decide) (fun c1 => ?_) (fun c1 => ?_)
  · skip
    have hp := bI_1 c1
    refine v_aload_n C dX11_rule_19 (j := 0) rfl rfl ?_
    refine v_get C (T := TX11) (ci := 11) (j := 0) dX11_rule_20 wiX11_rule_X11 rfl (by decide) wfX11_rule_12 (fun _ h => h) (FF_get h1 rfl) ?_
    refine v_ci (v_runV C (k_lsize r1) (cwV 0 C.1.2.2.2.2 gX11_rule_Jx4a65c_size_8abf5 rfl rfl rfl (by decide +kernel) ⟨Nat.le_of_ble_eq_true rfl, Nat.le_of_ble_eq_true rfl⟩) rfl rfl ((FF_get r6 (k := 0) rfl).gC) dX11_rule_23 (rest := []) (Nat.le_of_ble_eq_true rfl) rfl ⟨(by first | exact Nat.le_of_ble_eq_true rfl | (dsimp only; omega)), (by first | exact Nat.le_of_ble_eq_true rfl | (dsimp only; omega))⟩) (fun q x' hx' => ?_)
    obtain ⟨rfl, rfl⟩ := hx'
    refine v_bipush C dX11_rule_26 (v := 8) (by decide) ?_
    refine v_icmp_lt C 41 dX11_rule_28 (by decide) (fun c2 => ?_) (fun c2 => ?_)
    · skip
      have c3 : rus.length < 8 := lt_of (b := 8) c2 (by omega) (by decide)
      refine v_aload_n C dX11_rule_41 (j := 0) rfl rfl ?_
      refine v_get C (T := TX11) (ci := 11) (j := 0) dX11_rule_42 wiX11_rule_X11 rfl (by decide) wfX11_rule_12 (fun _ h => h) (FF_get h1 rfl) ?_
      refine v_new C (T := TX7) (ci := 7) dX11_rule_45 wiX11_rule_X7 tyX7 tyX7_ok wwX11_rule_cl74 wwX11_rule_isX7 wwX11_rule_inX7 rfl (by decide) (by first | exact Nat.le_of_ble_eq_true rfl | (dsimp only; omega)) (by first | exact Nat.le_of_ble_eq_true rfl | (dsimp only; omega)) (FF_new (.inr (7, [.int 0, .int 0, .int 0, .null, .int 0]))) (fun ru hu => ?_)
      refine v_dup C dX11_rule_48 rfl ?_
      refine v_iload_n C dX11_rule_49 (j := 1) rfl rfl ?_
      refine v_iload_n C dX11_rule_50 (j := 2) rfl rfl ?_
      refine v_iload_n C dX11_rule_51 (j := 3) rfl rfl ?_
      refine v_cv (v_runI C (k_ruinit (va_up_same _ _ _) pat a0 b0) (cwI 3 C.1.2.2.2.2 gX11_rule_X7_init rfl rfl rfl (C.1.2.2.2.2 _ wwX11_rule_in_X7_init) (C.1.2.2.2.2 _ wwX11_rule_ml76) (C.1.2.2.2.2 _ wwX11_rule_im_X7_init) rfl (by decide +kernel) ⟨Nat.le_of_ble_eq_true rfl, Nat.le_of_ble_eq_true rfl⟩) rfl dX11_rule_52 (rest := [_, _]) (Nat.le_of_ble_eq_true rfl) rfl ⟨(by first | exact Nat.le_of_ble_eq_true rfl | (dsimp only; omega)), (by first | exact Nat.le_of_ble_eq_true rfl | (dsimp only; omega))⟩) (fun x' hx' => ?_)
      obtain ⟨al, e1, e2, rfl⟩ := hx'
      have rual : al ≠ ru := fun z => by rw [z, va_up_same] at e1; cases e1
      have fal : f al = none := by rw [va_up_other _ _ _ rual] at e1; exact e1
      obtain ⟨f2, hf2⟩ : ∃ f2, f2 = va_up (va_up (va_up f ru (some (.inr (7, [.int 0, .int 0, .int 0, .null, .int 0])))) al (alE 0 (some z0) 0)) ru (ruE pat a0 b0 al false) := ⟨_, rfl⟩
      refine v_x (x' := (f2, T)) (fun H hP => by rw [hf2]; exact hP) ?_
      have x2 : ∀ p, f p ≠ none → f2 p = f p := fun p hp => by
          have p1 : p ≠ ru := fun z => hp (by rw [z]; exact hu.1)
          have p2 : p ≠ al := fun z => hp (by rw [z]; exact fal)
          rw [hf2, va_up_other _ _ _ p1, va_up_other _ _ _ p2, va_up_other _ _ _ p1]
      have k2 : kpN [] f f2 := fun p e hp _ => by rw [x2 p (by rw [hp]; intro z; cases z)]; exact hp
      have hal2 : f2 al = alE 0 (some z0) 0 := by rw [hf2, va_up_other _ _ _ rual, va_up_same]
      have hru2 : f2 ru = ruE pat a0 b0 al false := by rw [hf2, va_up_same]
      have r1' := r1.kp k2 (by decide) (by decide)
      have hpr2 : a 1 ≠ ru := fun z => by have := r1.some.1; rw [z, hu.1] at this; exact this rfl
      refine v_ci (v_runV C (k_ladd ht5 r1' (by omega) (r := (RX7, TX7, 5)) (ci := 7) rfl ⟨_, hru2⟩ (Ne.symm hpr2) 15 rfl) (cwV 1 C.1.2.2.2.2 gX11_rule_Jx4a65c_add_9ea2d rfl rfl rfl (by decide +kernel) ⟨Nat.le_of_ble_eq_true rfl, Nat.le_of_ble_eq_true rfl⟩) rfl rfl ((FF_get (k2 _ _ r6 (by simp)) (k := 0) rfl).gC) dX11_rule_55 (rest := []) (Nat.le_of_ble_eq_true rfl) rfl ⟨(by first | exact Nat.le_of_ble_eq_true rfl | (dsimp only; omega)), (by first | exact Nat.le_of_ble_eq_true rfl | (dsimp only; omega))⟩) (fun q x' hx' => ?_)
      obtain ⟨f3, rfl, ea, e3, e4, e5⟩ := hx'
      have k3 : kpN [0, 110] f f3 := fun p e hp hn => by
          have p1 : p ≠ a 1 := fun z => hn (by rw [z, r6] at hp; cases hp; simp [kdn])
          have p2 : p ≠ ea := fun z => by
              rcases e4 with ⟨q1, q2⟩ | ⟨q1, q2, q3⟩
              · obtain ⟨-, -, g9⟩ := r1
                rw [if_neg q2] at g9
                obtain ⟨rf9, g9, -⟩ := g9
                rw [z, q1, g9] at hp; cases hp; exact hn (by simp [kdn])
              · rw [← z, x2 p (by rw [hp]; intro z; cases z), hp] at q2; cases q2
          rw [e5 p p1 p2, x2 p (by rw [hp]; intro z; cases z)]; exact hp
      have hea : f ea ≠ none → lf ea = 0 := fun hz => by
          rcases e4 with ⟨q1, q2⟩ | ⟨q1, q2, q3⟩
          · rw [q1]; exact r3 q2
          · rw [x2 ea hz] at q2; exact absurd q2 hz
      have hruea : ru ≠ ea := fun z => by
          rcases e4 with ⟨q1, q2⟩ | ⟨q1, q2, q3⟩
          · have := r1.some.2 q2; rw [← q1, ← z] at this; exact this hu.1
          · rw [← z, hru2] at q2; cases q2
      have halea : al ≠ ea := fun z => by
          rcases e4 with ⟨q1, q2⟩ | ⟨q1, q2, q3⟩
          · have := r1.some.2 q2; rw [← q1, ← z] at this; exact this fal
          · rw [← z, hal2] at q2; cases q2
      have hpral : a 1 ≠ al := fun z => by have := r1.some.1; rw [z, fal] at this; exact this rfl
      have hlf : ∀ p, f p ≠ none → va_up (va_up (va_up lf ru (rus.length + 1)) al (rus.length + 1)) ea 0 p = lf p := fun p hp => by
          have p1 : p ≠ ru := fun z => hp (by rw [z]; exact hu.1)
          have p2 : p ≠ al := fun z => hp (by rw [z]; exact fal)
          by_cases p3 : p = ea
          · rw [p3, va_up_same]; rw [p3] at hp; exact (hea hp).symm
          · rw [va_up_other _ _ _ p3, va_up_other _ _ _ p2, va_up_other _ _ _ p1]
      refine v_pop C dX11_rule_58 rfl ?_
      refine v_aload_n C dX11_rule_59 (j := 0) rfl rfl ?_
      have e3b := e3
      obtain ⟨⟨mc8, r8⟩, -⟩ := e3b
      refine v_get C (T := TX11) (ci := 11) (j := 0) dX11_rule_60 wiX11_rule_X11 rfl (by decide) wfX11_rule_12 (fun _ h => h) (FF_get (k3 _ _ h1 (by simp [kdn])) rfl) ?_
      refine v_ci (v_runV C (k_lsize e3) (cwV 0 C.1.2.2.2.2 gX11_rule_Jx4a65c_size_8abf5 rfl rfl rfl (by decide +kernel) ⟨Nat.le_of_ble_eq_true rfl, Nat.le_of_ble_eq_true rfl⟩) rfl rfl ((FF_get r8 (k := 0) rfl).gC) dX11_rule_63 (rest := []) (Nat.le_of_ble_eq_true rfl) rfl ⟨(by first | exact Nat.le_of_ble_eq_true rfl | (dsimp only; omega)), (by first | exact Nat.le_of_ble_eq_true rfl | (dsimp only; omega))⟩) (fun q x' hx' => ?_)
      obtain ⟨rfl, rfl⟩ := hx'
      refine v_iconst C dX11_rule_66 (v := 1) (by decide) ?_
      refine v_isub C dX11_rule_67 ?_
      refine v_int (b := nI rus.length) (by rw [List.length_append]; exact nI_pred _) ?_
      have hRn : rI f3 T z0 cI cO lab (va_up (va_up (va_up lf ru (rus.length + 1)) al (rus.length + 1)) ea 0) (a 1) (rls ++ [((pat, a0, b0), false, [])]) := by
          refine ⟨ea, rus ++ [ru], e3, by rw [hlf _ r1.some.1]; exact r2, fun _ => va_up_same _ _ _, by simp [r4], fun j hj => ?_⟩
          simp only [List.length_append, List.length_singleton] at hj
          by_cases hjl : j = rus.length
          · subst hjl
            have q1 : (rus ++ [ru]).getD rus.length 0 = ru := by simp [List.getD_eq_getElem?_getD]
            have q2 : (rls ++ [((pat, a0, b0), false, [])]).getD rus.length rl0 = ((pat, a0, b0), false, []) := by rw [r4]; simp [List.getD_eq_getElem?_getD]
            rw [q1, q2]
            refine ⟨al, z0, [], by rw [e5 ru (Ne.symm hpr2) hruea]; exact hru2, by rw [va_up_other _ _ _ hruea, va_up_other _ _ _ (Ne.symm rual), va_up_same], isPat_ok hp, ⟨⟨0, by rw [e5 al (Ne.symm hpral) halea]; exact hal2⟩, by simp, by rw [if_pos rfl]⟩, by rw [va_up_other _ _ _ halea, va_up_same], fun h => absurd rfl h, rfl, fun j hj => absurd hj (Nat.not_lt_zero j)⟩
          · have q1 : (rus ++ [ru]).getD j 0 = rus.getD j 0 := by simp only [List.getD_eq_getElem?_getD]; rw [List.getElem?_append_left (by omega)]
            have q2 : (rls ++ [((pat, a0, b0), false, [])]).getD j rl0 = rls.getD j rl0 := by simp only [List.getD_eq_getElem?_getD]; rw [List.getElem?_append_left (by omega)]
            rw [q1, q2]
            refine (r5 j (by omega)).fr (ms := []) k3 lpT.rf (fun p q3 q4 => ?_) (fun p q3 q4 => by rw [hlf p q3]; exact q4) (fun _ h => h)
            have p1 : p ≠ a 1 := fun z => by rw [z, r2] at q3; cases q3
            have p2 : p ≠ ea := fun z => by rw [z, hea (by rw [← z]; exact q4)] at q3; cases q3
            rw [e5 p p1 p2, x2 p q4]
      refine v_xret ?_
      exact v_ireturn C dX11_rule_68 hr (rfl) (Nat.le_of_ble_eq_true rfl) (Nat.le_of_ble_eq_true rfl) (⟨f3, va_up (va_up (va_up lf ru (rus.length + 1)) al (rus.length + 1)) ea 0, rfl, hp, by omega, by rw [r4], hW.kp hL k3 (lpT.rf (ls := [])) (by decide) (by decide), hRn⟩)
    · skip
      exact v_throwS C hl (text := "there are 8 rules") 18 rfl rfl wwX11_rule_cl69 wwX11_rule_in_ISE (by decide) wgX11_rule_ISE wbISE woISE dX11_rule_31 dX11_rule_34 dX11_rule_35 dX11_rule_37 dX11_rule_40 hex (Nat.le_of_ble_eq_true rfl) (Nat.le_of_ble_eq_true rfl) (Nat.le_of_ble_eq_true rfl) (Nat.le_of_ble_eq_true rfl) (Nat.le_of_ble_eq_true rfl) (Nat.le_of_ble_eq_true rfl) (gS_F) (⟨rfl, Or.inr ⟨rfl, hp, by rw [← r4]; exact le_ofn (b := 8) c2 (by omega) (by decide)⟩⟩)
  · skip
    exact v_throwS C hl (text := "no such pattern") 17 rfl rfl wwX11_rule_cl58 wwX11_rule_in_IAE (by decide) wgX11_rule_IAE wbIAE woIAE dX11_rule_9 dX11_rule_12 dX11_rule_13 dX11_rule_15 dX11_rule_18 hex (Nat.le_of_ble_eq_true rfl) (Nat.le_of_ble_eq_true rfl) (Nat.le_of_ble_eq_true rfl) (Nat.le_of_ble_eq_true rfl) (Nat.le_of_ble_eq_true rfl) (Nat.le_of_ble_eq_true rfl) (gS_F) (⟨rfl, Or.inl ⟨rfl, bI_0 c1⟩⟩)
def isKd (z : Int32) : Bool := decide (0 ≤ z) && decide (z ≤ 4)
theorem isKd_ok {z : Int32} (h : isKd z = true) : z = 0 ∨ z = 1 ∨ z = 2 ∨ z = 3 ∨ z = 4 := by
  unfold isKd at h
  rw [Bool.and_eq_true] at h
  obtain ⟨k, hk, rfl⟩ := nI_of2 (M := 4) (n := 4) rfl (Int32.not_lt.mpr (of_decide_eq_true h.1)) (of_decide_eq_true h.2)
  have : ∀ k : Fin 5, nI k.val = 0 ∨ nI k.val = 1 ∨ nI k.val = 2 ∨ nI k.val = 3 ∨ nI k.val = 4 := by decide
  exact this ⟨k, by omega⟩
theorem isOpd_ok {z : Int32} (h : isOpd z = true) : okOp z := by
  unfold isOpd isNb at h
  unfold okOp
  simp only [Bool.or_eq_true, Bool.and_eq_true, decide_eq_true_eq] at h
  rcases h with ((h | h) | h) | h
  · exact Or.inl h
  · exact Or.inr (Or.inl h)
  · exact Or.inr (Or.inr (Or.inl h))
  · exact Or.inr (Or.inr (Or.inr h))
def isAc (c : Ac) : Bool := isKd c.1 && isFd c.2.1 && (isKd c.2.2.1 && isOpd c.2.2.2.1 && isOpd c.2.2.2.2)
/-- an action more in the rule i -/
def actR (rls : List Rl) (i : Nat) (c : Ac) : List Rl := rls.set i ((rls.getD i rl0).1, (rls.getD i rl0).2.1, (rls.getD i rl0).2.2 ++ [c])
set_option maxRecDepth 100000 in
set_option maxHeartbeats 16000000 in
theorem k_act (hl : l.stackTraces = false) (ht : tys[0]? = some (cC, .char)) (ht1 : tys[1]? = some (cI, .int)) (ht5 : tys[5]? = some (cO, .object "java/lang/Object")) (hW : wI f T cT cR a na lab sep rnum typ stk w) (hL : labI a lab) (hR : rI f T z0 cI cO lab lf (a 1) rls) (z kd fd op x0 y0 : Int32) : cX D tys z0 A (picF D cC A) l yX11_act wsX11_act ({ frames := 8, cells := 8, slots := 88, locals := 224 } : Room) [.ref (a 0), .int z, .int kd, .int fd, .int op, .int x0, .int y0] (f, T) (qI (picF D cC A) A (fun q x => ∃ f' T' lab' lf', x = (f', T') ∧ (0 ≤ z ∧ z < nI rls.length) ∧ isAc (kd, fd, op, x0, y0) = true ∧ (rls.getD z.toNatClampNeg rl0).2.2.length < 6 ∧ q = nI ((rls.getD z.toNatClampNeg rl0).2.2.length + 1) ∧ wI f' T' cT cR a na lab' sep rnum typ stk w ∧ labI a lab' ∧ rI f' T' z0 cI cO lab' lf' (a 1) (actR rls z.toNatClampNeg (kd, fd, op, x0, y0)))) (fun E x => x = (f, T) ∧ ((E = xIOO ∧ ¬ (0 ≤ z ∧ z < nI rls.length)) ∨ (E = xIAE ∧ (0 ≤ z ∧ z < nI rls.length) ∧ isAc (kd, fd, op, x0, y0) = false) ∨ (E = xISE ∧ (0 ≤ z ∧ z < nI rls.length) ∧ isAc (kd, fd, op, x0, y0) = true ∧ 6 ≤ (rls.getD z.toNatClampNeg rl0).2.2.length))) := by
  have hW2 := hW
  obtain ⟨h1, -⟩ := hW2
  have hR2 := hR
  obtain ⟨pe, rus, r1, r2, r3, r4, r5⟩ := hR2
  have r1b := r1
  obtain ⟨⟨mc9, r6⟩, r7, -⟩ := r1b
  refine cX_of RX11 (by decide +kernel) rfl rfl (Nat.le_of_ble_eq_true rfl) ?_
  intro p e s m below meth c C hr hex
  refine v_lv (lv' := [(0, _), (1, _), (2, _), (3, _), (4, _), (5, _), (6, _)]) rfl ?_
  refine v_cut0 (pcj := 15) (lvj := []) (stj := []) (¬ (0 ≤ z ∧ z < nI rls.length)) (fun hw => ?_) (fun K => ?_)
  · skip
    exact v_throwS C hl (text := "no such rule") 19 rfl rfl wwX11_act_cl83 wwX11_act_in_IOO (by decide) wgX11_act_IOO wbIOO woIOO dX11_act_15 dX11_act_18 dX11_act_19 dX11_act_21 dX11_act_24 hex (Nat.le_of_ble_eq_true rfl) (Nat.le_of_ble_eq_true rfl) (Nat.le_of_ble_eq_true rfl) (Nat.le_of_ble_eq_true rfl) (Nat.le_of_ble_eq_true rfl) (Nat.le_of_ble_eq_true rfl) (gS_F) (⟨rfl, Or.inl ⟨rfl, hw⟩⟩)
  · skip
    refine v_iload_n C dX11_act_0 (j := 1) rfl rfl ?_
    refine v_if_lt C 15 dX11_act_1 (by decide) (fun c1 => ?_) (fun c1 => ?_)
    · skip
      exact v_sub [] rfl (K (fun h => Int32.not_le.mpr c1 h.1))
    · skip
      refine v_iload_n C dX11_act_4 (j := 1) rfl rfl ?_
      refine v_aload_n C dX11_act_5 (j := 0) rfl rfl ?_
      refine v_get C (T := TX11) (ci := 11) (j := 0) dX11_act_6 wiX11_act_X11 rfl (by decide) wfX11_act_12 (fun _ h => h) (FF_get h1 rfl) ?_
      refine v_ci (v_runV C (k_lsize r1) (cwV 0 C.1.2.2.2.2 gX11_act_Jx4a65c_size_8abf5 rfl rfl rfl (by decide +kernel) ⟨Nat.le_of_ble_eq_true rfl, Nat.le_of_ble_eq_true rfl⟩) rfl rfl ((FF_get r6 (k := 0) rfl).gC) dX11_act_9 (rest := [_]) (Nat.le_of_ble_eq_true rfl) rfl ⟨(by first | exact Nat.le_of_ble_eq_true rfl | (dsimp only; omega)), (by first | exact Nat.le_of_ble_eq_true rfl | (dsimp only; omega))⟩) (fun q x' hx' => ?_)
      obtain ⟨rfl, rfl⟩ := hx'
      refine v_icmp_lt C 25 dX11_act_12 (by decide) (fun c2 => ?_) (fun c2 => ?_)
      · skip
        have hz : 0 ≤ z ∧ z < nI rls.length := ⟨Int32.not_lt.mp c1, by rw [← r4]; exact c2⟩
        obtain ⟨k, hk, rfl⟩ := nI_of (Int32.not_lt.mpr hz.1)
        have hkl : k < rus.length := lt_of c2 hk (by omega)
        have hkc : (nI k).toNatClampNeg = k := nI_clamp hk
        refine v_cut0 (pcj := 41) (lvj := []) (stj := []) ((isKd kd && isFd fd) = false) (fun hw => ?_) (fun K1 => ?_)
        · skip
          exact v_throwS C hl (text := "no such action") 17 rfl rfl wwX11_act_cl58 wwX11_act_in_IAE (by decide) wgX11_act_IAE wbIAE woIAE dX11_act_41 dX11_act_44 dX11_act_45 dX11_act_47 dX11_act_50 hex (Nat.le_of_ble_eq_true rfl) (Nat.le_of_ble_eq_true rfl) (Nat.le_of_ble_eq_true rfl) (Nat.le_of_ble_eq_true rfl) (Nat.le_of_ble_eq_true rfl) (Nat.le_of_ble_eq_true rfl) (gS_F) (⟨rfl, Or.inr (Or.inl ⟨rfl, hz, by unfold isAc; dsimp only; rw [hw]; rfl⟩)⟩)
        · skip
          refine v_iload_n C dX11_act_25 (j := 2) rfl rfl ?_
          refine v_if_lt C 41 dX11_act_26 (by decide) (fun c3 => ?_) (fun c3 => ?_)
          · skip
            exact v_sub [] rfl (K1 (by unfold isKd; rw [decide_eq_false (Int32.not_le.mpr c3)]; rfl))
          · skip
            refine v_iload_n C dX11_act_29 (j := 2) rfl rfl ?_
            refine v_iconst C dX11_act_30 (v := 4) (by decide) ?_
            refine v_icmp_gt C 41 dX11_act_31 (by decide) (fun c4 => ?_) (fun c4 => ?_)
            · skip
              exact v_sub [] rfl (K1 (by unfold isKd; rw [decide_eq_false (p := kd ≤ 4) (Int32.not_le.mpr c4), Bool.and_false]; rfl))
            · skip
              have hkd : isKd kd = true := by unfold isKd; rw [decide_eq_true (Int32.not_lt.mp c3), decide_eq_true (Int32.not_lt.mp c4)]; rfl
              refine v_iload_n C dX11_act_34 (j := 3) rfl rfl ?_
              refine v_ci (v_runS C (k_isField fd) (va_cwS 1 C.1.2.2.2.2 gX11_act_X11_isField rfl rfl rfl (by decide +kernel) ⟨Nat.le_of_ble_eq_true rfl, Nat.le_of_ble_eq_true rfl⟩) rfl dX11_act_35 (rest := []) (Nat.le_of_ble_eq_true rfl) rfl ⟨(by first | exact Nat.le_of_ble_eq_true rfl | (dsimp only; omega)), (by first | exact Nat.le_of_ble_eq_true rfl | (dsimp only; omega))⟩) (fun q x' hx' => ?_)
              obtain ⟨rfl, rfl⟩ := hx'
              refine v_if_ne C 51 dX11_act_38 (by decide) (fun c5 => ?_) (fun c5 => ?_)
              · skip
                have hfd := bI_1 c5
                refine v_cut0 (pcj := 78) (lvj := []) (stj := []) ((isKd op && isOpd x0 && isOpd y0) = false) (fun hw => ?_) (fun K2 => ?_)
                · skip
                  exact v_throwS C hl (text := "no such expression") 17 rfl rfl wwX11_act_cl58 wwX11_act_in_IAE (by decide) wgX11_act_IAE wbIAE woIAE dX11_act_78 dX11_act_81 dX11_act_82 dX11_act_84 dX11_act_87 hex (Nat.le_of_ble_eq_true rfl) (Nat.le_of_ble_eq_true rfl) (Nat.le_of_ble_eq_true rfl) (Nat.le_of_ble_eq_true rfl) (Nat.le_of_ble_eq_true rfl) (Nat.le_of_ble_eq_true rfl) (gS_F) (⟨rfl, Or.inr (Or.inl ⟨rfl, hz, by unfold isAc; dsimp only; rw [hw, Bool.and_false]⟩)⟩)
                · skip
                  refine v_iload C dX11_act_51 (j := 4) rfl ?_
                  refine v_if_lt C 78 dX11_act_53 (by decide) (fun c6 => ?_) (fun c6 => ?_)
                  · skip
                    exact v_sub [] rfl (K2 (by unfold isKd; rw [decide_eq_false (Int32.not_le.mpr c6)]; rfl))
                  · skip
                    refine v_iload C dX11_act_56 (j := 4) rfl ?_
                    refine v_iconst C dX11_act_58 (v := 4) (by decide) ?_
                    refine v_icmp_gt C 78 dX11_act_59 (by decide) (fun c7 => ?_) (fun c7 => ?_)
                    · skip
                      exact v_sub [] rfl (K2 (by unfold isKd; rw [decide_eq_false (p := op ≤ 4) (Int32.not_le.mpr c7), Bool.and_false]; rfl))
                    · skip
                      have hop : isKd op = true := by unfold isKd; rw [decide_eq_true (Int32.not_lt.mp c6), decide_eq_true (Int32.not_lt.mp c7)]; rfl
                      refine v_iload C dX11_act_62 (j := 5) rfl ?_
                      refine v_ci (v_runS C (k_isOperand x0) (va_cwS 1 C.1.2.2.2.2 gX11_act_X11_isOperand rfl rfl rfl (by decide +kernel) ⟨Nat.le_of_ble_eq_true rfl, Nat.le_of_ble_eq_true rfl⟩) rfl dX11_act_64 (rest := []) (Nat.le_of_ble_eq_true rfl) rfl ⟨(by first | exact Nat.le_of_ble_eq_true rfl | (dsimp only; omega)), (by first | exact Nat.le_of_ble_eq_true rfl | (dsimp only; omega))⟩) (fun q x' hx' => ?_)
                      obtain ⟨rfl, rfl⟩ := hx'
                      refine v_if_eq C 78 dX11_act_67 (by decide) (fun c8 => ?_) (fun c8 => ?_)
                      · skip
                        exact v_sub [] rfl (K2 (by rw [bI_0 c8, Bool.and_false]; rfl))
                      · skip
                        have hx0 := bI_1 c8
                        refine v_iload C dX11_act_70 (j := 6) rfl ?_
                        refine v_ci (v_runS C (k_isOperand y0) (va_cwS 1 C.1.2.2.2.2 gX11_act_X11_isOperand rfl rfl rfl (by decide +kernel) ⟨Nat.le_of_ble_eq_true rfl, Nat.le_of_ble_eq_true rfl⟩) rfl dX11_act_72 (rest := []) (Nat.le_of_ble_eq_true rfl) rfl ⟨(by first | exact Nat.le_of_ble_eq_true rfl | (dsimp only; omega)), (by first | exact Nat.le_of_ble_eq_true rfl | (dsimp only; omega))⟩) (fun q x' hx' => ?_)
                        obtain ⟨rfl, rfl⟩ := hx'
                        refine v_if_ne C 88 dX11_act_75 (by decide) (fun c9 => ?_) (fun c9 => ?_)
                        · skip
                          have hy0 := bI_1 c9
                          have hAc : isAc (kd, fd, op, x0, y0) = true := by unfold isAc; dsimp only; rw [hkd, hfd, hop, hx0, hy0]; rfl
                          refine v_aload_n C dX11_act_88 (j := 0) rfl rfl ?_
                          refine v_get C (T := TX11) (ci := 11) (j := 0) dX11_act_89 wiX11_act_X11 rfl (by decide) wfX11_act_12 (fun _ h => h) (FF_get h1 rfl) ?_
                          refine v_iload_n C dX11_act_92 (j := 1) rfl rfl ?_
                          refine v_cr (v_runV C (k_lget ht5 r1 hkl) (cwV 1 C.1.2.2.2.2 gX11_act_Jx4a65c_get_915e3 rfl rfl rfl (by decide +kernel) ⟨Nat.le_of_ble_eq_true rfl, Nat.le_of_ble_eq_true rfl⟩) rfl rfl ((FF_get r6 (k := 0) rfl).gC) dX11_act_93 (rest := []) (Nat.le_of_ble_eq_true rfl) rfl ⟨(by first | exact Nat.le_of_ble_eq_true rfl | (dsimp only; omega)), (by first | exact Nat.le_of_ble_eq_true rfl | (dsimp only; omega))⟩) (fun r x' hx' => ?_)
                          obtain ⟨rfl, rfl⟩ := hx'
                          have r8 := r5 k hkl
                          obtain ⟨Rr, hRr⟩ : ∃ Rr, Rr = rls.getD k rl0 := ⟨_, rfl⟩
                          rw [hkc, ← hRr]
                          rw [← hRr] at r8
                          obtain ⟨als, ae, acs, s1, s2, s3, s4, s5, s6, s7⟩ := r8
                          have s4b := s4
                          obtain ⟨⟨mc8, s8⟩, s9, -⟩ := s4b
                          refine v_castS C (ci := 7) (r := (RX7, TX7, 5)) dX11_act_96 rfl wwX11_act_cl74 ((FF_get s1 (k := 0) rfl).gC) ?_
                          refine v_getN C (T := TX7) (ci := 7) (j := 3) dX11_act_99 wiX11_act_X7 rfl (by decide) (v_nw C 24 rfl) (fun _ h => h) (FF_get s1 rfl) ?_
                          refine v_astore C dX11_act_102 (by decide) (lv' := [(7, _), (0, _), (1, _), (2, _), (3, _), (4, _), (5, _), (6, _)]) rfl ?_
                          refine v_aload C dX11_act_104 (j := 0) rfl ?_
                          refine v_ci (v_runV C (k_lsize s4) (cwV 0 C.1.2.2.2.2 gX11_act_Jx4a65c_size_8abf5 rfl rfl rfl (by decide +kernel) ⟨Nat.le_of_ble_eq_true rfl, Nat.le_of_ble_eq_true rfl⟩) rfl rfl ((FF_get s8 (k := 0) rfl).gC) dX11_act_106 (rest := []) (Nat.le_of_ble_eq_true rfl) rfl ⟨(by first | exact Nat.le_of_ble_eq_true rfl | (dsimp only; omega)), (by first | exact Nat.le_of_ble_eq_true rfl | (dsimp only; omega))⟩) (fun q x' hx' => ?_)
                          obtain ⟨rfl, rfl⟩ := hx'
                          refine v_bipush C dX11_act_109 (v := 6) (by decide) ?_
                          refine v_icmp_lt C 124 dX11_act_111 (by decide) (fun c10 => ?_) (fun c10 => ?_)
                          · skip
                            have c11 : acs.length < 6 := lt_of (b := 6) c10 (by omega) (by decide)
                            refine v_aload C dX11_act_124 (j := 0) rfl ?_
                            refine v_new C (T := TX0) (ci := 1) dX11_act_126 wiX11_act_X0 tyX0 tyX0_ok wwX11_act_cl108 wwX11_act_isX0 wwX11_act_inX0 rfl (by decide) (by first | exact Nat.le_of_ble_eq_true rfl | (dsimp only; omega)) (by first | exact Nat.le_of_ble_eq_true rfl | (dsimp only; omega)) (FF_new (.inr (1, [.int 0, .int 0, .null, .null]))) (fun ac hc => ?_)
                            refine v_dup C dX11_act_129 rfl ?_
                            refine v_iload_n C dX11_act_130 (j := 3) rfl rfl ?_
                            refine v_iload_n C dX11_act_131 (j := 4) rfl rfl ?_
                            refine v_iload C dX11_act_132 (j := 5) rfl ?_
                            refine v_iload C dX11_act_134 (j := 6) rfl ?_
                            refine v_iload C dX11_act_136 (j := 7) rfl ?_
                            refine v_cr (v_runS C (k_treeOf ht op x0 y0) (va_cwS 3 C.1.2.2.2.2 gX11_act_X11_treeOf rfl rfl rfl (by decide +kernel) ⟨Nat.le_of_ble_eq_true rfl, Nat.le_of_ble_eq_true rfl⟩) rfl dX11_act_138 (rest := [_, _, _, _, _]) (Nat.le_of_ble_eq_true rfl) rfl ⟨(by first | exact Nat.le_of_ble_eq_true rfl | (dsimp only; omega)), (by first | exact Nat.le_of_ble_eq_true rfl | (dsimp only; omega))⟩) (fun tr x' hx' => ?_)
                            obtain ⟨e1, sc, f2, T2, rfl, e2, e3, e4, e7⟩ := hx'
                            refine v_iload C dX11_act_141 (j := 5) rfl ?_
                            refine v_iload C dX11_act_143 (j := 6) rfl ?_
                            refine v_iload C dX11_act_145 (j := 7) rfl ?_
                            refine v_cr (v_runS C (k_codeOf ht1 op x0 y0) (va_cwS 3 C.1.2.2.2.2 gX11_act_X11_codeOf rfl rfl rfl (by decide +kernel) ⟨Nat.le_of_ble_eq_true rfl, Nat.le_of_ble_eq_true rfl⟩) rfl dX11_act_147 (rest := [_, _, _, _, _, _]) (Nat.le_of_ble_eq_true rfl) rfl ⟨(by first | exact Nat.le_of_ble_eq_true rfl | (dsimp only; omega)), (by first | exact Nat.le_of_ble_eq_true rfl | (dsimp only; omega))⟩) (fun cd x' hx' => ?_)
                            obtain ⟨e5, e6, rfl⟩ := hx'
                            have hac2 : f2 ac = some (.inr (1, [.int 0, .int 0, .null, .null])) := by rw [e3.1 ac (by rw [va_up_same]; intro z; cases z), va_up_same]
                            have d1 : ac ≠ cd := fun z => by rw [← z, hac2] at e5; cases e5
                            refine v_cv (v_runI C (k_acinit2 (by rw [va_up_other _ _ _ d1]; exact hac2) kd fd) (cwI 4 C.1.2.2.2.2 gX11_act_X0_init rfl rfl rfl (C.1.2.2.2.2 _ wwX11_act_in_X0_init) (C.1.2.2.2.2 _ wwX11_act_ml118) (C.1.2.2.2.2 _ wwX11_act_im_X0_init) rfl (by decide +kernel) ⟨Nat.le_of_ble_eq_true rfl, Nat.le_of_ble_eq_true rfl⟩) rfl dX11_act_150 (rest := [_, _]) (Nat.le_of_ble_eq_true rfl) rfl ⟨(by first | exact Nat.le_of_ble_eq_true rfl | (dsimp only; omega)), (by first | exact Nat.le_of_ble_eq_true rfl | (dsimp only; omega))⟩) (fun x' hx' => ?_)
                            subst hx'
                            obtain ⟨f3, hf3⟩ : ∃ f3, f3 = va_up (va_up f2 cd (some (cdE cI op x0 y0))) ac (acE kd fd tr cd) := ⟨_, rfl⟩
                            refine v_x (x' := (f3, T2)) (fun H hP => by rw [hf3]; exact hP) ?_
                            have x2 : ∀ p, f p ≠ none → f2 p = f p := fun p hp => by
                                have p1 : p ≠ ac := fun z => hp (by rw [z]; exact hc.1)
                                rw [e3.1 p (by rw [va_up_other _ _ _ p1]; exact hp), va_up_other _ _ _ p1]
                            have x3 : ∀ p, f p ≠ none → f3 p = f p := fun p hp => by
                                have p1 : p ≠ ac := fun z => hp (by rw [z]; exact hc.1)
                                have p2 : p ≠ cd := fun z => by have := x2 p hp; rw [z, e5] at this; rw [z] at hp; exact hp this.symm
                                rw [hf3, va_up_other _ _ _ p1, va_up_other _ _ _ p2]; exact x2 p hp
                            have k3 : kpN [] f f3 := fun p e hp _ => by rw [x3 p (by rw [hp]; intro z; cases z)]; exact hp
                            have hac3 : f3 ac = acE kd fd tr cd := by rw [hf3, va_up_same]
                            have s4' := s4.kp k3 (by decide) (by decide)
                            have hals : als ≠ ac := fun z => by have := s4.some.1; rw [z, hc.1] at this; exact this rfl
                            refine v_ci (v_runV C (k_ladd ht5 s4' (by omega) (r := (RX0, TX0, 4)) (ci := 1) rfl ⟨_, hac3⟩ (Ne.symm hals) 16 rfl) (cwV 1 C.1.2.2.2.2 gX11_act_Jx4a65c_add_9ea2d rfl rfl rfl (by decide +kernel) ⟨Nat.le_of_ble_eq_true rfl, Nat.le_of_ble_eq_true rfl⟩) rfl rfl ((FF_get (k3 _ _ s8 (by simp)) (k := 0) rfl).gC) dX11_act_153 (rest := []) (Nat.le_of_ble_eq_true rfl) rfl ⟨(by first | exact Nat.le_of_ble_eq_true rfl | (dsimp only; omega)), (by first | exact Nat.le_of_ble_eq_true rfl | (dsimp only; omega))⟩) (fun q x' hx' => ?_)
                            obtain ⟨f4, rfl, ea, g1, g2, g3⟩ := hx'
                            have k4 : kpN [0, 110] f f4 := fun p e hp hn => by
                                have p1 : p ≠ als := fun z => hn (by rw [z, s8] at hp; cases hp; simp [kdn])
                                have p2 : p ≠ ea := fun z => by
                                    rcases g2 with ⟨q1, q2⟩ | ⟨q1, q2, q3⟩
                                    · obtain ⟨-, -, g9⟩ := s4
                                      rw [if_neg q2] at g9
                                      obtain ⟨rf9, g9, -⟩ := g9
                                      rw [z, q1, g9] at hp; cases hp; exact hn (by simp [kdn])
                                    · rw [← z, x3 p (by rw [hp]; intro z; cases z), hp] at q2; cases q2
                                rw [g3 p p1 p2, x3 p (by rw [hp]; intro z; cases z)]; exact hp
                            have hea : f ea ≠ none → lf ea = k + 1 := fun hz => by
                                rcases g2 with ⟨q1, q2⟩ | ⟨q1, q2, q3⟩
                                · rw [q1]; exact s6 q2
                                · rw [x3 ea hz] at q2; exact absurd q2 hz
                            have hlf : ∀ p, f p ≠ none → va_up lf ea (k + 1) p = lf p := fun p hp => by
                                by_cases p3 : p = ea
                                · rw [p3, va_up_same]; rw [p3] at hp; exact (hea hp).symm
                                · rw [va_up_other _ _ _ p3]
                            have k34 : kpN [0, 110] f3 f4 := fun p e hp hn => by
                                by_cases p1 : p = als
                                · rw [p1, x3 als s4.some.1, s8] at hp; cases hp; exact absurd (by simp [kdn]) hn
                                · by_cases p2 : p = ea
                                  · rcases g2 with ⟨q1, q2⟩ | ⟨q1, q2, q3⟩
                                    · obtain ⟨-, -, g9⟩ := s4'
                                      rw [if_neg q2] at g9
                                      obtain ⟨rf9, g9, -⟩ := g9
                                      rw [p2, q1, g9] at hp; cases hp; exact absurd (by simp [kdn]) hn
                                    · rw [p2, q2] at hp; cases hp
                                  · rw [g3 p p1 p2]; exact hp
                            have x24 : kpN [0, 110, 1] f2 f4 := fun p e hp hn => by
                                refine k34 p e ?_ (fun h => hn (by simp at h ⊢; omega))
                                have p1 : p ≠ cd := fun z => by rw [z, e5] at hp; cases hp
                                have p2 : p ≠ ac := fun z => by rw [z, hac2] at hp; cases hp; exact hn (by simp [kdn])
                                rw [hf3, va_up_other _ _ _ p2, va_up_other _ _ _ p1]; exact hp
                            obtain ⟨lab', hlab'⟩ : ∃ lab' : Nat → Nat, lab' = if op = 0 then lab else va_up lab sc 9 := ⟨_, rfl⟩
                            have hlb : ∀ p, T p ≠ none → lab' p = lab p := fun p hp => by
                                rw [hlab']
                                split
                                · rfl
                                · rename_i ho; exact va_up_other _ _ _ (fun z => hp (by rw [z]; exact e4 ho))
                            have hlb9 : ∀ p, lab p = 9 → lab' p = 9 := fun p hp => by
                                rw [hlab']
                                split
                                · exact hp
                                · by_cases z : p = sc
                                  · rw [z, va_up_same]
                                  · rw [va_up_other _ _ _ z]; exact hp
                            have hsc : ∀ p, lab' p ∉ [9] → T2 p = T p := fun p hp => e7 p (fun z => by
                                by_cases ho : op = 0
                                · exact ho
                                · exact absurd (by rw [hlab', if_neg ho, z, va_up_same]; decide) hp)
                            have hex2 : ∀ p, (∃ s, T p = some s) → ∃ s, T2 p = some s := fun p hp => by
                                obtain ⟨s, hp⟩ := hp
                                exact ⟨s, by rw [e3.2 p (by rw [hp]; intro z; cases z)]; exact hp⟩
                            have lp1 : lpT lab' [9] T T2 := ⟨hsc, hex2⟩
                            have lp2 : lpT lab [lab sc] T T2 := ⟨fun p hp => e7 p (fun z => absurd (by rw [z]; exact List.mem_singleton.mpr rfl) hp), hex2⟩
                            obtain ⟨hW5, hL5⟩ := hW.lab hL hlb
                            have hW6 := hW5.kp hL5 k4 lp1 (by decide) (by decide)
                            have hcd4 : f4 cd = some (cdE cI op x0 y0) := k34 _ _ (by rw [hf3, va_up_other _ _ _ (Ne.symm d1), va_up_same]) (by unfold cdE; by_cases ho : op = 0; rw [if_pos ho]; simp [kdn]; rw [if_neg ho]; simp [kdn])
                            have hac4 : f4 ac = acE kd fd tr cd := k34 _ _ hac3 (by simp [kdn])
                            have htr4 : trI f4 T2 op x0 y0 tr sc := by
                                unfold trI at e2 ⊢
                                split
                                · rename_i ho; rw [if_pos ho] at e2; exact x24 _ _ e2 (by simp [kdn])
                                · rename_i ho
                                  rw [if_neg ho] at e2
                                  obtain ⟨l1, l2, q1, q2, q3, q4⟩ := e2
                                  exact ⟨l1, l2, x24 _ _ q1 (by simp [kdn]), x24 _ _ q2 (by simp [kdn]), x24 _ _ q3 (by simp [kdn]), q4⟩
                            have hacI : acI f4 T2 cI lab' ac (kd, fd, op, x0, y0) := ⟨tr, cd, sc, hac4, htr4, hcd4, isKd_ok hkd, isFd_nI hfd, isOpd_ok hx0, isOpd_ok hy0, fun ho => by rw [hlab', if_neg ho, va_up_same]⟩
                            have hRn : rI f4 T2 z0 cI cO lab' (va_up lf ea (k + 1)) (a 1) (actR rls k (kd, fd, op, x0, y0)) := by
                                refine ⟨pe, rus, r1.lb (m := 0) r2 r3 (fun p q3 q4 => ?_), by rw [hlf _ r1.some.1]; exact r2, fun hx => by rw [hlf _ (r1.some.2 hx)]; exact r3 hx, by unfold actR; rw [List.length_set]; exact r4, fun j hj => ?_⟩
                                · have p1 : p ≠ als := fun z => by rw [z, s5] at q3; cases q3
                                  have p2 : p ≠ ea := fun z => by rw [z, hea (by rw [← z]; exact q4)] at q3; cases q3
                                  rw [g3 p p1 p2, x3 p q4]
                                · by_cases hjk : j = k
                                  · subst hjk
                                    have q2 : (actR rls j (kd, fd, op, x0, y0)).getD j rl0 = (Rr.1, Rr.2.1, Rr.2.2 ++ [(kd, fd, op, x0, y0)]) := by unfold actR; rw [← hRr]; simp [List.getD_eq_getElem?_getD, ← r4, hj]
                                    rw [q2]
                                    refine ⟨als, ea, acs ++ [ac], k4 _ _ s1 (by simp [kdn]), by rw [hlf _ (by rw [s1]; intro z; cases z)]; exact s2, s3, g1, by rw [hlf _ s4.some.1]; exact s5, fun _ => va_up_same _ _ _, by simp [s7.1], fun i hi => ?_⟩
                                    simp only [List.length_append, List.length_singleton] at hi
                                    by_cases hil : i = acs.length
                                    · subst hil
                                      have q3 : (acs ++ [ac]).getD acs.length 0 = ac := by simp [List.getD_eq_getElem?_getD]
                                      have q4 : (Rr.2.2 ++ [(kd, fd, op, x0, y0)]).getD acs.length ac0 = (kd, fd, op, x0, y0) := by rw [s7.1]; simp [List.getD_eq_getElem?_getD]
                                      rw [q3]
                                      dsimp only
                                      rw [q4]
                                      exact hacI
                                    · have q3 : (acs ++ [ac]).getD i 0 = acs.getD i 0 := by simp only [List.getD_eq_getElem?_getD]; rw [List.getElem?_append_left (by omega)]
                                      have q4 : (Rr.2.2 ++ [(kd, fd, op, x0, y0)]).getD i ac0 = Rr.2.2.getD i ac0 := by simp only [List.getD_eq_getElem?_getD]; rw [List.getElem?_append_left (by rw [← s7.1]; omega)]
                                      rw [q3]
                                      dsimp only
                                      rw [q4]
                                      exact ((s7.2 i (by omega)).kp k4 lp2 (by decide) (by decide) (by decide) (by decide) (by decide)).lab hlb9
                                  · have q2 : (actR rls k (kd, fd, op, x0, y0)).getD j rl0 = rls.getD j rl0 := by unfold actR; simp [List.getD_eq_getElem?_getD, List.getElem?_set_ne (Ne.symm hjk)]
                                    rw [q2]
                                    refine (r5 j hj).fr k4 lp2 (fun p q3 q4 => ?_) (fun p q3 q4 => by rw [hlf p q3]; exact q4) hlb9
                                    have p1 : p ≠ als := fun z => by rw [z, s5] at q3; omega
                                    have p2 : p ≠ ea := fun z => by rw [z, hea (by rw [← z]; exact q4)] at q3; omega
                                    rw [g3 p p1 p2, x3 p q4]
                            refine v_pop C dX11_act_156 rfl ?_
                            refine v_aload C dX11_act_157 (j := 0) rfl ?_
                            have g1b := g1
                            obtain ⟨⟨mc7, g9⟩, -⟩ := g1b
                            refine v_ci (v_runV C (k_lsize g1) (cwV 0 C.1.2.2.2.2 gX11_act_Jx4a65c_size_8abf5 rfl rfl rfl (by decide +kernel) ⟨Nat.le_of_ble_eq_true rfl, Nat.le_of_ble_eq_true rfl⟩) rfl rfl ((FF_get g9 (k := 0) rfl).gC) dX11_act_159 (rest := []) (Nat.le_of_ble_eq_true rfl) rfl ⟨(by first | exact Nat.le_of_ble_eq_true rfl | (dsimp only; omega)), (by first | exact Nat.le_of_ble_eq_true rfl | (dsimp only; omega))⟩) (fun q x' hx' => ?_)
                            obtain ⟨rfl, rfl⟩ := hx'
                            refine v_xret ?_
                            exact v_ireturn C dX11_act_162 hr (rfl) (Nat.le_of_ble_eq_true rfl) (Nat.le_of_ble_eq_true rfl) (⟨f4, T2, lab', _, rfl, hz, hAc, by rw [← s7.1]; exact c11, by rw [← s7.1]; simp, hW6, hL5, hRn⟩)
                          · skip
                            exact v_throwS C hl (text := "the rule has 6 actions") 18 rfl rfl wwX11_act_cl69 wwX11_act_in_ISE (by decide) wgX11_act_ISE wbISE woISE dX11_act_114 dX11_act_117 dX11_act_118 dX11_act_120 dX11_act_123 hex (Nat.le_of_ble_eq_true rfl) (Nat.le_of_ble_eq_true rfl) (Nat.le_of_ble_eq_true rfl) (Nat.le_of_ble_eq_true rfl) (Nat.le_of_ble_eq_true rfl) (Nat.le_of_ble_eq_true rfl) (gS_F) (⟨rfl, Or.inr (Or.inr ⟨rfl, hz, hAc, by rw [← s7.1]; exact le_ofn (b := 6) c10 (by omega) (by decide)⟩)⟩)
                        · skip
                          exact v_sub [] rfl (K2 (by rw [bI_0 c9, Bool.and_false]))
              · skip
                exact v_sub [] rfl (K1 (by rw [bI_0 c5, Bool.and_false]))
      · skip
        exact v_sub [] rfl (K (by rw [← r4]; exact fun h => c2 h.2))
end RA
