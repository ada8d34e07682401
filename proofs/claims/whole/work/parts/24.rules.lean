/-! ===== rule, act ===== -/
theorem wfX11_rule_12 : Cond.fieldLink RX11 12 "FieldScribe" (TX11 0).2.1 (TX11 0).2.2.1 ∈ wsX11_rule := by decide +kernel
theorem wiX11_rule_X11 : ∀ w ∈ u_ws RX11 TX11 9, w ∈ wsX11_rule := by decide +kernel
theorem wiX11_rule_X7 : ∀ w ∈ u_ws RX7 TX7 5, w ∈ wsX11_rule := by decide +kernel
theorem wwX11_rule_cl74 : Cond.classLink RX11 74 RX7 ∈ wsX11_rule := by decide +kernel
theorem wwX11_rule_isX7 : Cond.instantiable RX7 5 ∈ wsX11_rule := by decide +kernel
theorem wwX11_rule_inX7 : Cond.initialized RX7 ∈ wsX11_rule := by decide +kernel
theorem wwX11_rule_in_X7_init : Cond.initialized yX7_init.cls ∈ wsX11_rule := by decide +kernel
theorem wwX11_rule_ml76 : Cond.methodLink RX11 76 yX7_init ∈ wsX11_rule := by decide +kernel
theorem wwX11_rule_im_X7_init : Cond.instanceMethod yX7_init ∈ wsX11_rule := by decide +kernel
theorem wwX11_rule_cl69 : Cond.classLink RX11 69 "java/lang/IllegalStateException" ∈ wsX11_rule := by decide +kernel
theorem wwX11_rule_in_ISE : Cond.initialized "java/lang/IllegalStateException" ∈ wsX11_rule := by decide +kernel
theorem wgX11_rule_ISE : ∀ w ∈ wgISE, w ∈ wsX11_rule := by
  intro w h
  first | exact List.mem_cons_of_mem _ (List.mem_append_right _ h) | exact List.mem_cons_of_mem _ (List.mem_append_left _ (List.mem_append_right _ h)) | exact List.mem_cons_of_mem _ (List.mem_append_left _ (List.mem_append_left _ (List.mem_append_right _ h)))
theorem wwX11_rule_cl58 : Cond.classLink RX11 58 "java/lang/IllegalArgumentException" ∈ wsX11_rule := by decide +kernel
theorem wwX11_rule_in_IAE : Cond.initialized "java/lang/IllegalArgumentException" ∈ wsX11_rule := by decide +kernel
theorem wgX11_rule_IAE : ∀ w ∈ wgIAE, w ∈ wsX11_rule := by
  intro w h
  first | exact List.mem_cons_of_mem _ (List.mem_append_right _ h) | exact List.mem_cons_of_mem _ (List.mem_append_left _ (List.mem_append_right _ h)) | exact List.mem_cons_of_mem _ (List.mem_append_left _ (List.mem_append_left _ (List.mem_append_right _ h)))
theorem alI.lb {f f' : Nat → Option va_E} {z0 : Nat} {cO : ClassId} {al ea m : Nat} {xs : List Nat} {lf : Nat → Nat} (h : alI f z0 cO al ea xs) (h1 : lf al = m) (h2 : xs ≠ [] → lf ea = m) (k : ∀ p, lf p = m → f p ≠ none → f' p = f p) : alI f' z0 cO al ea xs := by
  obtain ⟨⟨mc, g1⟩, g2, g3⟩ := h
  refine ⟨⟨mc, by rw [k al h1 (by rw [g1]; intro z; cases z)]; exact g1⟩, g2, ?_⟩
  split
  · rename_i hx; rw [if_pos hx] at g3; exact g3
  · rename_i hx
    rw [if_neg hx] at g3
    obtain ⟨rf, g4, g5⟩ := g3
    exact ⟨rf, by rw [k ea (h2 hx) (by rw [g4]; intro z; cases z)]; exact g4, g5⟩
theorem alI.some {f : Nat → Option va_E} {z0 : Nat} {cO : ClassId} {al ea : Nat} {xs : List Nat} (h : alI f z0 cO al ea xs) : f al ≠ none ∧ (xs ≠ [] → f ea ≠ none) := by
  obtain ⟨⟨mc, g1⟩, g2, g3⟩ := h
  refine ⟨(by rw [g1]; intro z; cases z), fun hx => ?_⟩
  rw [if_neg hx] at g3
  obtain ⟨rf, g4, g5⟩ := g3
  rw [g4]; intro z; cases z
theorem acI.lab {f : Nat → Option va_E} {T : Nat → Option (List Int32)} {cI : ClassId} {lab lab' : Nat → Nat} {ac : Nat} {c : Ac} (h : acI f T cI lab ac c) (hl : ∀ p, lab p = 9 → lab' p = 9) : acI f T cI lab' ac c := by
  obtain ⟨tr, cd, sc, h1, h2, h3, h4, h5, h6, h7, h8⟩ := h
  exact ⟨tr, cd, sc, h1, h2, h3, h4, h5, h6, h7, fun hz => hl _ (h8 hz)⟩
theorem ruI.fr {f f' : Nat → Option va_E} {T T' : Nat → Option (List Int32)} {z0 : Nat} {cI cO : ClassId} {lab lab' lf lf' : Nat → Nat} {m ru : Nat} {R : Rl} {ms : List Nat} (h : ruI f T z0 cI cO lab lf m ru R) (k : kpN [0, 110] f f') (t : lpT lab ms T T') (k2 : ∀ p, lf p = m → f p ≠ none → f' p = f p) (hl : ∀ p, f p ≠ none → lf p = m → lf' p = m) (hb : ∀ p, lab p = 9 → lab' p = 9) : ruI f' T' z0 cI cO lab' lf' m ru R := by
  obtain ⟨als, ae, acs, h1, h2, h3, h4, h5, h6, h7⟩ := h
  have h8 := h4.some
  exact ⟨als, ae, acs, k _ _ h1 (by simp [kdn]), hl _ (by rw [h1]; intro z; cases z) h2, h3, h4.lb h5 h6 k2, hl _ h8.1 h5, fun hx => hl _ (h8.2 hx) (h6 hx), h7.1, fun j hj => ((h7.2 j hj).kp k t (by decide) (by decide) (by decide) (by decide) (by decide)).lab hb⟩
theorem ruI.some {f : Nat → Option va_E} {T : Nat → Option (List Int32)} {z0 : Nat} {cI cO : ClassId} {lab lf : Nat → Nat} {m ru : Nat} {R : Rl} (h : ruI f T z0 cI cO lab lf m ru R) : f ru ≠ none := by
  obtain ⟨als, ae, acs, h1, -⟩ := h
  rw [h1]; intro z; cases z
section RA
variable {l : Launch} {D : va_G} {tys : List (ClassId × FieldType)} {z0 : Nat} {A : Nat → Prop} {cC cT cR cI cO : ClassId} {f : Nat → Option va_E} {T : Nat → Option (List Int32)} {a na lab lf : Nat → Nat} {sep rnum : Int32} {typ : List Int32} {stk : Bool} {w : WS} {rls : List Rl}
theorem isPat_ok {pat a0 b0 : Int32} (h : isPat pat a0 b0 = true) : okPat pat a0 b0 := by
  unfold isPat at h
  refine ⟨fun h1 => ?_, fun h1 => ?_⟩
  · rw [if_neg (by rw [h1]; decide), if_pos h1, Bool.and_eq_true] at h; exact isFd_nI h.1
  · rw [if_neg (by rw [h1]; decide), if_neg (by rw [h1]; decide), if_pos h1, Bool.and_eq_true] at h; exact ⟨isFd_nI h.1, isFd_nI h.2⟩
set_option maxRecDepth 100000 in
set_option maxHeartbeats 8000000 in
theorem k_rule (hl : l.stackTraces = false) (ht5 : tys[5]? = some (cO, .object "java/lang/Object")) (hW : wI f T cT cR a na lab sep rnum typ stk w) (hL : labI a lab) (hR : rI f T z0 cI cO lab lf (a 1) rls) (pat a0 b0 : Int32) : cX D tys z0 A (picF D cC A) l yX11_rule wsX11_rule ({ frames := 12, cells := 3, slots := 18, locals := 224 } : Room) [.ref (a 0), .int pat, .int a0, .int b0] (f, T) (qI (picF D cC A) A (fun q x => ∃ f' lf', x = (f', T) ∧ isPat pat a0 b0 = true ∧ rls.length < 8 ∧ q = nI rls.length ∧ wI f' T cT cR a na lab sep rnum typ stk w ∧ rI f' T z0 cI cO lab lf' (a 1) (rls ++ [((pat, a0, b0), false, [])]))) (fun E x => x = (f, T) ∧ ((E = xIAE ∧ isPat pat a0 b0 = false) ∨ (E = xISE ∧ isPat pat a0 b0 = true ∧ 8 ≤ rls.length))) := by
  have hW2 := hW
  obtain ⟨h1, -⟩ := hW2
  have hR2 := hR
  obtain ⟨pe, rus, r1, r2, r3, r4, r5⟩ := hR2
  have r1b := r1
  obtain ⟨⟨mc9, r6⟩, r7, -⟩ := r1b
  refine cX_of RX11 (by decide +kernel) rfl rfl (Nat.le_of_ble_eq_true rfl) ?_
  intro p e s m below meth c C hr hex
  refine v_lv (lv' := [(0, _), (1, _), (2, _), (3, _)]) rfl ?_
  refine v_iload_n C dX11_rule_0 (j := 1) rfl rfl ?_
  refine v_iload_n C dX11_rule_1 (j := 2) rfl rfl ?_
  refine v_iload_n C dX11_rule_2 (j := 3) rfl rfl ?_
  refine v_ci (v_runS C (k_isPattern pat a0 b0) (va_cwS 3 C.1.2.2.2.2 gX11_rule_X11_isPattern rfl rfl rfl (by decide +kernel) ⟨Nat.le_of_ble_eq_true rfl, Nat.le_of_ble_eq_true rfl⟩) rfl dX11_rule_3 (rest := []) (Nat.le_of_ble_eq_true rfl) rfl ⟨(by first | exact Nat.le_of_ble_eq_true rfl | (dsimp only; omega)), (by first | exact Nat.le_of_ble_eq_true rfl | (dsimp only; omega))⟩) (fun q x' hx' => ?_)
  obtain ⟨rfl, rfl⟩ := hx'
  refine v_if_ne C 19 dX11_rule_6 (by decide) (fun c1 => ?_) (fun c1 => ?_)
  · skip
    have hp := bI_1 c1
    refine v_aload_n C dX11_rule_19 (j := 0) rfl rfl ?_
    refine v_get C (T := TX11) (ci := 11) (j := 0) dX11_rule_20 wiX11_rule_X11 rfl (by decide) wfX11_rule_12 (fun _ h => h) (FF_get h1 rfl) ?_
    refine v_ci (v_runV C (k_lsize r1) (cwV 0 C.1.2.2.2.2 gX11_rule_Jx4a65c_size_8abf5 rfl rfl rfl (by decide +kernel) ⟨Nat.le_of_ble_eq_true rfl, Nat.le_of_ble_eq_true rfl⟩) rfl rfl ((FF_get r6 (k := 0) rfl).gC) dX11_rule_23 (rest := []) (Nat.le_of_ble_eq_true rfl) rfl ⟨(by first | exact Nat.le_of_ble_eq_true rfl | (dsimp only; omega)), (by first | exact Nat.le_of_ble_eq_true rfl | (dsimp only; omega))⟩) (fun q x' hx' => ?_)
    obtain ⟨rfl, rfl⟩ := hx'
    refine v_bipush C dX11_rule_26 (v := 8) (by decide) ?_
    refine v_icmp_lt C 41 dX11_rule_28 (by decide) (fun c2 => ?_) (fun c2 => ?_)
    · skip
      have c3 : rus.length < 8 := lt_of (b := 8) c2 (by omega) (by decide)
      refine v_aload_n C dX11_rule_41 (j := 0) rfl rfl ?_
      refine v_get C (T := TX11) (ci := 11) (j := 0) dX11_rule_42 wiX11_rule_X11 rfl (by decide) wfX11_rule_12 (fun _ h => h) (FF_get h1 rfl) ?_
      refine v_new C (T := TX7) (ci := 7) dX11_rule_45 wiX11_rule_X7 tyX7 tyX7_ok wwX11_rule_cl74 wwX11_rule_isX7 wwX11_rule_inX7 rfl (by decide) (by first | exact Nat.le_of_ble_eq_true rfl | (dsimp only; omega)) (by first | exact Nat.le_of_ble_eq_true rfl | (dsimp only; omega)) (FF_new (.inr (7, [.int 0, .int 0, .int 0, .null, .int 0]))) (fun ru hu => ?_)
      refine v_dup C dX11_rule_48 rfl ?_
      refine v_iload_n C dX11_rule_49 (j := 1) rfl rfl ?_
      refine v_iload_n C dX11_rule_50 (j := 2) rfl rfl ?_
      refine v_iload_n C dX11_rule_51 (j := 3) rfl rfl ?_
      refine v_cv (v_runI C (k_ruinit (va_up_same _ _ _) pat a0 b0) (cwI 3 C.1.2.2.2.2 gX11_rule_X7_init rfl rfl rfl (C.1.2.2.2.2 _ wwX11_rule_in_X7_init) (C.1.2.2.2.2 _ wwX11_rule_ml76) (C.1.2.2.2.2 _ wwX11_rule_im_X7_init) rfl (by decide +kernel) ⟨Nat.le_of_ble_eq_true rfl, Nat.le_of_ble_eq_true rfl⟩) rfl dX11_rule_52 (rest := [_, _]) (Nat.le_of_ble_eq_true rfl) rfl ⟨(by first | exact Nat.le_of_ble_eq_true rfl | (dsimp only; omega)), (by first | exact Nat.le_of_ble_eq_true rfl | (dsimp only; omega))⟩) (fun x' hx' => ?_)
      obtain ⟨al, e1, e2, rfl⟩ := hx'
      have rual : al ≠ ru := fun z => by rw [z, va_up_same] at e1; cases e1
      have fal : f al = none := by rw [va_up_other _ _ _ rual] at e1; exact e1
      obtain ⟨f2, hf2⟩ : ∃ f2, f2 = va_up (va_up (va_up f ru (some (.inr (7, [.int 0, .int 0, .int 0, .null, .int 0])))) al (alE 0 (some z0) 0)) ru (ruE pat a0 b0 al false) := ⟨_, rfl⟩
      refine v_x (x' := (f2, T)) (fun H hP => by rw [hf2]; exact hP) ?_
      have x2 : ∀ p, f p ≠ none → f2 p = f p := fun p hp => by
          have p1 : p ≠ ru := fun z => hp (by rw [z]; exact hu.1)
          have p2 : p ≠ al := fun z => hp (by rw [z]; exact fal)
          rw [hf2, va_up_other _ _ _ p1, va_up_other _ _ _ p2, va_up_other _ _ _ p1]
      have k2 : kpN [] f f2 := fun p e hp _ => by rw [x2 p (by rw [hp]; intro z; cases z)]; exact hp
      have hal2 : f2 al = alE 0 (some z0) 0 := by rw [hf2, va_up_other _ _ _ rual, va_up_same]
      have hru2 : f2 ru = ruE pat a0 b0 al false := by rw [hf2, va_up_same]
      have r1' := r1.kp k2 (by decide) (by decide)
      have hpr2 : a 1 ≠ ru := fun z => by have := r1.some.1; rw [z, hu.1] at this; exact this rfl
      refine v_ci (v_runV C (k_ladd ht5 r1' (by omega) (r := (RX7, TX7, 5)) (ci := 7) rfl ⟨_, hru2⟩ (Ne.symm hpr2) 15 rfl) (cwV 1 C.1.2.2.2.2 gX11_rule_Jx4a65c_add_9ea2d rfl rfl rfl (by decide +kernel) ⟨Nat.le_of_ble_eq_true rfl, Nat.le_of_ble_eq_true rfl⟩) rfl rfl ((FF_get (k2 _ _ r6 (by simp)) (k := 0) rfl).gC) dX11_rule_55 (rest := []) (Nat.le_of_ble_eq_true rfl) rfl ⟨(by first | exact Nat.le_of_ble_eq_true rfl | (dsimp only; omega)), (by first | exact Nat.le_of_ble_eq_true rfl | (dsimp only; omega))⟩) (fun q x' hx' => ?_)
      obtain ⟨f3, rfl, ea, e3, e4, e5⟩ := hx'
      have k3 : kpN [0, 110] f f3 := fun p e hp hn => by
          have p1 : p ≠ a 1 := fun z => hn (by rw [z, r6] at hp; cases hp; simp [kdn])
          have p2 : p ≠ ea := fun z => by
              rcases e4 with ⟨q1, q2⟩ | ⟨q1, q2, q3⟩
              · obtain ⟨-, -, g9⟩ := r1
                rw [if_neg q2] at g9
                obtain ⟨rf9, g9, -⟩ := g9
                rw [z, q1, g9] at hp; cases hp; exact hn (by simp [kdn])
              · rw [← z, x2 p (by rw [hp]; intro z; cases z), hp] at q2; cases q2
          rw [e5 p p1 p2, x2 p (by rw [hp]; intro z; cases z)]; exact hp
      have hea : f ea ≠ none → lf ea = 0 := fun hz => by
          rcases e4 with ⟨q1, q2⟩ | ⟨q1, q2, q3⟩
          · rw [q1]; exact r3 q2
          · rw [x2 ea hz] at q2; exact absurd q2 hz
      have hruea : ru ≠ ea := fun z => by
          rcases e4 with ⟨q1, q2⟩ | ⟨q1, q2, q3⟩
          · have := r1.some.2 q2; rw [← q1, ← z] at this; exact this hu.1
          · rw [← z, hru2] at q2; cases q2
      have halea : al ≠ ea := fun z => by
          rcases e4 with ⟨q1, q2⟩ | ⟨q1, q2, q3⟩
          · have := r1.some.2 q2; rw [← q1, ← z] at this; exact this fal
          · rw [← z, hal2] at q2; cases q2
      have hpral : a 1 ≠ al := fun z => by have := r1.some.1; rw [z, fal] at this; exact this rfl
      have hlf : ∀ p, f p ≠ none → va_up (va_up (va_up lf ru (rus.length + 1)) al (rus.length + 1)) ea 0 p = lf p := fun p hp => by
          have p1 : p ≠ ru := fun z => hp (by rw [z]; exact hu.1)
          have p2 : p ≠ al := fun z => hp (by rw [z]; exact fal)
          by_cases p3 : p = ea
          · rw [p3, va_up_same]; rw [p3] at hp; exact (hea hp).symm
          · rw [va_up_other _ _ _ p3, va_up_other _ _ _ p2, va_up_other _ _ _ p1]
      refine v_pop C dX11_rule_58 rfl ?_
      refine v_aload_n C dX11_rule_59 (j := 0) rfl rfl ?_
      have e3b := e3
      obtain ⟨⟨mc8, r8⟩, -⟩ := e3b
      refine v_get C (T := TX11) (ci := 11) (j := 0) dX11_rule_60 wiX11_rule_X11 rfl (by decide) wfX11_rule_12 (fun _ h => h) (FF_get (k3 _ _ h1 (by simp [kdn])) rfl) ?_
      refine v_ci (v_runV C (k_lsize e3) (cwV 0 C.1.2.2.2.2 gX11_rule_Jx4a65c_size_8abf5 rfl rfl rfl (by decide +kernel) ⟨Nat.le_of_ble_eq_true rfl, Nat.le_of_ble_eq_true rfl⟩) rfl rfl ((FF_get r8 (k := 0) rfl).gC) dX11_rule_63 (rest := []) (Nat.le_of_ble_eq_true rfl) rfl ⟨(by first | exact Nat.le_of_ble_eq_true rfl | (dsimp only; omega)), (by first | exact Nat.le_of_ble_eq_true rfl | (dsimp only; omega))⟩) (fun q x' hx' => ?_)
      obtain ⟨rfl, rfl⟩ := hx'
      refine v_iconst C dX11_rule_66 (v := 1) (by decide) ?_
      refine v_isub C dX11_rule_67 ?_
      refine v_int (b := nI rus.length) (by rw [List.length_append]; exact nI_pred _) ?_
      have hRn : rI f3 T z0 cI cO lab (va_up (va_up (va_up lf ru (rus.length + 1)) al (rus.length + 1)) ea 0) (a 1) (rls ++ [((pat, a0, b0), false, [])]) := by
          refine ⟨ea, rus ++ [ru], e3, by rw [hlf _ r1.some.1]; exact r2, fun _ => va_up_same _ _ _, by simp [r4], fun j hj => ?_⟩
          simp only [List.length_append, List.length_singleton] at hj
          by_cases hjl : j = rus.length
          · subst hjl
            have q1 : (rus ++ [ru]).getD rus.length 0 = ru := by simp [List.getD_eq_getElem?_getD]
            have q2 : (rls ++ [((pat, a0, b0), false, [])]).getD rus.length rl0 = ((pat, a0, b0), false, []) := by rw [r4]; simp [List.getD_eq_getElem?_getD]
            rw [q1, q2]
            refine ⟨al, z0, [], by rw [e5 ru (Ne.symm hpr2) hruea]; exact hru2, by rw [va_up_other _ _ _ hruea, va_up_other _ _ _ (Ne.symm rual), va_up_same], isPat_ok hp, ⟨⟨0, by rw [e5 al (Ne.symm hpral) halea]; exact hal2⟩, by simp, by rw [if_pos rfl]⟩, by rw [va_up_other _ _ _ halea, va_up_same], fun h => absurd rfl h, rfl, fun j hj => absurd hj (Nat.not_lt_zero j)⟩
          · have q1 : (rus ++ [ru]).getD j 0 = rus.getD j 0 := by simp only [List.getD_eq_getElem?_getD]; rw [List.getElem?_append_left (by omega)]
            have q2 : (rls ++ [((pat, a0, b0), false, [])]).getD j rl0 = rls.getD j rl0 := by simp only [List.getD_eq_getElem?_getD]; rw [List.getElem?_append_left (by omega)]
            rw [q1, q2]
            refine (r5 j (by omega)).fr (ms := []) k3 lpT.rf (fun p q3 q4 => ?_) (fun p q3 q4 => by rw [hlf p q3]; exact q4) (fun _ h => h)
            have p1 : p ≠ a 1 := fun z => by rw [z, r2] at q3; cases q3
            have p2 : p ≠ ea := fun z => by rw [z, hea (by rw [← z]; exact q4)] at q3; cases q3
            rw [e5 p p1 p2, x2 p q4]
      refine v_xret ?_
      exact v_ireturn C dX11_rule_68 hr (rfl) (Nat.le_of_ble_eq_true rfl) (Nat.le_of_ble_eq_true rfl) (⟨f3, va_up (va_up (va_up lf ru (rus.length + 1)) al (rus.length + 1)) ea 0, rfl, hp, by omega, by rw [r4], hW.kp hL k3 (lpT.rf (ls := [])) (by decide) (by decide), hRn⟩)
    · skip
      exact v_throwS C hl (text := "there are 8 rules") 18 rfl rfl wwX11_rule_cl69 wwX11_rule_in_ISE (by decide) wgX11_rule_ISE wbISE woISE dX11_rule_31 dX11_rule_34 dX11_rule_35 dX11_rule_37 dX11_rule_40 hex (Nat.le_of_ble_eq_true rfl) (Nat.le_of_ble_eq_true rfl) (Nat.le_of_ble_eq_true rfl) (Nat.le_of_ble_eq_true rfl) (Nat.le_of_ble_eq_true rfl) (Nat.le_of_ble_eq_true rfl) (gS_F) (⟨rfl, Or.inr ⟨rfl, hp, by rw [← r4]; exact le_ofn (b := 8) c2 (by omega) (by decide)⟩⟩)
  · skip
    exact v_throwS C hl (text := "no such pattern") 17 rfl rfl wwX11_rule_cl58 wwX11_rule_in_IAE (by decide) wgX11_rule_IAE wbIAE woIAE dX11_rule_9 dX11_rule_12 dX11_rule_13 dX11_rule_15 dX11_rule_18 hex (Nat.le_of_ble_eq_true rfl) (Nat.le_of_ble_eq_true rfl) (Nat.le_of_ble_eq_true rfl) (Nat.le_of_ble_eq_true rfl) (Nat.le_of_ble_eq_true rfl) (Nat.le_of_ble_eq_true rfl) (gS_F) (⟨rfl, Or.inl ⟨rfl, bI_0 c1⟩⟩)
end RA
