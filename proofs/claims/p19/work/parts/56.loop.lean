/-! ===== the law's loop ===== -/
theorem wwzL_law_k50 : Cond.constant RL 50 (-200000) ∈ wsL_law := by decide +kernel
theorem wwzL_law_k47 : Cond.constant RL 47 (-300000) ∈ wsL_law := by decide +kernel
def lvL (j b : Nat) (ad al a : Nat → Nat) : List (Nat × Value) := [(14, .int (nI j)), (13, .int 1), (12, .ref (al 3)), (11, .ref (al 2)), (10, .ref (al 1)), (9, .ref (ad 6)), (8, .ref (ad 5)), (7, .ref (al 0)), (6, .ref (ad 4)), (5, .ref (ad 3)), (4, .ref (ad 2)), (3, .ref (ad 1)), (2, .ref (ad 0)), (1, .ref (a 0)), (0, .ref b)]
theorem opRule_bad (S : aS) : dval [-200000, -100000] (opRule S (-1) 0 0) = -200000 ∧ (opRule S (-1) 0 0).2.2 = S := by unfold opRule; rw [if_neg (by decide)]; exact ⟨rfl, rfl⟩
theorem opAct_bad (S : aS) (h : S.2.2.2.2.length ≤ 8) : dval [-300000, -200000, -100000] (opAct S 8 0 0 0 0 0) = -300000 ∧ (opAct S 8 0 0 0 0 0).2.2 = S := by
  unfold opAct
  rw [if_neg (fun z => by have := (nI_ltI (a := 8) (b := S.2.2.2.2.length) (by decide) (by omega)).mp z.2; omega)]
  exact ⟨rfl, rfl⟩
theorem opSep_bad (S : aS) : dval [-200000] (opSep S (-1)) = -200000 ∧ (opSep S (-1)).2.2 = S := by unfold opSep; rw [if_neg (by decide)]; exact ⟨rfl, rfl⟩
theorem opSetF_bad (S : aS) : dval [-300000] (opSetF S (-1) 0) = -300000 ∧ (opSetF S (-1) 0).2.2 = S := by unfold opSetF; rw [if_neg (by decide)]; exact ⟨rfl, rfl⟩
section LOOP
variable {p : Program} {l : Launch} {e : Env} {s : State} {m : MethodId} {below : List Frame} {meth : Method} {c : Code}
variable {D : va_G} {tys : List (ClassId × FieldType)} {z0 : Nat} {A : Nat → Prop} {cC cI cJ cO cT cR : ClassId} {b L : Nat} {ad al a na : Nat → Nat} {xs : Nat → Int32}
theorem lw_end9 {σ : Type} {pic : σ → Heap → Prop} {x : σ} {k n : Nat} {lv : List (Nat × Value)} (C : cx p s m #[Value.ref b] meth c code 15 wsL_law RL D tys z0 A) (hr : meth.sig.returnType = ret) (hA : ∀ q, A q → s.heap.size ≤ q) (hk : k ≤ 679049) (hn : n ≤ 7064622) : vv pic A 15 p l e room_1 s m #[Value.ref b] below meth c (lw_Z below #[Value.ref b] s) x k n 269 lv [] := by
  refine v_iconst C dL_law_269 (v := 1) (by decide) ?_
  refine v_goto C 274 dL_law_270 (by decide) ?_
  intro H locs ls hP hS hl9
  refine W.widen hk hn ?_
  have h := lw_ret (p := p) (l := l) (e := e) (s := s) (m := m) (below := below) (b := b) (H := H) (ls := ls) C.1.1 C.1.2.1 hr C.2.2 dL_law_274
  exact W.forget (L := locs) (locs := []) (fun q hq => hA _ (hS.2.2 q hq)) h
set_option maxRecDepth 100000 in
set_option maxHeartbeats 8000000 in
theorem law_tail {xf : fS} {X : Nat → Nat → Int32} {Y : Nat → Nat → Int64} {S : aS} {lv : List (Nat × Value)} (hT : lwT l tys cC cI cR cT cO cJ) (C : cx p s m #[Value.ref b] meth c code 15 wsL_law RL D tys z0 A) (hr : meth.sig.returnType = ret) (hA9 : ∀ q, A q → s.heap.size ≤ q) (hF : fI z0 cI cO cT cR a na xf S) (hA : nA X Y S) (hk : okS S) : vv (picL D cC cI cJ ad al A) A 15 p l e room_1 s m #[Value.ref b] below meth c (lw_Z below #[Value.ref b] s) (xf, X, Y) 290000 1740000 211 ((13, .int 1) :: (1, .ref (a 0)) :: lv) [] := by
  obtain ⟨hl, ht, ht1, ht3, ht4, ht5, ht6⟩ := hT
  have h8 := hA.1.2.2.2.2.1
  refine v_iload C dL_law_211 (j := 0) rfl ?_
  refine v_if_eq C 273 dL_law_213 (by decide) (fun b1 => absurd b1 (by decide)) (fun b1 => ?_)
  refine v_aload_n C dL_law_216 (j := 1) rfl rfl ?_
  refine v_iconst C dL_law_217 (v := 0) (by decide) ?_
  refine v_iconst C dL_law_218 (v := (-1)) (by decide) ?_
  refine v_iconst C dL_law_219 (v := 0) (by decide) ?_
  refine v_iconst C dL_law_220 (v := 0) (by decide) ?_
  refine l_cS C (D_rule hl ht5 hF (-1) 0 0) (vx_cwSW 5 C.1.2.2.2.2 gL_law_L_does rfl rfl rfl (by decide +kernel) ⟨Nat.le_of_ble_eq_true rfl, Nat.le_of_ble_eq_true rfl⟩) rfl dL_law_221 (rest := []) (Nat.le_of_ble_eq_true rfl) rfl ⟨(by first | exact Nat.le_of_ble_eq_true rfl | (dsimp only [rmL, rm0]; omega)), (by first | exact Nat.le_of_ble_eq_true rfl | (dsimp only [rmL, rm0]; omega))⟩ (fun q x' hp => ?_)
  obtain ⟨x3, rfl, rfl, hF⟩ := hp
  rw [(opRule_bad S).2] at hF
  rw [(opRule_bad S).1]
  refine v_ldc C dL_law_224 (v := (-200000)) wwzL_law_k50 ?_
  refine v_icmp_ne C 273 dL_law_226 (by decide) (fun b2 => absurd b2 (by decide)) (fun b2 => ?_)
  refine v_aload_n C dL_law_229 (j := 1) rfl rfl ?_
  refine v_iconst C dL_law_230 (v := 1) (by decide) ?_
  refine v_bipush C dL_law_231 (v := 8) (by decide) ?_
  refine v_iconst C dL_law_233 (v := 0) (by decide) ?_
  refine v_iconst C dL_law_234 (v := 0) (by decide) ?_
  refine l_cS C (D_act hl ht ht1 ht5 hF 8 0 0) (vx_cwSW 5 C.1.2.2.2.2 gL_law_L_does rfl rfl rfl (by decide +kernel) ⟨Nat.le_of_ble_eq_true rfl, Nat.le_of_ble_eq_true rfl⟩) rfl dL_law_235 (rest := []) (Nat.le_of_ble_eq_true rfl) rfl ⟨(by first | exact Nat.le_of_ble_eq_true rfl | (dsimp only [rmL, rm0]; omega)), (by first | exact Nat.le_of_ble_eq_true rfl | (dsimp only [rmL, rm0]; omega))⟩ (fun q x' hp => ?_)
  obtain ⟨x4, rfl, rfl, hF⟩ := hp
  rw [(opAct_bad S h8).2] at hF
  rw [(opAct_bad S h8).1]
  refine v_ldc C dL_law_238 (v := (-300000)) wwzL_law_k47 ?_
  refine v_icmp_ne C 273 dL_law_240 (by decide) (fun b3 => absurd b3 (by decide)) (fun b3 => ?_)
  refine v_aload_n C dL_law_243 (j := 1) rfl rfl ?_
  refine v_iconst C dL_law_244 (v := 2) (by decide) ?_
  refine v_iconst C dL_law_245 (v := (-1)) (by decide) ?_
  refine v_iconst C dL_law_246 (v := 0) (by decide) ?_
  refine v_iconst C dL_law_247 (v := 0) (by decide) ?_
  refine l_cS C (D_setSeparator hl ht ht4 hF (-1) 0 0) (vx_cwSW 5 C.1.2.2.2.2 gL_law_L_does rfl rfl rfl (by decide +kernel) ⟨Nat.le_of_ble_eq_true rfl, Nat.le_of_ble_eq_true rfl⟩) rfl dL_law_248 (rest := []) (Nat.le_of_ble_eq_true rfl) rfl ⟨(by first | exact Nat.le_of_ble_eq_true rfl | (dsimp only [rmL, rm0]; omega)), (by first | exact Nat.le_of_ble_eq_true rfl | (dsimp only [rmL, rm0]; omega))⟩ (fun q x' hp => ?_)
  obtain ⟨x5, rfl, rfl, hF⟩ := hp
  rw [(opSep_bad S).2] at hF
  rw [(opSep_bad S).1]
  refine v_ldc C dL_law_251 (v := (-200000)) wwzL_law_k50 ?_
  refine v_icmp_ne C 273 dL_law_253 (by decide) (fun b4 => absurd b4 (by decide)) (fun b4 => ?_)
  refine v_aload_n C dL_law_256 (j := 1) rfl rfl ?_
  refine v_iconst C dL_law_257 (v := 4) (by decide) ?_
  refine v_iconst C dL_law_258 (v := (-1)) (by decide) ?_
  refine v_iconst C dL_law_259 (v := 0) (by decide) ?_
  refine v_iconst C dL_law_260 (v := 0) (by decide) ?_
  refine l_cS C (D_setField hl ht ht4 (al_ch _ hk.1) hF (-1) 0 0) (vx_cwSW 5 C.1.2.2.2.2 gL_law_L_does rfl rfl rfl (by decide +kernel) ⟨Nat.le_of_ble_eq_true rfl, Nat.le_of_ble_eq_true rfl⟩) rfl dL_law_261 (rest := []) (Nat.le_of_ble_eq_true rfl) rfl ⟨(by first | exact Nat.le_of_ble_eq_true rfl | (dsimp only [rmL, rm0]; omega)), (by first | exact Nat.le_of_ble_eq_true rfl | (dsimp only [rmL, rm0]; omega))⟩ (fun q x' hp => ?_)
  obtain ⟨x6, rfl, rfl, hF⟩ := hp
  rw [(opSetF_bad S).1]
  refine v_ldc C dL_law_264 (v := (-300000)) wwzL_law_k47 ?_
  refine v_icmp_ne C 273 dL_law_266 (by decide) (fun b5 => absurd b5 (by decide)) (fun b5 => ?_)
  exact lw_end9 C hr hA9 (Nat.le_of_ble_eq_true rfl) (Nat.le_of_ble_eq_true rfl)
set_option maxRecDepth 100000 in
set_option maxHeartbeats 8000000 in
theorem law_loop {xf : fS} {X : Nat → Nat → Int32} {Y : Nat → Nat → Int64} {S : aS} {j N : Nat} (hT : lwT l tys cC cI cR cT cO cJ) (C : cx p s m #[Value.ref b] meth c code 15 wsL_law RL D tys z0 A) (hr : meth.sig.returnType = ret) (hA9 : ∀ q, A q → s.heap.size ≤ q) (hX : scr b L xs A s) (hL : L ≤ 260) (hF : fI z0 cI cO cT cR a na xf S) (hA : nA X Y S) (hk : okS S) (hN : S.2.1 = nI N) (hNj : N ≤ 1 + j) (hj : j ≤ 60) : vv (picL D cC cI cJ ad al A) A 15 p l e room_1 s m #[Value.ref b] below meth c (lw_Z below #[Value.ref b] s) (xf, X, Y) (5000 + 4730 * j) (34000 + 28400 * j) 127 (lvL j b ad al a) [] := by
  unfold lvL
  have hq : room_1.cells = 679049 ∧ room_1.slots = 7064622 := ⟨rfl, rfl⟩
  obtain ⟨hq1, hq2⟩ := hq
  induction hd : (60 - j) using Nat.strongRecOn generalizing j N S X Y xf with | _ d ih =>
    refine v_iload C dL_law_127 (j := 0) rfl ?_
    refine v_bipush C dL_law_129 (v := 60) (by decide) ?_
    refine v_icmp_ge C 211 dL_law_131 (by decide) (fun c1 => ?_) (fun c1 => ?_)
    · skip
      have c2 : j = 60 := by have := le_of (a := 60) c1 (by decide) (by omega); omega
      refine v_kn (k' := 290000) (n' := 1740000) (by first | exact Nat.le_refl _ | exact Nat.le_of_ble_eq_true rfl | omega | (dsimp only [rmL, rm0]; omega)) (by first | exact Nat.le_refl _ | exact Nat.le_of_ble_eq_true rfl | omega | (dsimp only [rmL, rm0]; omega)) ?_
      exact v_sub [1, 13, 14] rfl (law_tail hT C hr hA9 hF hA hk)
    · skip
      have c2 : j < 60 := lt_ofn (a := 60) c1 (by decide) (by omega)
      refine v_iload C dL_law_134 (j := 1) rfl ?_
      refine v_if_eq C 211 dL_law_136 (by decide) (fun b1 => absurd b1 (by decide)) (fun b1 => ?_)
      refine v_aload_n C dL_law_139 (j := 13) rfl rfl ?_
      refine v_aload_n C dL_law_140 (j := 14) rfl rfl ?_
      refine v_iconst C dL_law_141 (v := 4) (by decide) ?_
      refine v_iload C dL_law_142 (j := 0) rfl ?_
      refine v_imul C dL_law_144 ?_
      refine v_int (b := nI (4 * j)) (by rw [show (4 : Int32) = nI 4 from rfl, nI_mul]) ?_
      refine v_aload_n C dL_law_145 (j := 12) rfl rfl ?_
      refine v_aload_n C dL_law_146 (j := 11) rfl rfl ?_
      refine v_aload C dL_law_147 (j := 10) rfl ?_
      refine v_aload C dL_law_149 (j := 9) rfl ?_
      refine v_aload C dL_law_151 (j := 8) rfl ?_
      refine v_aload C dL_law_153 (j := 7) rfl ?_
      refine v_aload C dL_law_155 (j := 6) rfl ?_
      refine v_aload C dL_law_157 (j := 5) rfl ?_
      refine v_aload C dL_law_159 (j := 4) rfl ?_
      refine v_aload C dL_law_161 (j := 3) rfl ?_
      refine v_aload C dL_law_163 (j := 2) rfl ?_
      refine v_ci (v_runSS C hX (n_isDone hT hL (i := 4 * j) (by omega) hF hA hk ⟨N, by omega, hN⟩) (va_cwS 14 C.1.2.2.2.2 gL_law_L_isDone rfl rfl rfl (by decide +kernel) ⟨Nat.le_of_ble_eq_true rfl, Nat.le_of_ble_eq_true rfl⟩) rfl dL_law_165 (rest := []) (Nat.le_of_ble_eq_true rfl) rfl ⟨(by first | exact Nat.le_of_ble_eq_true rfl | (dsimp only [rmL, rm0]; omega)), (by first | exact Nat.le_of_ble_eq_true rfl | (dsimp only [rmL, rm0]; omega))⟩) (fun q x' hp => ?_)
      obtain ⟨xf2, X2, Y2, S2, rfl, rfl, hF2, hA2, hk2, hN2⟩ := hp
      refine v_if_eq C 202 dL_law_168 (by decide) (fun b2 => absurd b2 (by decide)) (fun b2 => ?_)
      refine v_aload_n C dL_law_171 (j := 13) rfl rfl ?_
      refine v_aload_n C dL_law_172 (j := 12) rfl rfl ?_
      refine v_aload C dL_law_173 (j := 6) rfl ?_
      refine v_ci (v_runS C (n_isRecord hT hF2 hA2) (va_cwS 3 C.1.2.2.2.2 gL_law_L_isRecord rfl rfl rfl (by decide +kernel) ⟨Nat.le_of_ble_eq_true rfl, Nat.le_of_ble_eq_true rfl⟩) rfl dL_law_175 (rest := []) (Nat.le_of_ble_eq_true rfl) rfl ⟨(by first | exact Nat.le_of_ble_eq_true rfl | (dsimp only [rmL, rm0]; omega)), (by first | exact Nat.le_of_ble_eq_true rfl | (dsimp only [rmL, rm0]; omega))⟩) (fun q x' hp => ?_)
      obtain ⟨xf3, rfl, rfl, hF3⟩ := hp
      refine v_if_eq C 202 dL_law_178 (by decide) (fun b3 => absurd b3 (by decide)) (fun b3 => ?_)
      refine v_aload_n C dL_law_181 (j := 13) rfl rfl ?_
      refine v_aload C dL_law_182 (j := 6) rfl ?_
      refine v_aload C dL_law_184 (j := 5) rfl ?_
      refine v_aload C dL_law_186 (j := 4) rfl ?_
      refine v_aload C dL_law_188 (j := 3) rfl ?_
      refine v_aload C dL_law_190 (j := 2) rfl ?_
      refine v_ci (v_runS C (n_areRows hT hF3 hA2 hk2) (va_cwS 6 C.1.2.2.2.2 gL_law_L_areRows rfl rfl rfl (by decide +kernel) ⟨Nat.le_of_ble_eq_true rfl, Nat.le_of_ble_eq_true rfl⟩) rfl dL_law_192 (rest := []) (Nat.le_of_ble_eq_true rfl) rfl ⟨(by first | exact Nat.le_of_ble_eq_true rfl | (dsimp only [rmL, rm0]; omega)), (by first | exact Nat.le_of_ble_eq_true rfl | (dsimp only [rmL, rm0]; omega))⟩) (fun q x' hp => ?_)
      obtain ⟨xf4, rfl, rfl, hF4⟩ := hp
      refine v_if_eq C 202 dL_law_195 (by decide) (fun b4 => absurd b4 (by decide)) (fun b4 => ?_)
      refine v_iconst C dL_law_198 (v := 1) (by decide) ?_
      refine v_goto C 203 dL_law_199 (by decide) ?_
      refine v_istore C dL_law_203 (by decide) (lv' := [(13, _), (14, _), (12, _), (11, _), (10, _), (9, _), (8, _), (7, _), (6, _), (5, _), (4, _), (3, _), (2, _), (1, _), (0, _)]) rfl ?_
      refine v_iinc C dL_law_205 (j := 1) (v := _ + 1) rfl rfl (by decide) (lv' := [(14, _), (13, _), (12, _), (11, _), (10, _), (9, _), (8, _), (7, _), (6, _), (5, _), (4, _), (3, _), (2, _), (1, _), (0, _)]) rfl ?_
      refine v_goto C 127 dL_law_208 (by decide) ?_
      rw [nI_1]
      refine v_kn (k' := 5000 + 4730 * (j + 1)) (n' := 34000 + 28400 * (j + 1)) (by first | exact Nat.le_refl _ | exact Nat.le_of_ble_eq_true rfl | omega | (dsimp only [rmL, rm0]; omega)) (by first | exact Nat.le_refl _ | exact Nat.le_of_ble_eq_true rfl | omega | (dsimp only [rmL, rm0]; omega)) ?_
      rcases hN2 with q | q
      · exact ih (60 - (j + 1)) (by omega) hF4 hA2 hk2 (q.trans hN) (by omega) (by omega) rfl
      · exact ih (60 - (j + 1)) (by omega) hF4 hA2 hk2 (N := N + 1) (by rw [q, hN, nI_1]) (by omega) (by omega) rfl
end LOOP
