/-! ===== the law's calls, one by one ===== -/

abbrev lvL (i b fs md oa : Nat) : List (Nat × Value) := [(4, .int (nI i)), (0, .ref b), (1, .ref fs), (2, .ref md), (3, .ref oa)]
/-- both programs stand for one state, N calls at the most behind -/
def lI (z0 : Nat) (cI cO cT cR : ClassId) (a na : Nat → Nat) (N : Nat) (x : lS) : Prop := ∃ S : aS, ch S.1 ∧ (∃ n, n ≤ N ∧ S.2.1 = nI n) ∧ fI z0 cI cO cT cR a na x.1 S ∧ gI x.2.1 S
def lwT (l : Launch) (tys : List (ClassId × FieldType)) (cC cI cZ cR cT cO cJ : ClassId) : Prop := l.stackTraces = false ∧ tys[0]? = some (cC, .char) ∧ tys[1]? = some (cI, .int) ∧ tys[2]? = some (cZ, .boolean) ∧ tys[3]? = some (cR, .object RX6) ∧ tys[4]? = some (cT, .object RX10) ∧ tys[5]? = some (cO, .object "java/lang/Object") ∧ tys[6]? = some (cJ, .long)
abbrev okS (N : Nat) (S : aS) : Prop := ch S.1 ∧ ∃ n, n ≤ N ∧ S.2.1 = nI n
theorem cmp_self (a : Int64) : lg_cmp a a = 0 := by simp [lg_cmp]
theorem lI_of {z0 : Nat} {cI cO cT cR : ClassId} {a na : Nat → Nat} {N : Nat} {x : lS} {S : aS} (h : okS N S) (hF : fI z0 cI cO cT cR a na x.1 S) (hG : gI x.2.1 S) : lI z0 cI cO cT cR a na N x := ⟨S, h.1, h.2, hF, hG⟩
section OK
variable {N : Nat} {S : aS}
theorem okS_same0 (h1 : ch S.1) (h2 : ∃ n, n ≤ N ∧ S.2.1 = nI n) : okS (N + 1) S := ⟨h1, by obtain ⟨n, h3, h4⟩ := h2; exact ⟨n, by omega, h4⟩⟩
theorem okS_same (h1 : ch S.1) (h2 : ∃ n, n ≤ N ∧ S.2.1 = nI n) {v : Int32} : okS (N + 1) (opVal S v).2.2 := okS_same0 h1 h2
theorem okS_end (h1 : ch S.1) (h2 : ∃ n, n ≤ N ∧ S.2.1 = nI n) : okS (N + 1) (opEnd S).2.2 := ⟨h1, by obtain ⟨n, h3, h4⟩ := h2; exact ⟨n + 1, by omega, by show S.2.1 + 1 = _; rw [h4]; exact nI_1 n⟩⟩
theorem okS_rule (h1 : ch S.1) (h2 : ∃ n, n ≤ N ∧ S.2.1 = nI n) (p1 p2 p3 : Int32) : okS (N + 1) (opRule S p1 p2 p3).2.2 := by
  unfold opRule
  split
  · split
    · exact okS_same0 (S := (S.1, S.2.1, S.2.2.1, S.2.2.2.1, S.2.2.2.2 ++ [((p1, p2, p3), false, [])])) h1 h2
    · exact okS_same0 h1 h2
  · exact okS_same0 h1 h2
theorem okS_act (h1 : ch S.1) (h2 : ∃ n, n ≤ N ∧ S.2.1 = nI n) (p1 p2 p3 p4 p5 p6 : Int32) : okS (N + 1) (opAct S p1 p2 p3 p4 p5 p6).2.2 := by
  unfold opAct
  split
  · split
    · split
      · exact okS_same0 (S := (S.1, S.2.1, S.2.2.1, S.2.2.2.1, actR S.2.2.2.2 p1.toNatClampNeg (p2, p3, p4, p5, p6))) h1 h2
      · exact okS_same0 h1 h2
    · exact okS_same0 h1 h2
  · exact okS_same0 h1 h2
theorem okS_setSeparator (h1 : ch S.1) (h2 : ∃ n, n ≤ N ∧ S.2.1 = nI n) (p1 : Int32) : okS (N + 1) (opSep S p1).2.2 := by
  unfold opSep
  split
  · rename_i h
    exact okS_same0 (S := (sgn p1, S.2.1, S.2.2.1, S.2.2.2.1, S.2.2.2.2)) (sgn_ch h).2 h2
  · exact okS_same0 h1 h2
theorem okS_type (h1 : ch S.1) (h2 : ∃ n, n ≤ N ∧ S.2.1 = nI n) (p1 : Int32) : okS (N + 1) (opType S p1).2.2 := by
  unfold opType
  split
  · split
    · exact okS_same0 (S := (S.1, S.2.1, S.2.2.1 ++ [sgn p1], S.2.2.2.1, S.2.2.2.2)) h1 h2
    · exact okS_same0 h1 h2
  · exact okS_same0 h1 h2
theorem okS_setField (h1 : ch S.1) (h2 : ∃ n, n ≤ N ∧ S.2.1 = nI n) (p1 p2 : Int32) : okS (N + 1) (opSetF S p1 p2).2.2 := by
  unfold opSetF
  split
  · exact okS_same0 (S := (S.1, S.2.1, S.2.2.1, (setR S.1 S.2.2.2.1.1 p1.toNatClampNeg (dec p2), S.2.2.2.1.2), S.2.2.2.2)) h1 h2
  · exact okS_same0 h1 h2
theorem okS_number (h1 : ch S.1) (h2 : ∃ n, n ≤ N ∧ S.2.1 = nI n) (p1 : Int32) : okS (N + 1) (opNum S p1).2.2 := by
  unfold opNum
  split <;> exact okS_same0 h1 h2
theorem okS_character (h1 : ch S.1) (h2 : ∃ n, n ≤ N ∧ S.2.1 = nI n) (p1 p2 : Int32) : okS (N + 1) (opChar S p1 p2).2.2 := by
  unfold opChar
  split <;> exact okS_same0 h1 h2
theorem okS_row (h1 : ch S.1) (h2 : ∃ n, n ≤ N ∧ S.2.1 = nI n) (p1 : Int32) : okS (N + 1) (opRow S p1).2.2 := by
  unfold opRow
  split <;> exact okS_same0 h1 h2
theorem okS_key (h1 : ch S.1) (h2 : ∃ n, n ≤ N ∧ S.2.1 = nI n) (p1 p2 : Int32) : okS (N + 1) (opKey S p1 p2).2.2 := by
  unfold opKey
  split <;> exact okS_same0 h1 h2
theorem okS_line (h1 : ch S.1) (h2 : ∃ n, n ≤ N ∧ S.2.1 = nI n) (p1 p2 : Int32) : okS (N + 1) (opLine S p1 p2).2.2 := by
  unfold opLine
  split <;> exact okS_same0 h1 h2
end OK

section LW
variable {p : Program} {l : Launch} {e : Env} {s : State} {m : MethodId} {args : Array Value} {below : List Frame} {meth : Method} {c : Code} {Q : State → Prop}
variable {D : va_G} {tys : List (ClassId × FieldType)} {z0 : Nat} {A : Nat → Prop} {cC cI cZ cJ cO cT cR : ClassId} {md oa b L i N k n : Nat} {ad a na : Nat → Nat} {xs : Nat → Int32}

set_option maxRecDepth 100000 in
set_option maxHeartbeats 4000000 in
theorem law_rule (hT : lwT l tys cC cI cZ cR cT cO cJ) (C : cx p s m args meth c code 7 wsL_law RL D tys z0 A) (hX : va_X b L xs s s.heap ∧ b < s.heap.size ∧ ¬ A b ∧ L ≤ 3584) (hi : i + 7 ≤ L) (hN : N < 512) (hk : k + 8 ≤ room_1.cells ∧ n + 88 ≤ room_1.slots) {x : lS} (hI : lI z0 cI cO cT cR a na N x) (K : ∀ x', lI z0 cI cO cT cR a na (N + 1) x' → vv (picL D cC cI cZ cJ md oa ad A) A 7 p l e room_1 s m args below meth c Q x' (k + 8) (n + 88) 918 (lvL i b (a 0) md oa) []) : vv (picL D cC cI cZ cJ md oa ad A) A 7 p l e room_1 s m args below meth c Q x k n 120 (lvL i b (a 0) md oa) [] := by
  obtain ⟨xf, ⟨I, M⟩, g⟩ := x
  obtain ⟨S, hS1, ⟨N9, hS2, hS3⟩, hF, hG⟩ := hI
  dsimp only at hF hG
  obtain ⟨hl, ht, ht1, ht2, ht3, ht4, ht5, ht6⟩ := hT
  refine v_lv (lv' := [(4, _), (0, _), (1, _), (2, _), (3, _)]) rfl ?_
  refine v_aload_n C dL_law_120 (j := 2) rfl rfl ?_
  refine v_arg C hX (i := i) (j := 1) (j0 := 1) (j4 := 0) (by omega) dL_law_121 dL_law_122 dL_law_124 dL_law_125 dL_law_126 (by decide) rfl rfl ?_
  refine v_arg C hX (i := i) (j := 2) (j0 := 1) (j4 := 0) (by omega) dL_law_127 dL_law_128 dL_law_130 dL_law_131 dL_law_132 (by decide) rfl rfl ?_
  refine v_arg C hX (i := i) (j := 3) (j0 := 1) (j4 := 0) (by omega) dL_law_133 dL_law_134 dL_law_136 dL_law_137 dL_law_138 (by decide) rfl rfl ?_
  refine v_aload_n C dL_law_139 (j := 4) rfl rfl ?_
  refine l_cS C (W_rule hl ht5 ht6 hF _ _ _) (vx_cwSW 5 C.1.2.2.2.2 gL_law_L_rule rfl rfl rfl (by decide +kernel) ⟨Nat.le_of_ble_eq_true rfl, Nat.le_of_ble_eq_true rfl⟩) rfl dL_law_140 (rest := []) (Nat.le_of_ble_eq_true rfl) rfl ⟨Nat.le_trans (show k + 3 ≤ k + 8 by omega) hk.1, Nat.le_trans (show n + 18 ≤ n + 88 by omega) hk.2⟩ (fun q x1 hq => ?_)
  obtain ⟨x1f, y1, g1⟩ := x1
  obtain ⟨hq1, hy1, hq2, hF1⟩ := hq
  have hy2 : y1 = (I, M) := hy1
  subst hy2
  refine v_istore C dL_law_143 (by decide) (lv' := [(5, _), (4, _), (0, _), (1, _), (2, _), (3, _)]) rfl ?_
  refine v_aload_n C dL_law_145 (j := 4) rfl rfl ?_
  refine v_arg C hX (i := i) (j := 1) (j0 := 2) (j4 := 1) (by omega) dL_law_146 dL_law_147 dL_law_149 dL_law_150 dL_law_151 (by decide) rfl rfl ?_
  refine v_arg C hX (i := i) (j := 2) (j0 := 2) (j4 := 1) (by omega) dL_law_152 dL_law_153 dL_law_155 dL_law_156 dL_law_157 (by decide) rfl rfl ?_
  refine v_arg C hX (i := i) (j := 3) (j0 := 2) (j4 := 1) (by omega) dL_law_158 dL_law_159 dL_law_161 dL_law_162 dL_law_163 (by decide) rfl rfl ?_
  refine l_iM C (fun n9 => M_rule ht1 hG _ _ _) (cwV 3 C.1.2.2.2.2 gL_law_X12_rule rfl rfl rfl (by decide +kernel) ⟨Nat.le_of_ble_eq_true rfl, Nat.le_of_ble_eq_true rfl⟩) rfl dL_law_164 (rest := []) (Nat.le_of_ble_eq_true rfl) rfl ⟨Nat.le_trans (show k + 3 ≤ k + 8 by omega) hk.1, Nat.le_trans (show n + 18 ≤ n + 88 by omega) hk.2⟩ (fun r y2 hr => ?_)
  obtain ⟨I2, M2⟩ := y2
  refine v_istore C dL_law_167 (by decide) (lv' := [(6, _), (5, _), (4, _), (0, _), (1, _), (2, _), (3, _)]) rfl ?_
  refine v_aload_n C dL_law_169 (j := 5) rfl rfl ?_
  refine l_iM C (fun n9 => m_thrown) (cwV 0 C.1.2.2.2.2 gL_law_X12_thrown rfl rfl rfl (by decide +kernel) ⟨Nat.le_of_ble_eq_true rfl, Nat.le_of_ble_eq_true rfl⟩) rfl dL_law_170 (rest := []) (Nat.le_of_ble_eq_true rfl) rfl ⟨Nat.le_trans (show k + 3 ≤ k + 8 by omega) hk.1, Nat.le_trans (show n + 18 ≤ n + 88 by omega) hk.2⟩ (fun t y3 ht9 => ?_)
  obtain ⟨rfl, rfl⟩ := ht9
  obtain ⟨hr1, hr2, hG1⟩ := hr
  dsimp only at hr1 hq1
  refine v_iload C dL_law_173 (j := 1) rfl ?_
  refine v_icmp_eq C 180 dL_law_175 (by decide) (fun c1 => ?_) (fun c1 => ?_)
  · skip
    refine v_iload C dL_law_180 (j := 1) rfl ?_
    refine v_if_ne C 197 dL_law_182 (by decide) (fun c2 => ?_) (fun c2 => ?_)
    · skip
      refine v_goto C 918 dL_law_197 (by decide) ?_
      refine v_sub [2, 3, 4, 5, 6] rfl ?_
      exact v_kn (show k + 3 ≤ k + 8 by omega) (show n + 18 ≤ n + 88 by omega) (K _ (lI_of (okS_rule hS1 ⟨N9, hS2, hS3⟩ _ _ _) hF1 hG1))
    · skip
      refine v_aload_n C dL_law_185 (j := 6) rfl rfl ?_
      refine v_iconst C dL_law_186 (v := 0) (by decide) ?_
      refine v_lald C dL_law_187 6 ht6 L_out in01 ?_
      refine v_iload C dL_law_188 (j := 0) rfl ?_
      refine v_i2l C dL_law_190 ?_
      refine v_lcmp C dL_law_191 ?_
      refine v_if_eq C 197 dL_law_192 (by decide) (fun c3 => ?_) (fun c3 => ?_)
      · skip
        refine v_goto C 918 dL_law_197 (by decide) ?_
        refine v_sub [2, 3, 4, 5, 6] rfl ?_
        exact v_kn (show k + 3 ≤ k + 8 by omega) (show n + 18 ≤ n + 88 by omega) (K _ (lI_of (okS_rule hS1 ⟨N9, hS2, hS3⟩ _ _ _) hF1 hG1))
      · skip
        refine absurd ?_ c3
        rw [show (0 : Int32).toNatClampNeg = 0 from by decide, show g1 0 = _ from hq2 c2, hr2 (hq1.symm.trans c2)]
        exact cmp_self _
  · skip
    exact absurd (hr1.trans hq1.symm) c1
set_option maxRecDepth 100000 in
set_option maxHeartbeats 4000000 in
theorem law_act (hT : lwT l tys cC cI cZ cR cT cO cJ) (C : cx p s m args meth c code 7 wsL_law RL D tys z0 A) (hX : va_X b L xs s s.heap ∧ b < s.heap.size ∧ ¬ A b ∧ L ≤ 3584) (hi : i + 7 ≤ L) (hN : N < 512) (hk : k + 8 ≤ room_1.cells ∧ n + 88 ≤ room_1.slots) {x : lS} (hI : lI z0 cI cO cT cR a na N x) (K : ∀ x', lI z0 cI cO cT cR a na (N + 1) x' → vv (picL D cC cI cZ cJ md oa ad A) A 7 p l e room_1 s m args below meth c Q x' (k + 8) (n + 88) 918 (lvL i b (a 0) md oa) []) : vv (picL D cC cI cZ cJ md oa ad A) A 7 p l e room_1 s m args below meth c Q x k n 200 (lvL i b (a 0) md oa) [] := by
  obtain ⟨xf, ⟨I, M⟩, g⟩ := x
  obtain ⟨S, hS1, ⟨N9, hS2, hS3⟩, hF, hG⟩ := hI
  dsimp only at hF hG
  obtain ⟨hl, ht, ht1, ht2, ht3, ht4, ht5, ht6⟩ := hT
  refine v_lv (lv' := [(4, _), (0, _), (1, _), (2, _), (3, _)]) rfl ?_
  refine v_aload_n C dL_law_200 (j := 2) rfl rfl ?_
  refine v_arg C hX (i := i) (j := 1) (j0 := 1) (j4 := 0) (by omega) dL_law_201 dL_law_202 dL_law_204 dL_law_205 dL_law_206 (by decide) rfl rfl ?_
  refine v_arg C hX (i := i) (j := 2) (j0 := 1) (j4 := 0) (by omega) dL_law_207 dL_law_208 dL_law_210 dL_law_211 dL_law_212 (by decide) rfl rfl ?_
  refine v_arg C hX (i := i) (j := 3) (j0 := 1) (j4 := 0) (by omega) dL_law_213 dL_law_214 dL_law_216 dL_law_217 dL_law_218 (by decide) rfl rfl ?_
  refine v_arg C hX (i := i) (j := 4) (j0 := 1) (j4 := 0) (by omega) dL_law_219 dL_law_220 dL_law_222 dL_law_223 dL_law_224 (by decide) rfl rfl ?_
  refine v_arg C hX (i := i) (j := 5) (j0 := 1) (j4 := 0) (by omega) dL_law_225 dL_law_226 dL_law_228 dL_law_229 dL_law_230 (by decide) rfl rfl ?_
  refine v_argb C hX (i := i) (j := 6) (j0 := 1) (j4 := 0) (by omega) dL_law_231 dL_law_232 dL_law_234 dL_law_236 dL_law_237 (by decide) rfl rfl ?_
  refine v_aload_n C dL_law_238 (j := 4) rfl rfl ?_
  refine l_cS C (W_act hl ht ht1 ht5 ht6 hF _ _ _ _ _ _) (vx_cwSW 8 C.1.2.2.2.2 gL_law_L_act rfl rfl rfl (by decide +kernel) ⟨Nat.le_of_ble_eq_true rfl, Nat.le_of_ble_eq_true rfl⟩) rfl dL_law_239 (rest := []) (Nat.le_of_ble_eq_true rfl) rfl ⟨Nat.le_trans (show k + 8 ≤ k + 8 by omega) hk.1, Nat.le_trans (show n + 88 ≤ n + 88 by omega) hk.2⟩ (fun q x1 hq => ?_)
  obtain ⟨x1f, y1, g1⟩ := x1
  obtain ⟨hq1, hy1, hq2, hF1⟩ := hq
  have hy2 : y1 = (I, M) := hy1
  subst hy2
  refine v_istore C dL_law_242 (by decide) (lv' := [(5, _), (4, _), (0, _), (1, _), (2, _), (3, _)]) rfl ?_
  refine v_aload_n C dL_law_244 (j := 4) rfl rfl ?_
  refine v_arg C hX (i := i) (j := 1) (j0 := 2) (j4 := 1) (by omega) dL_law_245 dL_law_246 dL_law_248 dL_law_249 dL_law_250 (by decide) rfl rfl ?_
  refine v_arg C hX (i := i) (j := 2) (j0 := 2) (j4 := 1) (by omega) dL_law_251 dL_law_252 dL_law_254 dL_law_255 dL_law_256 (by decide) rfl rfl ?_
  refine v_arg C hX (i := i) (j := 3) (j0 := 2) (j4 := 1) (by omega) dL_law_257 dL_law_258 dL_law_260 dL_law_261 dL_law_262 (by decide) rfl rfl ?_
  refine v_arg C hX (i := i) (j := 4) (j0 := 2) (j4 := 1) (by omega) dL_law_263 dL_law_264 dL_law_266 dL_law_267 dL_law_268 (by decide) rfl rfl ?_
  refine v_arg C hX (i := i) (j := 5) (j0 := 2) (j4 := 1) (by omega) dL_law_269 dL_law_270 dL_law_272 dL_law_273 dL_law_274 (by decide) rfl rfl ?_
  refine v_argb C hX (i := i) (j := 6) (j0 := 2) (j4 := 1) (by omega) dL_law_275 dL_law_276 dL_law_278 dL_law_280 dL_law_281 (by decide) rfl rfl ?_
  refine l_iM C (fun n9 => M_act ht1 hG _ _ _ _ _ _) (cwV 6 C.1.2.2.2.2 gL_law_X12_act rfl rfl rfl (by decide +kernel) ⟨Nat.le_of_ble_eq_true rfl, Nat.le_of_ble_eq_true rfl⟩) rfl dL_law_282 (rest := []) (Nat.le_of_ble_eq_true rfl) rfl ⟨Nat.le_trans (show k + 8 ≤ k + 8 by omega) hk.1, Nat.le_trans (show n + 88 ≤ n + 88 by omega) hk.2⟩ (fun r y2 hr => ?_)
  obtain ⟨I2, M2⟩ := y2
  refine v_istore C dL_law_285 (by decide) (lv' := [(6, _), (5, _), (4, _), (0, _), (1, _), (2, _), (3, _)]) rfl ?_
  refine v_aload_n C dL_law_287 (j := 5) rfl rfl ?_
  refine l_iM C (fun n9 => m_thrown) (cwV 0 C.1.2.2.2.2 gL_law_X12_thrown rfl rfl rfl (by decide +kernel) ⟨Nat.le_of_ble_eq_true rfl, Nat.le_of_ble_eq_true rfl⟩) rfl dL_law_288 (rest := []) (Nat.le_of_ble_eq_true rfl) rfl ⟨Nat.le_trans (show k + 8 ≤ k + 8 by omega) hk.1, Nat.le_trans (show n + 88 ≤ n + 88 by omega) hk.2⟩ (fun t y3 ht9 => ?_)
  obtain ⟨rfl, rfl⟩ := ht9
  obtain ⟨hr1, hr2, hG1⟩ := hr
  dsimp only at hr1 hq1
  refine v_iload C dL_law_291 (j := 1) rfl ?_
  refine v_icmp_eq C 298 dL_law_293 (by decide) (fun c1 => ?_) (fun c1 => ?_)
  · skip
    refine v_iload C dL_law_298 (j := 1) rfl ?_
    refine v_if_ne C 315 dL_law_300 (by decide) (fun c2 => ?_) (fun c2 => ?_)
    · skip
      refine v_goto C 918 dL_law_315 (by decide) ?_
      refine v_sub [2, 3, 4, 5, 6] rfl ?_
      exact v_kn (show k + 8 ≤ k + 8 by omega) (show n + 88 ≤ n + 88 by omega) (K _ (lI_of (okS_act hS1 ⟨N9, hS2, hS3⟩ _ _ _ _ _ _) hF1 hG1))
    · skip
      refine v_aload_n C dL_law_303 (j := 6) rfl rfl ?_
      refine v_iconst C dL_law_304 (v := 0) (by decide) ?_
      refine v_lald C dL_law_305 6 ht6 L_out in01 ?_
      refine v_iload C dL_law_306 (j := 0) rfl ?_
      refine v_i2l C dL_law_308 ?_
      refine v_lcmp C dL_law_309 ?_
      refine v_if_eq C 315 dL_law_310 (by decide) (fun c3 => ?_) (fun c3 => ?_)
      · skip
        refine v_goto C 918 dL_law_315 (by decide) ?_
        refine v_sub [2, 3, 4, 5, 6] rfl ?_
        exact v_kn (show k + 8 ≤ k + 8 by omega) (show n + 88 ≤ n + 88 by omega) (K _ (lI_of (okS_act hS1 ⟨N9, hS2, hS3⟩ _ _ _ _ _ _) hF1 hG1))
      · skip
        refine absurd ?_ c3
        rw [show (0 : Int32).toNatClampNeg = 0 from by decide, show g1 0 = _ from hq2 c2, hr2 (hq1.symm.trans c2)]
        exact cmp_self _
  · skip
    exact absurd (hr1.trans hq1.symm) c1
set_option maxRecDepth 100000 in
set_option maxHeartbeats 4000000 in
theorem law_useStack (hT : lwT l tys cC cI cZ cR cT cO cJ) (C : cx p s m args meth c code 7 wsL_law RL D tys z0 A) (hX : va_X b L xs s s.heap ∧ b < s.heap.size ∧ ¬ A b ∧ L ≤ 3584) (hi : i + 7 ≤ L) (hN : N < 512) (hk : k + 8 ≤ room_1.cells ∧ n + 88 ≤ room_1.slots) {x : lS} (hI : lI z0 cI cO cT cR a na N x) (K : ∀ x', lI z0 cI cO cT cR a na (N + 1) x' → vv (picL D cC cI cZ cJ md oa ad A) A 7 p l e room_1 s m args below meth c Q x' (k + 8) (n + 88) 918 (lvL i b (a 0) md oa) []) : vv (picL D cC cI cZ cJ md oa ad A) A 7 p l e room_1 s m args below meth c Q x k n 318 (lvL i b (a 0) md oa) [] := by
  obtain ⟨xf, ⟨I, M⟩, g⟩ := x
  obtain ⟨S, hS1, ⟨N9, hS2, hS3⟩, hF, hG⟩ := hI
  dsimp only at hF hG
  obtain ⟨hl, ht, ht1, ht2, ht3, ht4, ht5, ht6⟩ := hT
  refine v_lv (lv' := [(4, _), (0, _), (1, _), (2, _), (3, _)]) rfl ?_
  refine v_aload_n C dL_law_318 (j := 2) rfl rfl ?_
  refine v_arg C hX (i := i) (j := 1) (j0 := 1) (j4 := 0) (by omega) dL_law_319 dL_law_320 dL_law_322 dL_law_323 dL_law_324 (by decide) rfl rfl ?_
  refine v_if_eq C 332 dL_law_325 (by decide) (fun c1 => ?_) (fun c1 => ?_)
  · skip
    refine v_iconst C dL_law_332 (v := 0) (by decide) ?_
    refine l_vF C (ci := 11) (F_useStack hF false) (cwV 1 C.1.2.2.2.2 gL_law_X11_useStack rfl rfl rfl (by decide +kernel) ⟨Nat.le_of_ble_eq_true rfl, Nat.le_of_ble_eq_true rfl⟩) rfl rfl hF.gC dL_law_333 (rest := []) (Nat.le_of_ble_eq_true rfl) rfl ⟨Nat.le_trans (show k + 0 ≤ k + 8 by omega) hk.1, Nat.le_trans (show n + 0 ≤ n + 88 by omega) hk.2⟩ (fun x1f hF1 => ?_)
    refine v_aload_n C dL_law_336 (j := 3) rfl rfl ?_
    refine v_arg C hX (i := i) (j := 1) (j0 := 1) (j4 := 0) (by omega) dL_law_337 dL_law_338 dL_law_340 dL_law_341 dL_law_342 (by decide) rfl rfl ?_
    refine v_if_eq C 350 dL_law_343 (by decide) (fun c2 => ?_) (fun c2 => ?_)
    · skip
      refine v_iconst C dL_law_350 (v := 0) (by decide) ?_
      refine l_vM C (fun n9 => M_useStack hG _) (cwV 1 C.1.2.2.2.2 gL_law_X12_useStack rfl rfl rfl (by decide +kernel) ⟨Nat.le_of_ble_eq_true rfl, Nat.le_of_ble_eq_true rfl⟩) rfl dL_law_351 (rest := []) (Nat.le_of_ble_eq_true rfl) rfl ⟨Nat.le_trans (show k + 0 ≤ k + 8 by omega) hk.1, Nat.le_trans (show n + 0 ≤ n + 88 by omega) hk.2⟩ (fun y2 hG1 => ?_)
      refine v_goto C 918 dL_law_354 (by decide) ?_
      exact v_kn (show k + 0 ≤ k + 8 by omega) (show n + 0 ≤ n + 88 by omega) (K _ (lI_of (okS_same0 hS1 ⟨N9, hS2, hS3⟩) hF1 hG1))
    · skip
      refine v_iconst C dL_law_346 (v := 1) (by decide) ?_
      refine v_goto C 351 dL_law_347 (by decide) ?_
      refine l_vM C (fun n9 => M_useStack hG _) (cwV 1 C.1.2.2.2.2 gL_law_X12_useStack rfl rfl rfl (by decide +kernel) ⟨Nat.le_of_ble_eq_true rfl, Nat.le_of_ble_eq_true rfl⟩) rfl dL_law_351 (rest := []) (Nat.le_of_ble_eq_true rfl) rfl ⟨Nat.le_trans (show k + 0 ≤ k + 8 by omega) hk.1, Nat.le_trans (show n + 0 ≤ n + 88 by omega) hk.2⟩ (fun y2 hG1 => ?_)
      refine v_goto C 918 dL_law_354 (by decide) ?_
      exact v_kn (show k + 0 ≤ k + 8 by omega) (show n + 0 ≤ n + 88 by omega) (K _ (lI_of (okS_same0 hS1 ⟨N9, hS2, hS3⟩) hF1 hG1))
  · skip
    refine v_iconst C dL_law_328 (v := 1) (by decide) ?_
    refine v_goto C 333 dL_law_329 (by decide) ?_
    refine l_vF C (ci := 11) (F_useStack hF true) (cwV 1 C.1.2.2.2.2 gL_law_X11_useStack rfl rfl rfl (by decide +kernel) ⟨Nat.le_of_ble_eq_true rfl, Nat.le_of_ble_eq_true rfl⟩) rfl rfl hF.gC dL_law_333 (rest := []) (Nat.le_of_ble_eq_true rfl) rfl ⟨Nat.le_trans (show k + 0 ≤ k + 8 by omega) hk.1, Nat.le_trans (show n + 0 ≤ n + 88 by omega) hk.2⟩ (fun x1f hF1 => ?_)
    refine v_aload_n C dL_law_336 (j := 3) rfl rfl ?_
    refine v_arg C hX (i := i) (j := 1) (j0 := 1) (j4 := 0) (by omega) dL_law_337 dL_law_338 dL_law_340 dL_law_341 dL_law_342 (by decide) rfl rfl ?_
    refine v_if_eq C 350 dL_law_343 (by decide) (fun c2 => ?_) (fun c2 => ?_)
    · skip
      refine v_iconst C dL_law_350 (v := 0) (by decide) ?_
      refine l_vM C (fun n9 => M_useStack hG _) (cwV 1 C.1.2.2.2.2 gL_law_X12_useStack rfl rfl rfl (by decide +kernel) ⟨Nat.le_of_ble_eq_true rfl, Nat.le_of_ble_eq_true rfl⟩) rfl dL_law_351 (rest := []) (Nat.le_of_ble_eq_true rfl) rfl ⟨Nat.le_trans (show k + 0 ≤ k + 8 by omega) hk.1, Nat.le_trans (show n + 0 ≤ n + 88 by omega) hk.2⟩ (fun y2 hG1 => ?_)
      refine v_goto C 918 dL_law_354 (by decide) ?_
      exact v_kn (show k + 0 ≤ k + 8 by omega) (show n + 0 ≤ n + 88 by omega) (K _ (lI_of (okS_same0 hS1 ⟨N9, hS2, hS3⟩) hF1 hG1))
    · skip
      refine v_iconst C dL_law_346 (v := 1) (by decide) ?_
      refine v_goto C 351 dL_law_347 (by decide) ?_
      refine l_vM C (fun n9 => M_useStack hG _) (cwV 1 C.1.2.2.2.2 gL_law_X12_useStack rfl rfl rfl (by decide +kernel) ⟨Nat.le_of_ble_eq_true rfl, Nat.le_of_ble_eq_true rfl⟩) rfl dL_law_351 (rest := []) (Nat.le_of_ble_eq_true rfl) rfl ⟨Nat.le_trans (show k + 0 ≤ k + 8 by omega) hk.1, Nat.le_trans (show n + 0 ≤ n + 88 by omega) hk.2⟩ (fun y2 hG1 => ?_)
      refine v_goto C 918 dL_law_354 (by decide) ?_
      exact v_kn (show k + 0 ≤ k + 8 by omega) (show n + 0 ≤ n + 88 by omega) (K _ (lI_of (okS_same0 hS1 ⟨N9, hS2, hS3⟩) hF1 hG1))
set_option maxRecDepth 100000 in
set_option maxHeartbeats 4000000 in
theorem law_setSeparator (hT : lwT l tys cC cI cZ cR cT cO cJ) (C : cx p s m args meth c code 7 wsL_law RL D tys z0 A) (hX : va_X b L xs s s.heap ∧ b < s.heap.size ∧ ¬ A b ∧ L ≤ 3584) (hi : i + 7 ≤ L) (hN : N < 512) (hk : k + 8 ≤ room_1.cells ∧ n + 88 ≤ room_1.slots) {x : lS} (hI : lI z0 cI cO cT cR a na N x) (K : ∀ x', lI z0 cI cO cT cR a na (N + 1) x' → vv (picL D cC cI cZ cJ md oa ad A) A 7 p l e room_1 s m args below meth c Q x' (k + 8) (n + 88) 918 (lvL i b (a 0) md oa) []) : vv (picL D cC cI cZ cJ md oa ad A) A 7 p l e room_1 s m args below meth c Q x k n 357 (lvL i b (a 0) md oa) [] := by
  obtain ⟨xf, ⟨I, M⟩, g⟩ := x
  obtain ⟨S, hS1, ⟨N9, hS2, hS3⟩, hF, hG⟩ := hI
  dsimp only at hF hG
  obtain ⟨hl, ht, ht1, ht2, ht3, ht4, ht5, ht6⟩ := hT
  refine v_lv (lv' := [(4, _), (0, _), (1, _), (2, _), (3, _)]) rfl ?_
  refine v_aload_n C dL_law_357 (j := 2) rfl rfl ?_
  refine v_arg C hX (i := i) (j := 1) (j0 := 1) (j4 := 0) (by omega) dL_law_358 dL_law_359 dL_law_361 dL_law_362 dL_law_363 (by decide) rfl rfl ?_
  refine v_aload_n C dL_law_364 (j := 4) rfl rfl ?_
  refine l_cS C (W_setSeparator hl ht ht4 ht6 hF _) (vx_cwSW 3 C.1.2.2.2.2 gL_law_L_setSeparator rfl rfl rfl (by decide +kernel) ⟨Nat.le_of_ble_eq_true rfl, Nat.le_of_ble_eq_true rfl⟩) rfl dL_law_365 (rest := []) (Nat.le_of_ble_eq_true rfl) rfl ⟨Nat.le_trans (show k + 1 ≤ k + 8 by omega) hk.1, Nat.le_trans (show n + 6 ≤ n + 88 by omega) hk.2⟩ (fun q x1 hq => ?_)
  obtain ⟨x1f, y1, g1⟩ := x1
  obtain ⟨hq1, hy1, hq2, hF1⟩ := hq
  have hy2 : y1 = (I, M) := hy1
  subst hy2
  refine v_istore C dL_law_368 (by decide) (lv' := [(5, _), (4, _), (0, _), (1, _), (2, _), (3, _)]) rfl ?_
  refine v_aload_n C dL_law_370 (j := 4) rfl rfl ?_
  refine v_arg C hX (i := i) (j := 1) (j0 := 2) (j4 := 1) (by omega) dL_law_371 dL_law_372 dL_law_374 dL_law_375 dL_law_376 (by decide) rfl rfl ?_
  refine l_iM C (fun n9 => M_setSeparator ht1 hG _) (cwV 1 C.1.2.2.2.2 gL_law_X12_setSeparator rfl rfl rfl (by decide +kernel) ⟨Nat.le_of_ble_eq_true rfl, Nat.le_of_ble_eq_true rfl⟩) rfl dL_law_377 (rest := []) (Nat.le_of_ble_eq_true rfl) rfl ⟨Nat.le_trans (show k + 1 ≤ k + 8 by omega) hk.1, Nat.le_trans (show n + 6 ≤ n + 88 by omega) hk.2⟩ (fun r y2 hr => ?_)
  obtain ⟨I2, M2⟩ := y2
  refine v_istore C dL_law_380 (by decide) (lv' := [(6, _), (5, _), (4, _), (0, _), (1, _), (2, _), (3, _)]) rfl ?_
  refine v_aload_n C dL_law_382 (j := 5) rfl rfl ?_
  refine l_iM C (fun n9 => m_thrown) (cwV 0 C.1.2.2.2.2 gL_law_X12_thrown rfl rfl rfl (by decide +kernel) ⟨Nat.le_of_ble_eq_true rfl, Nat.le_of_ble_eq_true rfl⟩) rfl dL_law_383 (rest := []) (Nat.le_of_ble_eq_true rfl) rfl ⟨Nat.le_trans (show k + 1 ≤ k + 8 by omega) hk.1, Nat.le_trans (show n + 6 ≤ n + 88 by omega) hk.2⟩ (fun t y3 ht9 => ?_)
  obtain ⟨rfl, rfl⟩ := ht9
  obtain ⟨hr1, hr2, hG1⟩ := hr
  dsimp only at hr1 hq1
  refine v_iload C dL_law_386 (j := 1) rfl ?_
  refine v_icmp_eq C 393 dL_law_388 (by decide) (fun c1 => ?_) (fun c1 => ?_)
  · skip
    refine v_iload C dL_law_393 (j := 1) rfl ?_
    refine v_if_ne C 410 dL_law_395 (by decide) (fun c2 => ?_) (fun c2 => ?_)
    · skip
      refine v_goto C 918 dL_law_410 (by decide) ?_
      refine v_sub [2, 3, 4, 5, 6] rfl ?_
      exact v_kn (show k + 1 ≤ k + 8 by omega) (show n + 6 ≤ n + 88 by omega) (K _ (lI_of (okS_setSeparator hS1 ⟨N9, hS2, hS3⟩ _) hF1 hG1))
    · skip
      refine v_aload_n C dL_law_398 (j := 6) rfl rfl ?_
      refine v_iconst C dL_law_399 (v := 0) (by decide) ?_
      refine v_lald C dL_law_400 6 ht6 L_out in01 ?_
      refine v_iload C dL_law_401 (j := 0) rfl ?_
      refine v_i2l C dL_law_403 ?_
      refine v_lcmp C dL_law_404 ?_
      refine v_if_eq C 410 dL_law_405 (by decide) (fun c3 => ?_) (fun c3 => ?_)
      · skip
        refine v_goto C 918 dL_law_410 (by decide) ?_
        refine v_sub [2, 3, 4, 5, 6] rfl ?_
        exact v_kn (show k + 1 ≤ k + 8 by omega) (show n + 6 ≤ n + 88 by omega) (K _ (lI_of (okS_setSeparator hS1 ⟨N9, hS2, hS3⟩ _) hF1 hG1))
      · skip
        refine absurd ?_ c3
        rw [show (0 : Int32).toNatClampNeg = 0 from by decide, show g1 0 = _ from hq2 c2, hr2 (hq1.symm.trans c2)]
        exact cmp_self _
  · skip
    exact absurd (hr1.trans hq1.symm) c1
set_option maxRecDepth 100000 in
set_option maxHeartbeats 4000000 in
theorem law_type (hT : lwT l tys cC cI cZ cR cT cO cJ) (C : cx p s m args meth c code 7 wsL_law RL D tys z0 A) (hX : va_X b L xs s s.heap ∧ b < s.heap.size ∧ ¬ A b ∧ L ≤ 3584) (hi : i + 7 ≤ L) (hN : N < 512) (hk : k + 8 ≤ room_1.cells ∧ n + 88 ≤ room_1.slots) {x : lS} (hI : lI z0 cI cO cT cR a na N x) (K : ∀ x', lI z0 cI cO cT cR a na (N + 1) x' → vv (picL D cC cI cZ cJ md oa ad A) A 7 p l e room_1 s m args below meth c Q x' (k + 8) (n + 88) 918 (lvL i b (a 0) md oa) []) : vv (picL D cC cI cZ cJ md oa ad A) A 7 p l e room_1 s m args below meth c Q x k n 413 (lvL i b (a 0) md oa) [] := by
  obtain ⟨xf, ⟨I, M⟩, g⟩ := x
  obtain ⟨S, hS1, ⟨N9, hS2, hS3⟩, hF, hG⟩ := hI
  dsimp only at hF hG
  obtain ⟨hl, ht, ht1, ht2, ht3, ht4, ht5, ht6⟩ := hT
  refine v_lv (lv' := [(4, _), (0, _), (1, _), (2, _), (3, _)]) rfl ?_
  refine v_aload_n C dL_law_413 (j := 2) rfl rfl ?_
  refine v_arg C hX (i := i) (j := 1) (j0 := 1) (j4 := 0) (by omega) dL_law_414 dL_law_415 dL_law_417 dL_law_418 dL_law_419 (by decide) rfl rfl ?_
  refine v_aload_n C dL_law_420 (j := 4) rfl rfl ?_
  refine l_cS C (W_type hl ht ht6 hF _) (vx_cwSW 3 C.1.2.2.2.2 gL_law_L_type rfl rfl rfl (by decide +kernel) ⟨Nat.le_of_ble_eq_true rfl, Nat.le_of_ble_eq_true rfl⟩) rfl dL_law_421 (rest := []) (Nat.le_of_ble_eq_true rfl) rfl ⟨Nat.le_trans (show k + 2 ≤ k + 8 by omega) hk.1, Nat.le_trans (show n + 12 ≤ n + 88 by omega) hk.2⟩ (fun q x1 hq => ?_)
  obtain ⟨x1f, y1, g1⟩ := x1
  obtain ⟨hq1, hy1, hq2, hF1⟩ := hq
  have hy2 : y1 = (I, M) := hy1
  subst hy2
  refine v_istore C dL_law_424 (by decide) (lv' := [(5, _), (4, _), (0, _), (1, _), (2, _), (3, _)]) rfl ?_
  refine v_aload_n C dL_law_426 (j := 4) rfl rfl ?_
  refine v_arg C hX (i := i) (j := 1) (j0 := 2) (j4 := 1) (by omega) dL_law_427 dL_law_428 dL_law_430 dL_law_431 dL_law_432 (by decide) rfl rfl ?_
  refine l_iM C (fun n9 => M_type ht1 hG _) (cwV 1 C.1.2.2.2.2 gL_law_X12_type rfl rfl rfl (by decide +kernel) ⟨Nat.le_of_ble_eq_true rfl, Nat.le_of_ble_eq_true rfl⟩) rfl dL_law_433 (rest := []) (Nat.le_of_ble_eq_true rfl) rfl ⟨Nat.le_trans (show k + 2 ≤ k + 8 by omega) hk.1, Nat.le_trans (show n + 12 ≤ n + 88 by omega) hk.2⟩ (fun r y2 hr => ?_)
  obtain ⟨I2, M2⟩ := y2
  refine v_istore C dL_law_436 (by decide) (lv' := [(6, _), (5, _), (4, _), (0, _), (1, _), (2, _), (3, _)]) rfl ?_
  refine v_aload_n C dL_law_438 (j := 5) rfl rfl ?_
  refine l_iM C (fun n9 => m_thrown) (cwV 0 C.1.2.2.2.2 gL_law_X12_thrown rfl rfl rfl (by decide +kernel) ⟨Nat.le_of_ble_eq_true rfl, Nat.le_of_ble_eq_true rfl⟩) rfl dL_law_439 (rest := []) (Nat.le_of_ble_eq_true rfl) rfl ⟨Nat.le_trans (show k + 2 ≤ k + 8 by omega) hk.1, Nat.le_trans (show n + 12 ≤ n + 88 by omega) hk.2⟩ (fun t y3 ht9 => ?_)
  obtain ⟨rfl, rfl⟩ := ht9
  obtain ⟨hr1, hr2, hG1⟩ := hr
  dsimp only at hr1 hq1
  refine v_iload C dL_law_442 (j := 1) rfl ?_
  refine v_icmp_eq C 449 dL_law_444 (by decide) (fun c1 => ?_) (fun c1 => ?_)
  · skip
    refine v_iload C dL_law_449 (j := 1) rfl ?_
    refine v_if_ne C 466 dL_law_451 (by decide) (fun c2 => ?_) (fun c2 => ?_)
    · skip
      refine v_goto C 918 dL_law_466 (by decide) ?_
      refine v_sub [2, 3, 4, 5, 6] rfl ?_
      exact v_kn (show k + 2 ≤ k + 8 by omega) (show n + 12 ≤ n + 88 by omega) (K _ (lI_of (okS_type hS1 ⟨N9, hS2, hS3⟩ _) hF1 hG1))
    · skip
      refine v_aload_n C dL_law_454 (j := 6) rfl rfl ?_
      refine v_iconst C dL_law_455 (v := 0) (by decide) ?_
      refine v_lald C dL_law_456 6 ht6 L_out in01 ?_
      refine v_iload C dL_law_457 (j := 0) rfl ?_
      refine v_i2l C dL_law_459 ?_
      refine v_lcmp C dL_law_460 ?_
      refine v_if_eq C 466 dL_law_461 (by decide) (fun c3 => ?_) (fun c3 => ?_)
      · skip
        refine v_goto C 918 dL_law_466 (by decide) ?_
        refine v_sub [2, 3, 4, 5, 6] rfl ?_
        exact v_kn (show k + 2 ≤ k + 8 by omega) (show n + 12 ≤ n + 88 by omega) (K _ (lI_of (okS_type hS1 ⟨N9, hS2, hS3⟩ _) hF1 hG1))
      · skip
        refine absurd ?_ c3
        rw [show (0 : Int32).toNatClampNeg = 0 from by decide, show g1 0 = _ from hq2 c2, hr2 (hq1.symm.trans c2)]
        exact cmp_self _
  · skip
    exact absurd (hr1.trans hq1.symm) c1
set_option maxRecDepth 100000 in
set_option maxHeartbeats 4000000 in
theorem law_end (hT : lwT l tys cC cI cZ cR cT cO cJ) (C : cx p s m args meth c code 7 wsL_law RL D tys z0 A) (hX : va_X b L xs s s.heap ∧ b < s.heap.size ∧ ¬ A b ∧ L ≤ 3584) (hi : i + 7 ≤ L) (hN : N < 512) (hk : k + 8 ≤ room_1.cells ∧ n + 88 ≤ room_1.slots) {x : lS} (hI : lI z0 cI cO cT cR a na N x) (K : ∀ x', lI z0 cI cO cT cR a na (N + 1) x' → vv (picL D cC cI cZ cJ md oa ad A) A 7 p l e room_1 s m args below meth c Q x' (k + 8) (n + 88) 918 (lvL i b (a 0) md oa) []) : vv (picL D cC cI cZ cJ md oa ad A) A 7 p l e room_1 s m args below meth c Q x k n 469 (lvL i b (a 0) md oa) [] := by
  obtain ⟨xf, ⟨I, M⟩, g⟩ := x
  obtain ⟨S, hS1, ⟨N9, hS2, hS3⟩, hF, hG⟩ := hI
  dsimp only at hF hG
  obtain ⟨hl, ht, ht1, ht2, ht3, ht4, ht5, ht6⟩ := hT
  refine v_lv (lv' := [(4, _), (0, _), (1, _), (2, _), (3, _)]) rfl ?_
  refine v_aload_n C dL_law_469 (j := 2) rfl rfl ?_
  refine l_iF C (ci := 11) (F_end ht ht1 ht3 ht4 ht5 hS1 hF) (cwV 0 C.1.2.2.2.2 gL_law_X11_end rfl rfl rfl (by decide +kernel) ⟨Nat.le_of_ble_eq_true rfl, Nat.le_of_ble_eq_true rfl⟩) rfl rfl hF.gC dL_law_470 (rest := []) (Nat.le_of_ble_eq_true rfl) rfl ⟨Nat.le_trans (show k + 0 ≤ k + 8 by omega) hk.1, Nat.le_trans (show n + 0 ≤ n + 88 by omega) hk.2⟩ (fun q x1f hq => ?_)
  refine v_aload_n C dL_law_473 (j := 3) rfl rfl ?_
  refine l_iM C (fun n9 => M_end ht1 ht2 hG ⟨_, Nat.lt_of_le_of_lt (Nat.add_le_add_right hS2 1) (by omega), hS3⟩) (cwV 0 C.1.2.2.2.2 gL_law_X12_end rfl rfl rfl (by decide +kernel) ⟨Nat.le_of_ble_eq_true rfl, Nat.le_of_ble_eq_true rfl⟩) rfl dL_law_474 (rest := [_]) (Nat.le_of_ble_eq_true rfl) rfl ⟨Nat.le_trans (show k + 0 ≤ k + 8 by omega) hk.1, Nat.le_trans (show n + 0 ≤ n + 88 by omega) hk.2⟩ (fun r y2 hr => ?_)
  obtain ⟨hr1, hr2, hG1⟩ := hr
  obtain ⟨hq1, hF1⟩ := hq
  refine v_icmp_eq C 918 dL_law_477 (by decide) (fun c1 => ?_) (fun c1 => ?_)
  · skip
    exact v_kn (show k + 0 ≤ k + 8 by omega) (show n + 0 ≤ n + 88 by omega) (K _ (lI_of (okS_end hS1 ⟨N9, hS2, hS3⟩) hF1 hG1))
  · skip
    exact absurd (hq1.trans (hr2 rfl).symm) c1
set_option maxRecDepth 100000 in
set_option maxHeartbeats 4000000 in
theorem law_setField (hT : lwT l tys cC cI cZ cR cT cO cJ) (C : cx p s m args meth c code 7 wsL_law RL D tys z0 A) (hX : va_X b L xs s s.heap ∧ b < s.heap.size ∧ ¬ A b ∧ L ≤ 3584) (hi : i + 7 ≤ L) (hN : N < 512) (hk : k + 8 ≤ room_1.cells ∧ n + 88 ≤ room_1.slots) {x : lS} (hI : lI z0 cI cO cT cR a na N x) (K : ∀ x', lI z0 cI cO cT cR a na (N + 1) x' → vv (picL D cC cI cZ cJ md oa ad A) A 7 p l e room_1 s m args below meth c Q x' (k + 8) (n + 88) 918 (lvL i b (a 0) md oa) []) : vv (picL D cC cI cZ cJ md oa ad A) A 7 p l e room_1 s m args below meth c Q x k n 482 (lvL i b (a 0) md oa) [] := by
  obtain ⟨xf, ⟨I, M⟩, g⟩ := x
  obtain ⟨S, hS1, ⟨N9, hS2, hS3⟩, hF, hG⟩ := hI
  dsimp only at hF hG
  obtain ⟨hl, ht, ht1, ht2, ht3, ht4, ht5, ht6⟩ := hT
  refine v_lv (lv' := [(4, _), (0, _), (1, _), (2, _), (3, _)]) rfl ?_
  refine v_aload_n C dL_law_482 (j := 2) rfl rfl ?_
  refine v_arg C hX (i := i) (j := 1) (j0 := 1) (j4 := 0) (by omega) dL_law_483 dL_law_484 dL_law_486 dL_law_487 dL_law_488 (by decide) rfl rfl ?_
  refine v_arg C hX (i := i) (j := 2) (j0 := 1) (j4 := 0) (by omega) dL_law_489 dL_law_490 dL_law_492 dL_law_493 dL_law_494 (by decide) rfl rfl ?_
  refine v_aload_n C dL_law_495 (j := 4) rfl rfl ?_
  refine l_cS C (W_setField hl ht ht4 ht6 hS1 hF _ _) (vx_cwSW 4 C.1.2.2.2.2 gL_law_L_setField rfl rfl rfl (by decide +kernel) ⟨Nat.le_of_ble_eq_true rfl, Nat.le_of_ble_eq_true rfl⟩) rfl dL_law_496 (rest := []) (Nat.le_of_ble_eq_true rfl) rfl ⟨Nat.le_trans (show k + 1 ≤ k + 8 by omega) hk.1, Nat.le_trans (show n + 6 ≤ n + 88 by omega) hk.2⟩ (fun q x1 hq => ?_)
  obtain ⟨x1f, y1, g1⟩ := x1
  obtain ⟨hq1, hy1, hq2, hF1⟩ := hq
  have hy2 : y1 = (I, M) := hy1
  subst hy2
  refine v_istore C dL_law_499 (by decide) (lv' := [(5, _), (4, _), (0, _), (1, _), (2, _), (3, _)]) rfl ?_
  refine v_aload_n C dL_law_501 (j := 4) rfl rfl ?_
  refine v_arg C hX (i := i) (j := 1) (j0 := 2) (j4 := 1) (by omega) dL_law_502 dL_law_503 dL_law_505 dL_law_506 dL_law_507 (by decide) rfl rfl ?_
  refine v_arg C hX (i := i) (j := 2) (j0 := 2) (j4 := 1) (by omega) dL_law_508 dL_law_509 dL_law_511 dL_law_512 dL_law_513 (by decide) rfl rfl ?_
  refine l_iM C (fun n9 => M_setField ht1 hG _ _) (cwV 2 C.1.2.2.2.2 gL_law_X12_setField rfl rfl rfl (by decide +kernel) ⟨Nat.le_of_ble_eq_true rfl, Nat.le_of_ble_eq_true rfl⟩) rfl dL_law_514 (rest := []) (Nat.le_of_ble_eq_true rfl) rfl ⟨Nat.le_trans (show k + 1 ≤ k + 8 by omega) hk.1, Nat.le_trans (show n + 6 ≤ n + 88 by omega) hk.2⟩ (fun r y2 hr => ?_)
  obtain ⟨I2, M2⟩ := y2
  refine v_istore C dL_law_517 (by decide) (lv' := [(6, _), (5, _), (4, _), (0, _), (1, _), (2, _), (3, _)]) rfl ?_
  refine v_aload_n C dL_law_519 (j := 5) rfl rfl ?_
  refine l_iM C (fun n9 => m_thrown) (cwV 0 C.1.2.2.2.2 gL_law_X12_thrown rfl rfl rfl (by decide +kernel) ⟨Nat.le_of_ble_eq_true rfl, Nat.le_of_ble_eq_true rfl⟩) rfl dL_law_520 (rest := []) (Nat.le_of_ble_eq_true rfl) rfl ⟨Nat.le_trans (show k + 1 ≤ k + 8 by omega) hk.1, Nat.le_trans (show n + 6 ≤ n + 88 by omega) hk.2⟩ (fun t y3 ht9 => ?_)
  obtain ⟨rfl, rfl⟩ := ht9
  obtain ⟨hr1, hr2, hG1⟩ := hr
  dsimp only at hr1 hq1
  refine v_iload C dL_law_523 (j := 1) rfl ?_
  refine v_icmp_eq C 530 dL_law_525 (by decide) (fun c1 => ?_) (fun c1 => ?_)
  · skip
    refine v_iload C dL_law_530 (j := 1) rfl ?_
    refine v_if_ne C 547 dL_law_532 (by decide) (fun c2 => ?_) (fun c2 => ?_)
    · skip
      refine v_goto C 918 dL_law_547 (by decide) ?_
      refine v_sub [2, 3, 4, 5, 6] rfl ?_
      exact v_kn (show k + 1 ≤ k + 8 by omega) (show n + 6 ≤ n + 88 by omega) (K _ (lI_of (okS_setField hS1 ⟨N9, hS2, hS3⟩ _ _) hF1 hG1))
    · skip
      refine v_aload_n C dL_law_535 (j := 6) rfl rfl ?_
      refine v_iconst C dL_law_536 (v := 0) (by decide) ?_
      refine v_lald C dL_law_537 6 ht6 L_out in01 ?_
      refine v_iload C dL_law_538 (j := 0) rfl ?_
      refine v_i2l C dL_law_540 ?_
      refine v_lcmp C dL_law_541 ?_
      refine v_if_eq C 547 dL_law_542 (by decide) (fun c3 => ?_) (fun c3 => ?_)
      · skip
        refine v_goto C 918 dL_law_547 (by decide) ?_
        refine v_sub [2, 3, 4, 5, 6] rfl ?_
        exact v_kn (show k + 1 ≤ k + 8 by omega) (show n + 6 ≤ n + 88 by omega) (K _ (lI_of (okS_setField hS1 ⟨N9, hS2, hS3⟩ _ _) hF1 hG1))
      · skip
        refine absurd ?_ c3
        rw [show (0 : Int32).toNatClampNeg = 0 from by decide, show g1 0 = _ from hq2 c2, hr2 (hq1.symm.trans c2)]
        exact cmp_self _
  · skip
    exact absurd (hr1.trans hq1.symm) c1
set_option maxRecDepth 100000 in
set_option maxHeartbeats 4000000 in
theorem law_fields (hT : lwT l tys cC cI cZ cR cT cO cJ) (C : cx p s m args meth c code 7 wsL_law RL D tys z0 A) (hX : va_X b L xs s s.heap ∧ b < s.heap.size ∧ ¬ A b ∧ L ≤ 3584) (hi : i + 7 ≤ L) (hN : N < 512) (hk : k + 8 ≤ room_1.cells ∧ n + 88 ≤ room_1.slots) {x : lS} (hI : lI z0 cI cO cT cR a na N x) (K : ∀ x', lI z0 cI cO cT cR a na (N + 1) x' → vv (picL D cC cI cZ cJ md oa ad A) A 7 p l e room_1 s m args below meth c Q x' (k + 8) (n + 88) 918 (lvL i b (a 0) md oa) []) : vv (picL D cC cI cZ cJ md oa ad A) A 7 p l e room_1 s m args below meth c Q x k n 550 (lvL i b (a 0) md oa) [] := by
  obtain ⟨xf, ⟨I, M⟩, g⟩ := x
  obtain ⟨S, hS1, ⟨N9, hS2, hS3⟩, hF, hG⟩ := hI
  dsimp only at hF hG
  obtain ⟨hl, ht, ht1, ht2, ht3, ht4, ht5, ht6⟩ := hT
  refine v_lv (lv' := [(4, _), (0, _), (1, _), (2, _), (3, _)]) rfl ?_
  refine v_aload_n C dL_law_550 (j := 2) rfl rfl ?_
  refine l_iF C (ci := 11) (F_fields hF) (cwV 0 C.1.2.2.2.2 gL_law_X11_fields rfl rfl rfl (by decide +kernel) ⟨Nat.le_of_ble_eq_true rfl, Nat.le_of_ble_eq_true rfl⟩) rfl rfl hF.gC dL_law_551 (rest := []) (Nat.le_of_ble_eq_true rfl) rfl ⟨Nat.le_trans (show k + 0 ≤ k + 8 by omega) hk.1, Nat.le_trans (show n + 0 ≤ n + 88 by omega) hk.2⟩ (fun q x1f hq => ?_)
  refine v_aload_n C dL_law_554 (j := 3) rfl rfl ?_
  refine l_iM C (fun n9 => M_fields hG) (cwV 0 C.1.2.2.2.2 gL_law_X12_fields rfl rfl rfl (by decide +kernel) ⟨Nat.le_of_ble_eq_true rfl, Nat.le_of_ble_eq_true rfl⟩) rfl dL_law_555 (rest := [_]) (Nat.le_of_ble_eq_true rfl) rfl ⟨Nat.le_trans (show k + 0 ≤ k + 8 by omega) hk.1, Nat.le_trans (show n + 0 ≤ n + 88 by omega) hk.2⟩ (fun r y2 hr => ?_)
  obtain ⟨hr1, hr2, hG1⟩ := hr
  obtain ⟨hq1, hF1⟩ := hq
  refine v_icmp_eq C 918 dL_law_558 (by decide) (fun c1 => ?_) (fun c1 => ?_)
  · skip
    exact v_kn (show k + 0 ≤ k + 8 by omega) (show n + 0 ≤ n + 88 by omega) (K _ (lI_of (okS_same hS1 ⟨N9, hS2, hS3⟩) hF1 hG1))
  · skip
    exact absurd (hq1.trans (hr2 rfl).symm) c1
end LW
