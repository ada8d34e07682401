/-! ===== the picture of texts: f other cells, ar a text's array, ln its length, g its signs ===== -/
abbrev tS : Type := (Nat → Option va_E) × (Nat → Option Nat) × (Nat → Nat) × (Nat → Nat → Int32)
def picT (D : va_G) (cC : ClassId) (A : Nat → Prop) (x : tS) (H : Heap) : Prop :=
  (∀ a e, x.1 a = some e → A a ∧ va_at D vwCl (a, e) H) ∧
  (∀ t a, x.2.1 t = some a → A t ∧ A a ∧ va_at D vwCl (t, .inr (10, [.ref a, .int (nI (x.2.2.1 t))])) H ∧ va_at D vwCl (a, .inl (cC, 60, .inl (x.2.2.2 t))) H ∧ x.2.2.1 t ≤ 60) ∧
  (∀ t t' a, x.2.1 t = some a → x.2.1 t' = some a → t = t') ∧ ∀ t a, x.2.1 t = some a → x.2.1 a = none ∧ x.1 t = none ∧ x.1 a = none
section TX
variable {D : va_G} {cC : ClassId} {A : Nat → Prop} {f : Nat → Option va_E} {ar : Nat → Option Nat} {ln : Nat → Nat} {g : Nat → Nat → Int32} {t a : Nat}
theorem va_up_same {α : Type} (f : Nat → α) (k : Nat) (v : α) : va_up f k v k = v := by simp [va_up]
theorem va_up_other {α : Type} (f : Nat → α) (k : Nat) (v : α) {j : Nat} (h : j ≠ k) : va_up f k v j = f j := by simp [va_up, h]
theorem T_sig (h : ar t = some a) : gO D (picT D cC A) (f, ar, ln, g) 10 t 0 (.ref a) := fun H hP => ⟨_, (hP.2.1 t a h).2.2.1, rfl⟩
theorem T_len (h : ar t = some a) : gO D (picT D cC A) (f, ar, ln, g) 10 t 1 (.int (nI (ln t))) := fun H hP => ⟨_, (hP.2.1 t a h).2.2.1, rfl⟩
theorem T_row (h : ar t = some a) : gA (picT D cC A) (f, ar, ln, g) cC a (60, .inl (g t)) := fun H hP => (hP.2.1 t a h).2.2.2.1
theorem T_le (h : ar t = some a) {H : Heap} (hP : picT D cC A (f, ar, ln, g) H) : ln t ≤ 60 := (hP.2.1 t a h).2.2.2.2
theorem T_setlen (h : ar t = some a) {m : Nat} (hm : m ≤ 60) : pO D (picT D cC A) A (f, ar, ln, g) 10 t 1 (.int (nI m)) (f, ar, va_up ln t m, g) := by
  intro H hP
  obtain ⟨h1, h2, h3, h4⟩ := hP
  dsimp only at h1 h2 h3 h4
  obtain ⟨a1, a2, a3, a4, a5⟩ := h2 t a h
  obtain ⟨b1, b2, b3⟩ := h4 t a h
  refine ⟨a1, _, a3, Nat.le_of_ble_eq_true rfl, fun H' e1 e2 e3 => ⟨fun q e hq => ⟨(h1 q e hq).1, (h1 q e hq).2.kept (e3 q (fun z => ?_))⟩, fun t' a' h' => ?_, h3, h4⟩⟩
  · have hq9 : f q = some e := hq
    rw [z, b2] at hq9
    cases hq9
  · obtain ⟨c1, c2, c3, c4, c5⟩ := h2 t' a' h'
    refine ⟨c1, c2, ?_, c4.kept (e3 a' (fun z => ?_)), ?_⟩
    · by_cases ht : t' = t
      · subst ht
        cases h.symm.trans h'
        show va_at D vwCl (t', .inr (10, [.ref a, .int (nI (va_up ln t' m t'))])) H'
        rw [va_up_same]
        exact e1
      · show va_at D vwCl (t', .inr (10, [.ref a', .int (nI (va_up ln t m t'))])) H'
        rw [va_up_other _ _ _ ht]
        exact c3.kept (e3 t' ht)
    · have h9 : ar a' = none := (h4 t' a' h').1
      rw [z] at h9
      exact absurd (h.symm.trans h9) (by simp)
    · show va_up ln t m t' ≤ 60
      by_cases ht : t' = t
      · subst ht; rw [va_up_same]; exact hm
      · rw [va_up_other _ _ _ ht]; exact c5
theorem T_setrow (h : ar t = some a) (r : Nat → Int32) : pA (picT D cC A) A (f, ar, ln, g) cC a (60, .inl (g t)) (60, .inl r) (f, ar, ln, va_up g t r) := by
  intro H hP
  obtain ⟨h1, h2, h3, h4⟩ := hP
  dsimp only at h1 h2 h3 h4
  obtain ⟨a1, a2, a3, a4, a5⟩ := h2 t a h
  obtain ⟨b1, b2, b3⟩ := h4 t a h
  refine ⟨a2, a4, fun H' e1 e2 e3 => ⟨fun q e hq => ⟨(h1 q e hq).1, (h1 q e hq).2.kept (e3 q (fun z => ?_))⟩, fun t' a' h' => ?_, h3, h4⟩⟩
  · have hq9 : f q = some e := hq
    rw [z, b3] at hq9
    cases hq9
  · obtain ⟨c1, c2, c3, c4, c5⟩ := h2 t' a' h'
    refine ⟨c1, c2, c3.kept (e3 t' (fun z => ?_)), ?_, c5⟩
    · have h9 : ar t' = some a' := h'
      rw [z, b1] at h9
      cases h9
    · by_cases ht : t' = t
      · subst ht
        cases h.symm.trans h'
        show va_at D vwCl (a, .inl (cC, 60, .inl (va_up g t' r t'))) H'
        rw [va_up_same]
        exact e1
      · show va_at D vwCl (a', .inl (cC, 60, .inl (va_up g t r t'))) H'
        rw [va_up_other _ _ _ ht]
        exact c4.kept (e3 a' (fun z => ht (h3 t' t a (by rw [← z]; exact h') h)))
/-! other objects and arrays -/
theorem F_get {ci : Nat} {fs : List Value} {k : Nat} {v : Value} (h : f a = some (.inr (ci, fs))) (hv : fs[k]? = some v) : gO D (picT D cC A) (f, ar, ln, g) ci a k v := fun H hP => ⟨fs, (hP.1 a _ h).2, hv⟩
theorem F_arr {cA : ClassId} {y : vp_A} (h : f a = some (.inl (cA, y))) : gA (picT D cC A) (f, ar, ln, g) cA a y := fun H hP => (hP.1 a _ h).2
theorem F_up {e e' : va_E} {H H' : Heap} (hP : picT D cC A (f, ar, ln, g) H) (h : f a = some e) (e1 : va_at D vwCl (a, e') H') (e3 : ∀ q, q ≠ a → H'[q]? = H[q]?) : picT D cC A (va_up f a (some e'), ar, ln, g) H' := by
  obtain ⟨h1, h2, h3, h4⟩ := hP
  dsimp only at h1 h2 h3 h4
  refine ⟨fun q e9 hq => ?_, fun t' a' h' => ?_, h3, fun t' a' h' => ?_⟩
  · by_cases hqa : q = a
    · subst hqa
      have hq9 : va_up f q (some e') q = some e9 := hq
      rw [va_up_same] at hq9
      cases hq9
      exact ⟨(h1 q e h).1, e1⟩
    · have hq9 : va_up f a (some e') q = some e9 := hq
      rw [va_up_other _ _ _ hqa] at hq9
      exact ⟨(h1 q e9 hq9).1, (h1 q e9 hq9).2.kept (e3 q hqa)⟩
  · obtain ⟨c1, c2, c3, c4, c5⟩ := h2 t' a' h'
    obtain ⟨d1, d2, d3⟩ := h4 t' a' h'
    refine ⟨c1, c2, c3.kept (e3 t' (fun z => ?_)), c4.kept (e3 a' (fun z => ?_)), c5⟩
    · have d9 : f t' = none := d2
      rw [z, h] at d9
      cases d9
    · have d9 : f a' = none := d3
      rw [z, h] at d9
      cases d9
  · obtain ⟨d1, d2, d3⟩ := h4 t' a' h'
    refine ⟨d1, ?_, ?_⟩
    · show va_up f a (some e') t' = none
      rw [va_up_other _ _ _ (fun z => ?_)]
      · exact d2
      · have d9 : f t' = none := d2
        rw [z, h] at d9
        cases d9
    · show va_up f a (some e') a' = none
      rw [va_up_other _ _ _ (fun z => ?_)]
      · exact d3
      · have d9 : f a' = none := d3
        rw [z, h] at d9
        cases d9
theorem F_put {ci : Nat} {fs : List Value} {k : Nat} {v : Value} (h : f a = some (.inr (ci, fs))) (hk : k < fs.length) : pO D (picT D cC A) A (f, ar, ln, g) ci a k v (va_up f a (some (.inr (ci, fs.set k v))), ar, ln, g) :=
  fun H hP => ⟨(hP.1 a _ h).1, fs, (hP.1 a _ h).2, hk, fun H' e1 _ e3 => F_up hP h e1 e3⟩
theorem F_arrset {cA : ClassId} {y y' : vp_A} (h : f a = some (.inl (cA, y))) : pA (picT D cC A) A (f, ar, ln, g) cA a y y' (va_up f a (some (.inl (cA, y'))), ar, ln, g) :=
  fun H hP => ⟨(hP.1 a _ h).1, (hP.1 a _ h).2, fun H' e1 _ e3 => F_up hP h e1 e3⟩
theorem F_new (e : va_E) : nO D (picT D cC A) A (f, ar, ln, g) e (fun q => (va_up f q (some e), ar, ln, g)) (fun q => f q = none ∧ ar q = none ∧ ∀ t, ar t ≠ some q) := by
  intro H hP
  obtain ⟨h1, h2, h3, h4⟩ := hP
  dsimp only at h1 h2 h3 h4
  have n1 : f H.size = none := by
    cases hf : f H.size with
    | none => rfl
    | some e9 => exact absurd (h1 H.size e9 hf).2.lt (Nat.lt_irrefl _)
  have n2 : ar H.size = none := by
    cases hf : ar H.size with
    | none => rfl
    | some e9 => exact absurd (h2 H.size e9 hf).2.2.1.lt (Nat.lt_irrefl _)
  have n3 : ∀ t, ar t ≠ some H.size := fun t ht => absurd (h2 t _ ht).2.2.2.1.lt (Nat.lt_irrefl _)
  refine ⟨⟨n1, n2, n3⟩, fun hA H' e1 e2 e3 => ⟨fun q e9 hq => ?_, fun t' a' h' => ?_, h3, fun t' a' h' => ?_⟩⟩
  · by_cases hqa : q = H.size
    · subst hqa
      have hq9 : va_up f H.size (some e) H.size = some e9 := hq
      rw [va_up_same] at hq9
      cases hq9
      exact ⟨hA, e1⟩
    · have hq9 : va_up f H.size (some e) q = some e9 := hq
      rw [va_up_other _ _ _ hqa] at hq9
      exact ⟨(h1 q e9 hq9).1, (h1 q e9 hq9).2.kept (e3 q (h1 q e9 hq9).2.lt)⟩
  · obtain ⟨c1, c2, c3, c4, c5⟩ := h2 t' a' h'
    exact ⟨c1, c2, c3.kept (e3 t' c3.lt), c4.kept (e3 a' c4.lt), c5⟩
  · obtain ⟨d1, d2, d3⟩ := h4 t' a' h'
    refine ⟨d1, ?_, ?_⟩
    · show va_up f H.size (some e) t' = none
      rw [va_up_other _ _ _ (fun z => ?_)]
      · exact d2
      · have : ar t' = some a' := h'
        rw [z, n2] at this
        cases this
    · show va_up f H.size (some e) a' = none
      rw [va_up_other _ _ _ (fun z => n3 t' (by rw [← z]; exact h'))]
      exact d3
end TX
/-! ===== the picture by what the texts say ===== -/
abbrev fS : Type := (Nat → Option va_E) × (Nat → Option (List Int32))
def rep (T : Nat → Option (List Int32)) (ar : Nat → Option Nat) (ln : Nat → Nat) (g : Nat → Nat → Int32) : Prop :=
  (∀ t, T t = (ar t).map (fun _ => sl (g t) (ln t))) ∧ ∀ t a j, ar t = some a → j < ln t → ch (g t j)
def picF (D : va_G) (cC : ClassId) (A : Nat → Prop) (x : fS) (H : Heap) : Prop := ∃ ar ln g, rep x.2 ar ln g ∧ picT D cC A (x.1, ar, ln, g) H
section FX
variable {D : va_G} {cC : ClassId} {A : Nat → Prop} {f : Nat → Option va_E} {T : Nat → Option (List Int32)} {ar : Nat → Option Nat} {ln : Nat → Nat} {g : Nat → Nat → Int32} {t a : Nat} {s : List Int32}
theorem rep_arr (h : rep T ar ln g) (hT : T t = some s) : ∃ a, ar t = some a ∧ s = sl (g t) (ln t) := by
  have h1 := h.1 t
  rw [hT] at h1
  cases ha : ar t with
  | none => rw [ha] at h1; cases h1
  | some a => rw [ha] at h1; exact ⟨a, rfl, Option.some.inj h1⟩
theorem rep_some (h : rep T ar ln g) (ha : ar t = some a) : T t = some (sl (g t) (ln t)) := by rw [h.1 t, ha]; rfl
theorem rep_chs (h : rep T ar ln g) (hT : T t = some s) : chs s := by
  obtain ⟨a, ha, rfl⟩ := rep_arr h hT
  intro c hc
  unfold sl at hc
  obtain ⟨j, hj, rfl⟩ := List.mem_map.mp hc
  exact h.2 t a j ha (List.mem_range.mp hj)
theorem rep_set (h : rep T ar ln g) (ha : ar t = some a) {m : Nat} {r : Nat → Int32} {s' : List Int32} (hs : sl r m = s') (hc : ∀ j, j < m → ch (r j)) : rep (va_up T t (some s')) ar (va_up ln t m) (va_up g t r) := by
  refine ⟨fun t' => ?_, fun t' a' j h' hj => ?_⟩
  · by_cases ht : t' = t
    · subst ht
      rw [va_up_same, va_up_same, va_up_same, ha, ← hs]; rfl
    · rw [va_up_other _ _ _ ht, va_up_other _ _ _ ht, va_up_other _ _ _ ht]; exact h.1 t'
  · by_cases ht : t' = t
    · subst ht
      rw [va_up_same] at hj ⊢
      exact hc j hj
    · rw [va_up_other _ _ _ ht] at hj ⊢
      exact h.2 t' a' j h' hj
theorem rep_len (h : rep T ar ln g) (ha : ar t = some a) {m : Nat} {s' : List Int32} (hs : sl (g t) m = s') (hc : ∀ j, j < m → ch (g t j)) : rep (va_up T t (some s')) ar (va_up ln t m) g := by
  have h2 := rep_set h ha hs hc
  have e : va_up g t (g t) = g := by
    funext q
    by_cases hq : q = t
    · subst hq; rw [va_up_same]
    · rw [va_up_other _ _ _ hq]
  rw [e] at h2
  exact h2
/-- an array written beyond the text's length, or as the text has it -/
theorem rep_row (h : rep T ar ln g) (ha : ar t = some a) {r : Nat → Int32} (hs : ∀ j, j < ln t → r j = g t j) : rep T ar ln (va_up g t r) := by
  refine ⟨fun t' => ?_, fun t' a' j h' hj => ?_⟩
  · by_cases ht : t' = t
    · subst ht
      rw [va_up_same, sl_congr hs]; exact h.1 t'
    · rw [va_up_other _ _ _ ht]; exact h.1 t'
  · by_cases ht : t' = t
    · subst ht
      rw [va_up_same, hs j hj]
      exact h.2 t' a' j h' hj
    · rw [va_up_other _ _ _ ht]
      exact h.2 t' a' j h' hj
theorem FF_len (hT : T t = some s) : gO D (picF D cC A) (f, T) 10 t 1 (.int (nI s.length)) := by
  intro H hP
  obtain ⟨ar, ln, g, h1, h2⟩ := hP
  obtain ⟨a, ha, rfl⟩ := rep_arr h1 hT
  rw [sl_len]
  exact T_len ha H h2
theorem FF_txt (hT : T t = some s) : gC D (picF D cC A) (f, T) 10 t := (FF_len hT).gC
theorem FF_le (hT : T t = some s) {H : Heap} (hP : picF D cC A (f, T) H) : s.length ≤ 60 ∧ chs s := by
  obtain ⟨ar, ln, g, h1, h2⟩ := hP
  refine ⟨?_, rep_chs h1 hT⟩
  obtain ⟨a, ha, rfl⟩ := rep_arr h1 hT
  rw [sl_len]
  exact T_le ha h2
theorem FF_get {ci : Nat} {fs : List Value} {k : Nat} {v : Value} (h : f a = some (.inr (ci, fs))) (hv : fs[k]? = some v) : gO D (picF D cC A) (f, T) ci a k v := by
  intro H hP
  obtain ⟨ar, ln, g, h1, h2⟩ := hP
  exact F_get h hv H h2
theorem FF_arr {cA : ClassId} {y : vp_A} (h : f a = some (.inl (cA, y))) : gA (picF D cC A) (f, T) cA a y := by
  intro H hP
  obtain ⟨ar, ln, g, h1, h2⟩ := hP
  exact F_arr h H h2
theorem FF_put {ci : Nat} {fs : List Value} {k : Nat} {v : Value} (h : f a = some (.inr (ci, fs))) (hk : k < fs.length) : pO D (picF D cC A) A (f, T) ci a k v (va_up f a (some (.inr (ci, fs.set k v))), T) := by
  intro H hP
  obtain ⟨ar, ln, g, h1, h2⟩ := hP
  obtain ⟨b1, fs', b2, b3, b4⟩ := F_put (v := v) h hk H h2
  exact ⟨b1, fs', b2, b3, fun H' e1 e2 e3 => ⟨ar, ln, g, h1, b4 H' e1 e2 e3⟩⟩
theorem FF_arrset {cA : ClassId} {y y' : vp_A} (h : f a = some (.inl (cA, y))) : pA (picF D cC A) A (f, T) cA a y y' (va_up f a (some (.inl (cA, y'))), T) := by
  intro H hP
  obtain ⟨ar, ln, g, h1, h2⟩ := hP
  obtain ⟨b1, b2, b3⟩ := F_arrset (y' := y') h H h2
  exact ⟨b1, b2, fun H' e1 e2 e3 => ⟨ar, ln, g, h1, b3 H' e1 e2 e3⟩⟩
theorem FF_new (e : va_E) : nO D (picF D cC A) A (f, T) e (fun q => (va_up f q (some e), T)) (fun q => f q = none ∧ T q = none) := by
  intro H hP
  obtain ⟨ar, ln, g, h1, h2⟩ := hP
  obtain ⟨⟨n1, n2, n3⟩, b⟩ := F_new e H h2
  refine ⟨⟨n1, ?_⟩, fun hA H' e1 e2 e3 => ⟨ar, ln, g, h1, b hA H' e1 e2 e3⟩⟩
  have h9 : T H.size = (ar H.size).map (fun _ => sl (g H.size) (ln H.size)) := h1.1 H.size
  show T H.size = none
  rw [h9, n2]; rfl
end FX
section FV
variable {p : Program} {l : Launch} {e : Env} {R : Room} {s : State} {m : MethodId} {args : Array Value} {below : List Frame} {meth : Method} {c : Code} {Q : State → Prop}
variable {D : va_G} {cC : ClassId} {A : Nat → Prop} {nL k n pc : Nat} {lv : List (Nat × Value)} {st : List Value} {f : Nat → Option va_E} {T : Nat → Option (List Int32)}
theorem v_open (kk : ∀ ar ln g, rep T ar ln g → vv (picT D cC A) A nL p l e R s m args below meth c Q (f, ar, ln, g) k n pc lv st) : vv (picF D cC A) A nL p l e R s m args below meth c Q (f, T) k n pc lv st := by
  intro H locs ls hP hS hl
  obtain ⟨ar, ln, g, h1, h2⟩ := hP
  exact kk ar ln g h1 H locs ls h2 hS hl
theorem v_close {ar : Nat → Option Nat} {ln : Nat → Nat} {g : Nat → Nat → Int32} (h : rep T ar ln g) (kk : vv (picF D cC A) A nL p l e R s m args below meth c Q (f, T) k n pc lv st) : vv (picT D cC A) A nL p l e R s m args below meth c Q (f, ar, ln, g) k n pc lv st :=
  fun H locs ls hP hS hl => kk H locs ls ⟨ar, ln, g, h, hP⟩ hS hl
end FV
section FC
variable {D : va_G} {cC : ClassId} {A : Nat → Prop} {tys : List (ClassId × FieldType)} {z0 : Nat} {l : Launch} {y : MethodName} {ws : List Cond} {rm : Room} {av : List Value} {f : Nat → Option va_E} {T : Nat → Option (List Int32)}
theorem ct_FV {post : (Nat → Option Nat) → (Nat → Nat) → (Nat → Nat → Int32) → tS → Prop} {post' : fS → Prop} (h : ∀ ar ln g, rep T ar ln g → ct D tys z0 A (picT D cC A) l y ws rm av (f, ar, ln, g) (qV (picT D cC A) A (post ar ln g)))
    (hq : ∀ ar ln g, rep T ar ln g → ∀ x : tS, post ar ln g x → ∃ T', rep T' x.2.1 x.2.2.1 x.2.2.2 ∧ post' (x.1, T')) : ct D tys z0 A (picF D cC A) l y ws rm av (f, T) (qV (picF D cC A) A post') := by
  refine ct_ex (G := (Nat → Option Nat) × (Nat → Nat) × (Nat → Nat → Int32)) (fun i => rep T i.1 i.2.1 i.2.2) (fun i => (f, i.1, i.2.1, i.2.2)) (fun i => qV (picT D cC A) A (post i.1 i.2.1 i.2.2)) (fun i hi => h _ _ _ hi) (fun H hP => ?_) (fun i a s o t hi hQ => ?_)
  · obtain ⟨ar, ln, g, h1, h2⟩ := hP
    exact ⟨(ar, ln, g), h1, h2⟩
  · obtain ⟨⟨u, ho, hp, hb⟩, hF⟩ := hQ
    obtain ⟨T', h1, h2⟩ := hq _ _ _ hi u hp
    exact ⟨⟨(u.1, T'), ho, h2, ⟨u.2.1, u.2.2.1, u.2.2.2, h1, hb⟩⟩, hF⟩
theorem ct_FI {post : (Nat → Option Nat) → (Nat → Nat) → (Nat → Nat → Int32) → Int32 → tS → Prop} {post' : Int32 → fS → Prop} (h : ∀ ar ln g, rep T ar ln g → ct D tys z0 A (picT D cC A) l y ws rm av (f, ar, ln, g) (qI (picT D cC A) A (post ar ln g)))
    (hq : ∀ ar ln g, rep T ar ln g → ∀ (r : Int32) (x : tS), post ar ln g r x → ∃ T', rep T' x.2.1 x.2.2.1 x.2.2.2 ∧ post' r (x.1, T')) : ct D tys z0 A (picF D cC A) l y ws rm av (f, T) (qI (picF D cC A) A post') := by
  refine ct_ex (G := (Nat → Option Nat) × (Nat → Nat) × (Nat → Nat → Int32)) (fun i => rep T i.1 i.2.1 i.2.2) (fun i => (f, i.1, i.2.1, i.2.2)) (fun i => qI (picT D cC A) A (post i.1 i.2.1 i.2.2)) (fun i hi => h _ _ _ hi) (fun H hP => ?_) (fun i a s o t hi hQ => ?_)
  · obtain ⟨ar, ln, g, h1, h2⟩ := hP
    exact ⟨(ar, ln, g), h1, h2⟩
  · obtain ⟨⟨r, u, ho, hp, hb⟩, hF⟩ := hQ
    obtain ⟨T', h1, h2⟩ := hq _ _ _ hi r u hp
    exact ⟨⟨r, (u.1, T'), ho, h2, ⟨u.2.1, u.2.2.1, u.2.2.2, h1, hb⟩⟩, hF⟩
end FC
