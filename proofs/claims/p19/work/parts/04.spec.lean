/-! ===== what the texts mean: lists of signs (Int32); both programs are tied to these ===== -/
/-- the first n places of an array -/
def sl (g : Nat → Int32) (n : Nat) : List Int32 := (List.range n).map g
theorem sl_len (g : Nat → Int32) (n : Nat) : (sl g n).length = n := by simp [sl]
theorem sl_get {g : Nat → Int32} {n j : Nat} (h : j < n) : (sl g n)[j]? = some (g j) := by simp [sl, h]
theorem sl_getD {g : Nat → Int32} {n j : Nat} (h : j < n) : (sl g n).getD j 0 = g j := by simp [sl, List.getD_eq_getElem?_getD, h]
theorem sl_0 (g : Nat → Int32) : sl g 0 = [] := rfl
theorem sl_succ (g : Nat → Int32) (n : Nat) : sl g (n + 1) = sl g n ++ [g n] := by simp [sl, List.range_succ]
theorem sl_congr {f g : Nat → Int32} {n : Nat} (h : ∀ j, j < n → f j = g j) : sl f n = sl g n := by
  unfold sl
  exact List.map_congr_left (fun j hj => h j (List.mem_range.mp hj))
theorem sl_upd {g : Nat → Int32} {n k : Nat} {v : Int32} (h : n ≤ k) : sl (upd g k v) n = sl g n := sl_congr (fun j hj => by unfold upd; rw [if_neg (by omega)])
theorem sl_push (g : Nat → Int32) (n : Nat) (v : Int32) : sl (upd g n v) (n + 1) = sl g n ++ [v] := by
  rw [sl_succ, sl_upd (Nat.le_refl n)]
  simp [upd]
theorem sl_inj {f g : Nat → Int32} {n m : Nat} (h : sl f n = sl g m) : n = m ∧ ∀ j, j < n → f j = g j := by
  have h1 : n = m := by have := congrArg List.length h; simpa [sl_len] using this
  subst h1
  refine ⟨rfl, fun j hj => ?_⟩
  have h2 : (sl f n)[j]? = (sl g n)[j]? := by rw [h]
  rw [sl_get hj, sl_get hj] at h2
  exact Option.some.inj h2
theorem sl_of {g : Nat → Int32} {s : List Int32} (h : ∀ j, j < s.length → g j = s.getD j 0) : sl g s.length = s := by
  apply List.ext_getElem?
  intro j
  by_cases hj : j < s.length
  · rw [sl_get hj, h j hj, List.getD_eq_getElem?_getD, List.getElem?_eq_getElem hj]; rfl
  · rw [List.getElem?_eq_none (by rw [sl_len]; omega), List.getElem?_eq_none (by omega)]
/-- a sign as the JVM's char has it -/
def ch (c : Int32) : Prop := narrow .char (.int c) = .int c
theorem ch_nar {c : Int32} (h : ch c) : vp_nar .char c = c := by
  unfold ch at h
  unfold vp_nar
  rw [h]
def chs (s : List Int32) : Prop := ∀ c ∈ s, ch c
theorem chs_nil : chs [] := fun _ h => by cases h
theorem chs_app {s t : List Int32} (h1 : chs s) (h2 : chs t) : chs (s ++ t) := fun c hc => (List.mem_append.mp hc).elim (h1 c) (h2 c)
theorem chs_take {s : List Int32} (h : chs s) (n : Nat) : chs (s.take n) := fun c hc => h c (List.mem_of_mem_take hc)
theorem chs_drop {s : List Int32} (h : chs s) (n : Nat) : chs (s.drop n) := fun c hc => h c (List.mem_of_mem_drop hc)
theorem chs_getD {s : List Int32} (h : chs s) {j : Nat} (hj : j < s.length) : ch (s.getD j 0) := by
  rw [List.getD_eq_getElem?_getD, List.getElem?_eq_getElem hj]
  exact h _ (List.getElem_mem hj)
/-- one sign behind, while there is room -/
def put60 (s : List Int32) (c : Int32) : List Int32 := if s.length < 60 then s ++ [c] else s
def app60 (s t : List Int32) : List Int32 := (s ++ t).take 60
theorem put60_app {s : List Int32} (h : s.length ≤ 60) (c : Int32) : put60 s c = app60 s [c] := by
  unfold put60 app60
  split
  · rw [List.take_of_length_le (by simp; omega)]
  · rw [List.take_append_of_le_length (by omega), List.take_of_length_le h]
theorem app60_len (s t : List Int32) : (app60 s t).length ≤ 60 := by simp [app60]; omega
theorem put60_len {s : List Int32} (h : s.length ≤ 60) (c : Int32) : (put60 s c).length ≤ 60 := by rw [put60_app h]; exact app60_len _ _
theorem app60_nil {s : List Int32} (h : s.length ≤ 60) : app60 s [] = s := by unfold app60; rw [List.append_nil, List.take_of_length_le h]
theorem app60_app (s t u : List Int32) : app60 (app60 s t) u = app60 s (t ++ u) := by
  unfold app60
  rw [← List.append_assoc, List.take_append, List.take_append (l₁ := s ++ t), List.take_take, Nat.min_self]
  congr 1
  rw [List.length_take]
  by_cases h : 60 ≤ (s ++ t).length
  · rw [Nat.min_eq_left h, Nat.sub_self, Nat.sub_eq_zero_of_le h]
  · rw [Nat.min_eq_right (by omega)]
theorem app60_snoc (s t : List Int32) (c : Int32) : app60 s (t ++ [c]) = put60 (app60 s t) c := by rw [put60_app (app60_len s t), app60_app]
theorem chs_put60 {s : List Int32} {c : Int32} (h : chs s) (hc : ch c) : chs (put60 s c) := by
  unfold put60
  split
  · exact chs_app h (fun x hx => by cases List.mem_singleton.mp hx; exact hc)
  · exact h
theorem chs_app60 {s t : List Int32} (h : chs s) (ht : chs t) : chs (app60 s t) := chs_take (chs_app h ht) 60
/-! numbers in texts -/
def isDig (c : Int32) : Bool := decide (48 ≤ c) && decide (c ≤ 57)
/-- 1 where the text begins with '-' -/
def nst (s : List Int32) : Nat := if s.head? = some 45 then 1 else 0
/-- how many digits it begins with, k at the most -/
def nrun : List Int32 → Nat → Nat
  | c :: t, k + 1 => if isDig c = true then nrun t k + 1 else 0
  | _, _ => 0
def nlen (s : List Int32) : Nat := if nrun (s.drop (nst s)) 9 = 0 then 0 else nst s + nrun (s.drop (nst s)) 9
def nval : List Int32 → Nat → Int32 → Int32
  | c :: t, k + 1, a => nval t k (a * 10 + (c - 48))
  | _, _, a => a
def num (s : List Int32) : Int32 := if nst s = 1 then -(nval (s.drop (nst s)) (nrun (s.drop (nst s)) 9) 0) else nval (s.drop (nst s)) (nrun (s.drop (nst s)) 9) 0
def isNum (s : List Int32) : Bool := decide (0 < s.length) && decide (nlen s = s.length)
def sameN (s : List Int32) (n : Int32) : Bool := isNum s && decide (num s = n)
def fdif : List Int32 → List Int32 → Nat
  | a :: s, b :: t => if a = b then fdif s t + 1 else 0
  | _, _ => 0
def rank (c : Int32) : Int32 := if c = 32 then 0 else if c = 45 then 1 else if c = 44 then 2 else c
def lessT (s u : List Int32) : Bool :=
  if (isNum s && isNum u) = true then decide (num s < num u)
  else if fdif s u < s.length ∧ fdif s u < u.length then decide (rank (s.getD (fdif s u) 0) < rank (u.getD (fdif s u) 0)) else decide (s.length < u.length)
/-! a number as a text -/
def ndig (n : Nat) : Nat := if n < 10 then 1 else if n < 100 then 2 else if n < 1000 then 3 else if n < 10000 then 4 else if n < 100000 then 5 else if n < 1000000 then 6 else if n < 10000000 then 7 else if n < 100000000 then 8 else if n < 1000000000 then 9 else 10
def dig (n k : Nat) : Int32 := nI (48 + n / 10 ^ k % 10)
/-- the digits k-1 .. 0 of n -/
def dl (n : Nat) : Nat → List Int32
  | 0 => []
  | k + 1 => dig n k :: dl n k
def dec (x : Int32) : List Int32 := if x < 0 then 45 :: dl x.toInt.natAbs (ndig x.toInt.natAbs) else dl x.toInt.natAbs (ndig x.toInt.natAbs)
/-! fields: the cut of a record -/
def cutG (sep : Int32) : List Int32 → Nat → (Nat → List Int32) → Nat × (Nat → List Int32)
  | [], n, f => (n, f)
  | c :: t, n, f => if c = sep ∧ n < 12 then cutG sep t (n + 1) f else cutG sep t n (va_up f (n - 1) (f (n - 1) ++ [c]))
def cutR (sep : Int32) (r : List Int32) : Nat × (Nat → List Int32) := cutG sep r (if r = [] then 0 else 1) (fun _ => [])
/-- how many fields -/
def nfd (sep : Int32) (r : List Int32) : Nat := (cutR sep r).1
/-- the text of the field k, 0 the record -/
def fld (sep : Int32) (r : List Int32) (k : Nat) : List Int32 := if k = 0 then r else (cutR sep r).2 (k - 1)
/-- the fields 1 to m with separators between -/
def joinG (sep : Int32) (F : Nat → List Int32) : Nat → List Int32
  | 0 => []
  | m + 1 => app60 (if m = 0 then [] else put60 (joinG sep F m) sep) (F (m + 1))
/-- the record when the field k became v -/
def setR (sep : Int32) (r : List Int32) (k : Nat) (v : List Int32) : List Int32 := if k = 0 then v else joinG sep (va_up (fld sep r) k v) (max (nfd sep r) k)
